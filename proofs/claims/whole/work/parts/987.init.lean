/-! ===== the two constructors ===== -/
def zGet (o : Option (Unit × zH)) : zH := match o with
  | some q => q.2
  | none => zh0
theorem zGet_of {o : Option (Unit × zH)} (h : o.isSome = true) : o = some ((), zGet o) := by
  cases o with
  | none => cases h
  | some q => rfl
def zhA : zH := znew zh0 9 20
def zhC : zH := zGet (F_X10_init 600 zhA 0)
def zhM : zH := znew zhC 10 51
def zhL : zH := zGet (F_X11_init 0 zhM 85)
theorem n_X11_init (n : Nat) (h : zH) (a : Nat) : F_X11_init n h a = F_X11_init 0 h a := rfl
set_option maxRecDepth 100000 in
theorem zhC_some : (F_X10_init 600 zhA 0).isSome = true := by decide +kernel
set_option maxRecDepth 100000 in
theorem zhC_sz : zsz zhC = 85 := by decide +kernel
set_option maxRecDepth 100000 in
theorem zhL_some : (F_X11_init 0 zhM 85).isSome = true := by decide +kernel
