/-! ===== the two constructors ===== -/
def zGet (o : Option (Unit × zH)) : zH := match o with
  | some q => q.2
  | none => zh0
theorem zGet_of {o : Option (Unit × zH)} (h : o.isSome = true) : o = some ((), zGet o) := by
  cases o with
  | none => cases h
  | some q => rfl
def zhA : zH := znew zh0 9 20
def zhC : zH := zGet (F_X10_init 0 zhA 0)
def zhM : zH := znew zhC 10 51
def zhL : zH := zGet (F_X11_init 0 zhM 67)
theorem n_X10_init (n : Nat) (h : zH) (a : Nat) : F_X10_init n h a = F_X10_init 0 h a := by
  unfold F_X10_init F_X3_init F_X6_init F_X0_init F_X4_init F_X8_init F_X7_init F_X1_init F_X9_init F_X2_init F_X5_init
  rfl
theorem n_X11_init (n : Nat) (h : zH) (a : Nat) : F_X11_init n h a = F_X11_init 0 h a := rfl
set_option maxRecDepth 100000 in
theorem zhC_some : (F_X10_init 0 zhA 0).isSome = true := by decide +kernel
set_option maxRecDepth 100000 in
theorem zhC_sz : zsz zhC = 67 := by decide +kernel
set_option maxRecDepth 100000 in
theorem zhL_some : (F_X11_init 0 zhM 67).isSome = true := by decide +kernel
