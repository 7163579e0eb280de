/-! ===== calls and ends ===== -/
def zLs (own : String) (index : Nat) (y : MethodName) (b : ByteArray) (maxL : Nat) (ret : Option FieldType) (n : Nat) : Prop := Cond.methodLink own index y ∈ ztb ∧ Cond.initialized y.cls ∈ ztb ∧ Cond.code y b maxL ret ∈ ztb ∧ y.cls ≠ "java/lang/invoke/MethodHandle" ∧ y.cls ≠ "java/lang/invoke/VarHandle" ∧ (parseMethodDescriptor y.desc).map (fun d => d.parameters.length) = some n
def zLv (own : String) (index ci sn : Nat) (y : MethodName) (b : ByteArray) (maxL : Nat) (ret : Option FieldType) (n : Nat) : Prop := (∃ T : u_T, zclasses[ci]? = some (y.cls, T, sn)) ∧ ci < 11 ∧ Cond.instanceMethod y ∈ ztb ∧ Cond.selects y.cls y y ∈ ztb ∧ zLs own index y b maxL ret n
def zLt (own : String) (index : Nat) (y : MethodName) (b : ByteArray) (maxL : Nat) (ret : Option FieldType) (n : Nat) : Prop := Cond.static y ∈ ztb ∧ zLs own index y b maxL ret n
def zLi (own : String) (index : Nat) (y : MethodName) (b : ByteArray) (maxL n : Nat) : Prop := y.name = "<init>" ∧ Cond.instanceMethod y ∈ ztb ∧ zLs own index y b maxL none n
def zLn (own : String) (index : Nat) (y : MethodName) (b : ByteArray) (maxL n : Nat) : Prop := y.name = "<init>" ∧ Cond.instanceMethod y ∈ ztb ∧ (∃ host, Cond.methodLinkNest own index y host ∈ lw_tbl) ∧ Cond.initialized y.cls ∈ ztb ∧ Cond.code y b maxL none ∈ ztb ∧ y.cls ≠ "java/lang/invoke/MethodHandle" ∧ y.cls ≠ "java/lang/invoke/VarHandle" ∧ (parseMethodDescriptor y.desc).map (fun d => d.parameters.length) = some n
/-- a call by an abstract method of a class above: x is what is named, y what is run -/
def zLa (own : String) (index ci sn : Nat) (x y : MethodName) (b : ByteArray) (maxL : Nat) (ret : Option FieldType) (n : Nat) : Prop := (∃ T : u_T, zclasses[ci]? = some (y.cls, T, sn)) ∧ ci < 11 ∧ Cond.methodLink own index x ∈ ztb ∧ Cond.sameMethod x.cls x.cls x.name x.desc ∈ ztb ∧ Cond.selects y.cls x y ∈ ztb ∧ Cond.instanceMethod y ∈ ztb ∧ Cond.initialized y.cls ∈ ztb ∧ Cond.code y b maxL ret ∈ ztb ∧ Cond.declares ⟨x.cls, x.name, x.desc⟩ ∈ lw_tbl ∧ x.cls ≠ "java/lang/invoke/MethodHandle" ∧ x.cls ≠ "java/lang/invoke/VarHandle" ∧ (parseMethodDescriptor x.desc).map (fun d => d.parameters.length) = some n
section ZR7
variable {p : Program} {l : Launch} {e : Env} {R : Room} {s : State} {m : MethodId} {args : Array Value} {below : List Frame} {meth : Method} {c : Code} {E : zE} {nL : Nat} {Q : State → Prop} {cells slots pc : Nat} {lo : List (Nat × Value)} {st : List Value} {h : zH} {cc : ByteArray} {own : String} {β : Type} {res : β}
theorem zgo {H : Heap} {locs : List Loc} {ls : Array Slot} {rest st0 : List Value} {mc ms : Nat} {h' : zH} {rv : Option Value} {a : Array Value} (hr : va_Run p l e R s m args below meth c H locs cells slots mc ms (F0 m pc ls st0) rest (zQc E h' rv a) (zfr E)) (hL : ∀ q ∈ locs, zfr E q.base) (hlo : lv_has ls nL lo)
    (kk : zW p l e R s m args below meth c E nL Q (cells + mc) (slots + ms) (pc + 3) lo (rv.toList ++ rest) h') : W p l e R s m args below meth c H locs cells slots Q (F0 m pc ls st0) := by
  intro T hT X
  obtain ⟨v, st₀, t, T', L, h0, X', hL2, e1, e2, ⟨hv, hrep⟩, stp⟩ := hr T hT X
  cases hv
  obtain ⟨t2, a1, b1⟩ := kk T'.heap (locs ++ L) ls (by rw [e1]; exact hrep) (fun q hq => by
    rcases List.mem_append.mp hq with z | z
    · exact hL q z
    · exact hL2 q z) hlo T' rfl X'
  exact ⟨t2, stp t2 a1, b1⟩
theorem zpre {h : zH} {H : Heap} {av : List Value} (hR : zRep E h H) (hK : zK E s) : FrameBlind (zPc E h av) ∧ ∀ U : State, U.heap = H → s.WarmedH U.vm → zPc E h av av.toArray U := ⟨zPc_blind, fun U hU hW => ⟨rfl, by rw [hU]; exact hR, zK_warm hW hK⟩⟩
theorem zrecv {h : zH} {H : Heap} {a ci sn : Nat} {Cn : String} {T : u_T} (hR : zRep E h H) (hK : zK E s) (hs : zsh h a = some (ci, sn)) (hci : ci < 11) (hc : zclasses[ci]? = some (Cn, T, sn)) : ∃ cellB : Cell, H[zB E + a]? = some cellB ∧ cellB.vm.isStatics = false ∧ s.vm.findClass Cn = some cellB.cls := by
  obtain ⟨-, cell, q1, q2, q3, -⟩ := zRep_obj hR hs hci
  exact ⟨cell, q1, by rw [q3]; rfl, by rw [q2]; exact (hK.1.1 ci _ hc).2.1⟩
theorem zfix (C : zC p s m args meth c cc nL own E) : CallFix p m c cc nL s args ztb own := ⟨C.1, C.2.1, C.2.2.1, C.2.2.2.1, C.2.2.2.2.1⟩
theorem zcb {index : Nat} {y : MethodName} {b : ByteArray} {maxL n mc ms : Nat} {ret : Option FieldType} {rm : Room} (hts : ∀ w ∈ ztb, w.before args s = true) (hl : zLs own index y b maxL ret n) (hrm : rm.cells = mc ∧ rm.slots = ms) (hR : rm.frames + 1 ≤ R.frames ∧ 8 + (maxL + 11) + rm.locals ≤ R.locals) : CallB R s args own index y b maxL ret (zw y b maxL ret) rm mc ms n :=
  callB_of n hts (zGood (zw_in hl.2.2.1)) rfl hrm.1 hrm.2 (hts _ hl.2.1) (hts _ hl.1) hl.2.2.2 hR
theorem zcf {α : Type} {f : Option (α × zH)} {k : α → zH → Option β} (hf : zc f k = some res) : ∃ x, f = some x ∧ k x.1 x.2 = some res := by
  cases f with
  | none => cases hf
  | some x => exact ⟨x, rfl, hf⟩
theorem zr_callV (C : zC p s m args meth c cc nL own E) {α : Type} {f : Option (α × zH)} {k : α → zH → Option β} {index ci sn a maxL n mc ms : Nat} {y : MethodName} {b : ByteArray} {ret : Option FieldType} {rm : Room} {As rest : List Value} (rv : α → Option Value) (hf : zcv h a ci sn f k = some res) (hM : ∀ x, f = some x → Met l y (zw y b maxL ret) rm (zPc E h (.ref (zB E + a) :: As)) (zQc E x.2 (rv x.1)) mc ms (zfr E)) (hl : zLv own index ci sn y b maxL ret n)
    (hn : As.length = n) (hst : st = As.reverse ++ .ref (zB E + a) :: rest) (hro : (rest.map fun v => v.category).sum ≤ 8) (hrm : rm.cells = mc ∧ rm.slots = ms) (hR : rm.frames + 1 ≤ R.frames ∧ 8 + (maxL + 11) + rm.locals ≤ R.locals) (hfc : cells + mc ≤ R.cells ∧ slots + ms ≤ R.slots) (hdg : decode cc pc = .ok (.invokevirtual index, 3))
    (kk : ∀ x h', k x h' = some res → zW p l e R s m args below meth c E nL Q (cells + mc) (slots + ms) (pc + 3) lo ((rv x).toList ++ rest) h') : zW p l e R s m args below meth c E nL Q cells slots pc lo st h := by
  intro H locs ls hRp hL hlo
  obtain ⟨hs, hf⟩ := zif hf
  obtain ⟨x, hx, hk⟩ := zcf hf
  obtain ⟨⟨T, hc⟩, hci, w1, w2, hls⟩ := hl
  have hp := zpre (av := .ref (zB E + a) :: As) hRp C.2.2.2.2.2.1
  subst hst
  exact zgo (va_runV (As := As) (rest := rest) (C := y.cls) (zfix C) (hM x hx) ⟨zcb C.2.2.2.2.1 hls hrm hR, C.2.2.2.2.1 _ w1, C.2.2.2.2.1 _ w2⟩ ⟨hp.1, zrecv hRp C.2.2.2.2.2.1 hs hci hc, hp.2⟩ rfl hn hlo.1 rfl (lv_room hro) hdg hfc) hL hlo (kk _ _ hk)
theorem zr_callA (C : zC p s m args meth c cc nL own E) {α : Type} {f : Option (α × zH)} {k : α → zH → Option β} {index ci sn a maxL n mc ms : Nat} {x y : MethodName} {b : ByteArray} {ret : Option FieldType} {rm : Room} {As rest : List Value} (rv : α → Option Value) (hf : zcv h a ci sn f k = some res) (hM : ∀ x, f = some x → Met l y (zw y b maxL ret) rm (zPc E h (.ref (zB E + a) :: As)) (zQc E x.2 (rv x.1)) mc ms (zfr E)) (hl : zLa own index ci sn x y b maxL ret n)
    (hn : As.length = n) (hst : st = As.reverse ++ .ref (zB E + a) :: rest) (hro : (rest.map fun v => v.category).sum ≤ 8) (hrm : rm.cells = mc ∧ rm.slots = ms) (hR : rm.frames + 1 ≤ R.frames ∧ 8 + (maxL + 11) + rm.locals ≤ R.locals) (hfc : cells + mc ≤ R.cells ∧ slots + ms ≤ R.slots) (hdg : decode cc pc = .ok (.invokevirtual index, 3))
    (kk : ∀ x h', k x h' = some res → zW p l e R s m args below meth c E nL Q (cells + mc) (slots + ms) (pc + 3) lo ((rv x).toList ++ rest) h') : zW p l e R s m args below meth c E nL Q cells slots pc lo st h := by
  intro H locs ls hRp hL hlo
  obtain ⟨hs, hf⟩ := zif hf
  obtain ⟨z, hx, hk⟩ := zcf hf
  obtain ⟨⟨T, hc⟩, hci, w1, w2, w3, w4, w5, w6, w7, hd1, hd2, hd3⟩ := hl
  have hts := C.2.2.2.2.1
  have hp := zpre (av := .ref (zB E + a) :: As) hRp C.2.2.2.2.2.1
  subst hst
  have hgi : GoodIn ztb (va_wsU own index y.cls x.cls x y (zw y b maxL ret)) := zGood (fun w hw => by
    rcases List.mem_append.mp hw with hw | hw
    · simp only [List.mem_cons, List.not_mem_nil, or_false] at hw
      rcases hw with rfl | rfl | rfl | rfl | rfl
      · exact w1
      · exact w2
      · exact w3
      · exact w4
      · exact w5
    · exact zw_in w6 w hw)
  exact zgo (va_runU (As := As) (rest := rest) (zfix C) (hM z hx) (va_cwA n hts hgi rfl hrm.1 hrm.2 (C.2.2.2.2.2.1.2.1 _ w7 rfl) ⟨hd1, hd2, hd3⟩ hR) ⟨hp.1, zrecv hRp C.2.2.2.2.2.1 hs hci hc, hp.2⟩ rfl hn hlo.1 rfl (lv_room hro) hdg hfc) hL hlo (kk _ _ hk)
theorem zr_callS (C : zC p s m args meth c cc nL own E) {α : Type} {f : Option (α × zH)} {k : α → zH → Option β} {index maxL n mc ms : Nat} {y : MethodName} {b : ByteArray} {ret : Option FieldType} {rm : Room} {As rest : List Value} (rv : α → Option Value) (hf : zc f k = some res) (hM : ∀ x, f = some x → Met l y (zw y b maxL ret) rm (zPc E h As) (zQc E x.2 (rv x.1)) mc ms (zfr E)) (hl : zLt own index y b maxL ret n)
    (hn : As.length = n) (hst : st = As.reverse ++ rest) (hro : (rest.map fun v => v.category).sum ≤ 8) (hrm : rm.cells = mc ∧ rm.slots = ms) (hR : rm.frames + 1 ≤ R.frames ∧ 8 + (maxL + 11) + rm.locals ≤ R.locals) (hfc : cells + mc ≤ R.cells ∧ slots + ms ≤ R.slots) (hdg : decode cc pc = .ok (.invokestatic index, 3))
    (kk : ∀ x h', k x h' = some res → zW p l e R s m args below meth c E nL Q (cells + mc) (slots + ms) (pc + 3) lo ((rv x).toList ++ rest) h') : zW p l e R s m args below meth c E nL Q cells slots pc lo st h := by
  intro H locs ls hRp hL hlo
  obtain ⟨x, hx, hk⟩ := zcf hf
  subst hst
  exact zgo (va_runS (As := As) (rest := rest) (zfix C) (hM x hx) ⟨zcb C.2.2.2.2.1 hl.2 hrm hR, C.2.2.2.2.1 _ hl.1⟩ (zpre hRp C.2.2.2.2.2.1) rfl hn hlo.1 rfl (lv_room hro) hdg hfc) hL hlo (kk _ _ hk)
theorem zr_callI (C : zC p s m args meth c cc nL own E) {f : Option (Unit × zH)} {k : Unit → zH → Option β} {index a maxL n mc ms : Nat} {y : MethodName} {b : ByteArray} {rm : Room} {As rest : List Value} (hf : zc f k = some res) (hM : ∀ x, f = some x → Met l y (zw y b maxL none) rm (zPc E h (.ref (zB E + a) :: As)) (zQc E x.2 none) mc ms (zfr E)) (hl : zLi own index y b maxL n)
    (hn : As.length = n) (hst : st = As.reverse ++ .ref (zB E + a) :: rest) (hro : (rest.map fun v => v.category).sum ≤ 8) (hrm : rm.cells = mc ∧ rm.slots = ms) (hR : rm.frames + 1 ≤ R.frames ∧ 8 + (maxL + 11) + rm.locals ≤ R.locals) (hfc : cells + mc ≤ R.cells ∧ slots + ms ≤ R.slots) (hdg : decode cc pc = .ok (.invokespecial index, 3))
    (kk : ∀ x h', k x h' = some res → zW p l e R s m args below meth c E nL Q (cells + mc) (slots + ms) (pc + 3) lo rest h') : zW p l e R s m args below meth c E nL Q cells slots pc lo st h := by
  intro H locs ls hRp hL hlo
  obtain ⟨x, hx, hk⟩ := zcf hf
  subst hst
  exact zgo (va_runI (As := As) (rest := rest) (zfix C) (hM x hx) ⟨zcb C.2.2.2.2.1 hl.2.2 hrm hR, hl.1, C.2.2.2.2.1 _ hl.2.1⟩ (zpre hRp C.2.2.2.2.2.1) rfl hn hlo.1 rfl (lv_room hro) hdg hfc) hL hlo (kk _ _ hk)
theorem zr_callN (C : zC p s m args meth c cc nL own E) {f : Option (Unit × zH)} {k : Unit → zH → Option β} {index a maxL n mc ms : Nat} {y : MethodName} {b : ByteArray} {rm : Room} {As rest : List Value} (hf : zc f k = some res) (hM : ∀ x, f = some x → Met l y (zw y b maxL none) rm (zPc E h (.ref (zB E + a) :: As)) (zQc E x.2 none) mc ms (zfr E)) (hl : zLn own index y b maxL n)
    (hn : As.length = n) (hst : st = As.reverse ++ .ref (zB E + a) :: rest) (hro : (rest.map fun v => v.category).sum ≤ 8) (hrm : rm.cells = mc ∧ rm.slots = ms) (hR : rm.frames + 1 ≤ R.frames ∧ 8 + (maxL + 11) + rm.locals ≤ R.locals) (hfc : cells + mc ≤ R.cells ∧ slots + ms ≤ R.slots) (hdg : decode cc pc = .ok (.invokespecial index, 3))
    (kk : ∀ x h', k x h' = some res → zW p l e R s m args below meth c E nL Q (cells + mc) (slots + ms) (pc + 3) lo rest h') : zW p l e R s m args below meth c E nL Q cells slots pc lo st h := by
  intro H locs ls hRp hL hlo
  obtain ⟨x, hx, hk⟩ := zcf hf
  obtain ⟨g1, g2, ⟨host, g3⟩, g4, g5, hd⟩ := hl
  have hts := C.2.2.2.2.1
  subst hst
  exact zgo (va_runIN (As := As) (rest := rest) (host := host) (zfix C) (hM x hx) ⟨va_cnB n hts (zGood (zw_in g5)) rfl hrm.1 hrm.2 (C.2.2.2.2.2.1.2.1 _ g3 rfl) (hts _ g4) hd hR, g1, hts _ g2⟩ (zpre hRp C.2.2.2.2.2.1) rfl hn hlo.1 rfl (lv_room hro) hdg hfc) hL hlo (kk _ _ hk)
theorem zr_objInit (C : zC p s m args meth c cc nL own E) {index a : Nat} {rest : List Value} (w1 : Cond.methodLink own index objectInit ∈ ztb) (w2 : Cond.instanceMethod objectInit ∈ ztb) (w3 : Cond.code objectInit ⟨#[0xb1]⟩ 1 none ∈ ztb) (hR1 : 1 ≤ R.frames) (hR2 : (rest.map fun v => v.category).sum + 12 ≤ R.locals) (hdg : decode cc pc = .ok (.invokespecial index, 3)) (kk : zW p l e R s m args below meth c E nL Q cells slots (pc + 3) lo rest h) : zW p l e R s m args below meth c E nL Q cells slots pc lo (.ref (zB E + a) :: rest) h := by
  intro H locs ls hRp hL hlo
  have hts := C.2.2.2.2.1
  refine W.objInit C.1 C.2.1 C.2.2.2.1 (hts _ w1) (hts _ w2) (hts _ w3) rfl (by rw [C.2.2.1]; exact hlo.1) rfl hdg hR1 (by show 2 * 0 + _ + 12 ≤ _; omega) ?_
  exact kk H locs ls hRp hL hlo
/-- Math.max, min, abs -/
theorem zr_max (C : zC p s m args meth c cc nL own E) {index : Nat} {x y : Int32} {k : Int32 → Option β} {rest : List Value} (hf : zv (if x < y then y else x) k = some res) (w1 : Cond.methodLink own index Lib.Math.max.name ∈ ztb) (w2 : Cond.static Lib.Math.max.name ∈ ztb) (w3 : Cond.initialized "java/lang/Math" ∈ ztb) (w4 : Cond.code Lib.Math.max.name Lib.Math.max.code 2 (some .int) ∈ ztb) (hR : 1 ≤ R.frames ∧ (rest.map fun v => v.category).sum + 13 ≤ R.locals) (hcs : cells ≤ R.cells ∧ slots ≤ R.slots) (hdg : decode cc pc = .ok (.invokestatic index, 3)) (kk : ∀ z : Int32, k z = some res → zW p l e R s m args below meth c E nL Q cells slots (pc + 3) lo (.int z :: rest) h) : zW p l e R s m args below meth c E nL Q cells slots pc lo (.int y :: .int x :: rest) h := by
  intro H locs ls hRp hL hlo
  have hts := C.2.2.2.2.1
  exact va_mmax C.1 C.2.1 (C.2.2.1.trans hlo.1.symm) C.2.2.2.1 (hts _ w1) (hts _ w2) (hts _ w3) (hts _ w4) hR.1 hR.2 hcs.1 hcs.2 hdg (kk _ hf H locs ls hRp hL hlo)
theorem zr_min (C : zC p s m args meth c cc nL own E) {index : Nat} {x y : Int32} {k : Int32 → Option β} {rest : List Value} (hf : zv (if y < x then y else x) k = some res) (w1 : Cond.methodLink own index Lib.Math.min.name ∈ ztb) (w2 : Cond.static Lib.Math.min.name ∈ ztb) (w3 : Cond.initialized "java/lang/Math" ∈ ztb) (w4 : Cond.code Lib.Math.min.name Lib.Math.min.code 2 (some .int) ∈ ztb) (hR : 1 ≤ R.frames ∧ (rest.map fun v => v.category).sum + 13 ≤ R.locals) (hcs : cells ≤ R.cells ∧ slots ≤ R.slots) (hdg : decode cc pc = .ok (.invokestatic index, 3)) (kk : ∀ z : Int32, k z = some res → zW p l e R s m args below meth c E nL Q cells slots (pc + 3) lo (.int z :: rest) h) : zW p l e R s m args below meth c E nL Q cells slots pc lo (.int y :: .int x :: rest) h := by
  intro H locs ls hRp hL hlo
  have hts := C.2.2.2.2.1
  exact va_mmin C.1 C.2.1 (C.2.2.1.trans hlo.1.symm) C.2.2.2.1 (hts _ w1) (hts _ w2) (hts _ w3) (hts _ w4) hR.1 hR.2 hcs.1 hcs.2 hdg (kk _ hf H locs ls hRp hL hlo)
theorem zr_abs (C : zC p s m args meth c cc nL own E) {index : Nat} {x : Int32} {k : Int32 → Option β} {rest : List Value} (hf : zv (if 0 ≤ x then x else 0 - x) k = some res) (w1 : Cond.methodLink own index Lib.Math.abs.name ∈ ztb) (w2 : Cond.static Lib.Math.abs.name ∈ ztb) (w3 : Cond.initialized "java/lang/Math" ∈ ztb) (w4 : Cond.code Lib.Math.abs.name Lib.Math.abs.code 1 (some .int) ∈ ztb) (hR : 1 ≤ R.frames ∧ (rest.map fun v => v.category).sum + 13 ≤ R.locals) (hcs : cells ≤ R.cells ∧ slots ≤ R.slots) (hdg : decode cc pc = .ok (.invokestatic index, 3)) (kk : ∀ z : Int32, k z = some res → zW p l e R s m args below meth c E nL Q cells slots (pc + 3) lo (.int z :: rest) h) : zW p l e R s m args below meth c E nL Q cells slots pc lo (.int x :: rest) h := by
  intro H locs ls hRp hL hlo
  have hts := C.2.2.2.2.1
  exact va_mabs C.1 C.2.1 (C.2.2.1.trans hlo.1.symm) C.2.2.2.1 (hts _ w1) (hts _ w2) (hts _ w3) (hts _ w4) hR.1 hR.2 hcs.1 hcs.2 hdg (kk _ hf H locs ls hRp hL hlo)
end ZR7
section ZR8
variable {p : Program} {l : Launch} {e : Env} {R : Room} {s : State} {m : MethodId} {args : Array Value} {below : List Frame} {meth : Method} {c : Code} {E : zE} {nL : Nat} {cells slots pc mc ms : Nat} {lo : List (Nat × Value)} {h : zH} {cc : ByteArray} {own : String}
theorem zr_ireturn {res : Int32 × zH} (C : zC p s m args meth c cc nL own E) {v : Int32} (hf : some (v, h) = some res) (hr : meth.sig.returnType = some .int) (h1 : cells ≤ mc) (h2 : slots ≤ ms) (hdg : decode cc pc = .ok (.ireturn, 1)) : zW p l e R s m args below meth c E nL (MQ below (zQc E res.2 (some (.int res.1))) args s mc ms (zfr E)) cells slots pc lo [.int v] h := by
  cases hf
  exact zwiden h1 h2 (fun H locs ls hRp hL hlo => W.iret C.1 C.2.1 hr (fun t ht _ => ⟨rfl, by rw [ht]; exact hRp⟩) hL hdg C.2.2.2.2.2.2)
theorem zr_zreturn {res : Int32 × zH} (C : zC p s m args meth c cc nL own E) {v : Int32} (hf : zzr v (some (v, h)) = some res) (hr : meth.sig.returnType = some .boolean) (h1 : cells ≤ mc) (h2 : slots ≤ ms) (hdg : decode cc pc = .ok (.ireturn, 1)) : zW p l e R s m args below meth c E nL (MQ below (zQc E res.2 (some (.int res.1))) args s mc ms (zfr E)) cells slots pc lo [.int v] h := by
  obtain ⟨hv, hf⟩ := zif hf
  cases hf
  exact zwiden h1 h2 (fun H locs ls hRp hL hlo => W.zret C.1 C.2.1 hr (zbool hv).1 (fun t ht _ => ⟨rfl, by rw [ht]; exact hRp⟩) hL hdg C.2.2.2.2.2.2)
theorem zr_lreturn {res : Int64 × zH} (C : zC p s m args meth c cc nL own E) {v : Int64} (hf : some (v, h) = some res) (hr : meth.sig.returnType = some .long) (h1 : cells ≤ mc) (h2 : slots ≤ ms) (hdg : decode cc pc = .ok (.lreturn, 1)) : zW p l e R s m args below meth c E nL (MQ below (zQc E res.2 (some (.long res.1))) args s mc ms (zfr E)) cells slots pc lo [.long v] h := by
  cases hf
  exact zwiden h1 h2 (fun H locs ls hRp hL hlo => W.lret C.1 C.2.1 hr (fun t ht _ => ⟨rfl, by rw [ht]; exact hRp⟩) hL hdg C.2.2.2.2.2.2)
theorem zr_areturn {res : Nat × zH} (C : zC p s m args meth c cc nL own E) {v : Nat} {rt : FieldType} (hf : some (v, h) = some res) (hr : meth.sig.returnType = some rt) (hrt : (∃ n, rt = .object n) ∨ ∃ t, rt = .array t) (h1 : cells ≤ mc) (h2 : slots ≤ ms) (hdg : decode cc pc = .ok (.areturn, 1)) : zW p l e R s m args below meth c E nL (MQ below (zQc E res.2 (some (.ref (zB E + res.1)))) args s mc ms (zfr E)) cells slots pc lo [.ref (zB E + v)] h := by
  cases hf
  exact zwiden h1 h2 (fun H locs ls hRp hL hlo => W.aret C.1 C.2.1 hr hrt (Or.inr ⟨_, rfl⟩) (fun t ht _ => ⟨rfl, by rw [ht]; exact hRp⟩) hL hdg C.2.2.2.2.2.2)
theorem zr_return {res : Unit × zH} (C : zC p s m args meth c cc nL own E) (hf : some ((), h) = some res) (hr : meth.sig.returnType = none) (h1 : cells ≤ mc) (h2 : slots ≤ ms) (hdg : decode cc pc = .ok (.return_, 1)) : zW p l e R s m args below meth c E nL (MQ below (zQc E res.2 none) args s mc ms (zfr E)) cells slots pc lo [] h := by
  cases hf
  exact zwiden h1 h2 (fun H locs ls hRp hL hlo => W.vret C.1 C.2.1 hr (fun t ht _ => ⟨rfl, by rw [ht]; exact hRp⟩) hL hdg C.2.2.2.2.2.2)
end ZR8
theorem zr_ite {α : Type} {cnd G : Prop} [Decidable cnd] {k1 k2 : Option α} {res : α} (hf : (if cnd then k1 else k2) = some res) (kt : cnd → k1 = some res → G) (kf : ¬ cnd → k2 = some res → G) : G := by
  by_cases h : cnd
  · rw [if_pos h] at hf
    exact kt h hf
  · rw [if_neg h] at hf
    exact kf h hf
