section ZR16
variable {p : Program} {l : Launch} {e : Env} {R : Room} {s : State} {m : MethodId} {args : Array Value} {below : List Frame} {meth : Method} {c : Code} {E : zE} {nL : Nat} {Q : State → Prop} {cells slots pc : Nat} {lo : List (Nat × Value)} {st : List Value} {h : zH} {cc : ByteArray} {own : String} {β : Type} {res : β}
theorem zr_callSU (C : zC p s m args meth c cc nL own E) {α : Type} {f : Option (α × zH)} {k : α → zH → Option β} {index maxL n mc ms : Nat} {x y : MethodName} {b : ByteArray} {ret : Option FieldType} {rm : Room} {As rest : List Value} (rv : α → Option Value) (hf : zc f k = some res) (hM : ∀ x, f = some x → Met l y (zw y b maxL ret) rm (zPc E h As) (zQc E x.2 (rv x.1)) mc ms (zfr E)) (hl : zLu own index x y b maxL ret n)
    (hn : As.length = n) (hst : st = As.reverse ++ rest) (hro : (rest.map fun v => v.category).sum ≤ 8) (hrm : rm.cells = mc ∧ rm.slots = ms) (hR : rm.frames + 1 ≤ R.frames ∧ 8 + (maxL + 11) + rm.locals ≤ R.locals) (hfc : cells + mc ≤ R.cells ∧ slots + ms ≤ R.slots) (hdg : decode cc pc = .ok (.invokestatic index, 3))
    (kk : ∀ x h', k x h' = some res → zW p l e R s m args below meth c E nL Q (cells + mc) (slots + ms) (pc + 3) lo ((rv x).toList ++ rest) h') : zW p l e R s m args below meth c E nL Q cells slots pc lo st h := by
  intro H locs ls hRp hL hlo
  obtain ⟨z, hx, hk⟩ := zcf hf
  obtain ⟨q1, q2, w1, w2, w3, w4, w5, d1, d2, d3⟩ := hl
  have hts := C.2.2.2.2.1
  have hp := zpre (s := s) (av := As) hRp C.2.2.2.2.2.1
  subst hst
  obtain ⟨yc, yn, yd⟩ := y
  obtain ⟨xc, xn, xd⟩ := x
  dsimp only at q1 q2
  subst q1
  subst q2
  refine zgo (rest := rest) (a := As.toArray) (h' := z.2) (rv := rv z.1) (mc := mc) (ms := ms) (fun T hT X => ?_) hL hlo (kk _ _ hk)
  have hK : Back l R p e below s args ⟨yc, yn, yd⟩ 3 8 (PreOf R mc ms (zPc E h As)) (PostOf (zQc E z.2 (rv z.1)) mc ms (zfr E)) :=
    back_of (bytes := b) (maxL := maxL) (ret := ret) (hM z hx) zPc_blind hrm.1 hrm.2 hR.1 hR.2 (pay_in hts (zGood (zw_in w5))) List.mem_cons_self (fun a' U hW => word_at hW (Or.inl (by first | rfl | simp [Cond.onTables, Cond.keeps, Cond.steady])) (hts _ w4))
  obtain ⟨mk, hnamed⟩ := Cond.code_named (hts _ w5)
  obtain ⟨methM, cM, hmethM, -, -, -, -, -, -, hsigM⟩ := Cond.code_spec hnamed (hts _ w5)
  obtain ⟨v, vm₁, ⟨U', l2, c2, s2⟩, hW₁, X', ⟨g', mk2, t, L, e1, e2, hq, g1, hL2, g2, g3⟩, stp⟩ := X.staticBackUp C.1 (x := ⟨xc, yn, yd⟩) (owner := yc) C.2.2.2.1 (hts _ w1) (hts _ w2) (hts _ w3) (hts _ w4) hnamed hmethM hsigM ⟨d1, d2⟩ hK (g := F0 m pc ls (As.reverse ++ rest)) rfl (by rw [C.2.2.1]; exact hlo.1) (Steps.refl _) (argsL := As) (rest := rest) (fun sig h => by
      rw [hn]
      have d3 := d3
      dsimp only at d3 h
      rw [h] at d3
      exact (Option.some.inj d3).symm) rfl (lv_room hro) (by rw [C.2.1]; exact hdg) (fun vm₁ hW₁ => ⟨hfc.1, hfc.2, hp.2 (T.setVm vm₁) hT hW₁⟩)
  dsimp only [Pt.U, Pt.locs, Pt.cells, Pt.slots] at X' e1 e2 g1 g2 g3 stp
  subst g1; subst g2; subst g3
  exact ⟨v, (T.setVm vm₁).calling g' mk2 As.toArray, t, U', L, hT, X', hL2, e1, e2, hq, fun target r => Steps.trans stp r⟩
theorem zmna_outer (cA : ClassId) (N h0 : Nat) : ∀ i : Nat, Jvm.Free.Multi.outerC cA N h0 i = arrV cA N (fun j => if j < i then .ref (h0 + 1 + j) else .null)
  | 0 => by
    show ({ cls := cA, slots := Array.replicate N .null, vm := .none } : Cell) = _
    rw [arrV_new]
    refine congrArg (arrV cA N) (funext fun j => ?_)
    simp
  | i + 1 => by
    show (Jvm.Free.Multi.outerC cA N h0 i).setSlot i (.ref (h0 + 1 + i)) = _
    rw [zmna_outer cA N h0 i, arrV_store]
    refine congrArg (arrV cA N) (funext fun j => ?_)
    by_cases e : j = i
    · subst e
      simp [updV]
    · by_cases h : j < i
      · simp [updV, e, h, Nat.lt_succ_of_lt h]
      · simp [updV, e, h, show ¬ j < i + 1 by omega]
theorem zr_mna (C : zC p s m args meth c cc nL own E) {index nn nk : Nat} {n k2 : Int32} {k : Nat → zH → Option β} (hf : znm h n k2 nn nk k = some res) (w1 : Cond.classLink own index "[[I" ∈ ztb) (w2 : Cond.arrayClass .int ∈ ztb) (hb1 : nn * 4 ≤ 536870912) (hb2 : nk * 4 ≤ 536870912) (hc1 : cells + (1 + nn) ≤ R.cells) (hc2 : slots + (nn + nn * nk) ≤ R.slots) (hdg : decode cc pc = .ok (.multianewarray index 2, 4))
    (kk : ∀ (q : Nat) (h' : zH), k q h' = some res → zW p l e R s m args below meth c E nL Q (cells + 1 + nn) (slots + nn + nn * nk) (pc + 4) lo (.ref (zB E + q) :: st) h') : zW p l e R s m args below meth c E nL Q cells slots pc lo (.int k2 :: .int n :: st) h := by
  intro H locs ls hRp hL hlo
  obtain ⟨⟨hn, hk, rfl, rfl⟩, hf⟩ := zif hf
  have hts := C.2.2.2.2.1
  intro T hT X
  obtain ⟨vm₁, cA, comp, -, fA, fC, -, -, X', step⟩ := X.multianewarray2F C.1 (ty := .int) C.2.2.2.1 (hts _ w1) (C.2.2.2.2.2.1.2.2.2.2.1) (hts _ w2) (g := F0 m pc ls (.int k2 :: .int n :: st)) rfl (by rw [C.2.1]; exact hdg) rfl hn hk hb1 hb2 (by omega) rfl rfl hc1 hc2
  have hra0 : s.vm.findClass ("[" ++ FieldType.int.toString) = some (E.2.1 20) := (C.2.2.2.2.2.1.1.2 0 _ rfl).2
  have hra3 : s.vm.findClass ("[" ++ (FieldType.array .int).toString) = some (E.2.1 23) := (C.2.2.2.2.2.1.1.2 3 _ rfl).2
  have eA : cA = E.2.1 23 := Option.some.inj (fA.symm.trans hra3)
  have eC : comp = E.2.1 20 := Option.some.inj (fC.symm.trans hra0)
  subst eA
  subst eC
  generalize hF : Jvm.Free.Multi.fill (T.setVm vm₁) (E.2.1 23) (E.2.1 20) n.toNatClampNeg k2.toNatClampNeg (defaultValue .int) n.toNatClampNeg = F at X' step
  have hTh : (T.setVm vm₁).heap = H := hT
  obtain ⟨f1, f2, -, -⟩ := Jvm.Free.Multi.fill_facts (T.setVm vm₁) (E.2.1 23) (E.2.1 20) n.toNatClampNeg k2.toNatClampNeg (defaultValue .int) n.toNatClampNeg
  rw [hF, hTh] at f1 f2
  have hold : ∀ x : Nat, x < H.size → F.heap[x]? = H[x]? := fun x hx => by
    have := Jvm.Free.Multi.fill_old (T.setVm vm₁) (E.2.1 23) (E.2.1 20) n.toNatClampNeg k2.toNatClampNeg (defaultValue .int) (a := x) (by rw [hTh]; exact hx) n.toNatClampNeg
    rw [hF, hTh] at this
    exact this
  have hrow : ∀ j : Nat, j < n.toNatClampNeg → F.heap[H.size + 1 + j]? = some (arrV (E.2.1 20) k2.toNatClampNeg (fun _ => .int 0)) := fun j hj => by
    have := Jvm.Free.Multi.fill_inner (T.setVm vm₁) (E.2.1 23) (E.2.1 20) n.toNatClampNeg k2.toNatClampNeg (defaultValue .int) n.toNatClampNeg j hj
    rw [hF, hTh] at this
    rw [this]
    exact congrArg some (arrV_new (E.2.1 20) k2.toNatClampNeg (.int 0))
  rw [zmna_outer] at f2
  have hsz : H.size = zB E + zsz h := hRp.1
  have hrep : zRep E (zmna h n.toNatClampNeg k2.toNatClampNeg) F.heap := by
    refine ⟨?_, fun q hq => ?_, fun a kd n' ha => ?_⟩
    · rw [f1, hsz]
      show _ = zB E + (zsz h + 1 + n.toNatClampNeg)
      omega
    · rw [hold q (by omega)]
      exact hRp.2.1 q hq
    · by_cases ea : a = zsz h
      · have e0 : zsh (zmna h n.toNatClampNeg k2.toNatClampNeg) a = some (23, n.toNatClampNeg) := if_pos ea
        rw [e0] at ha
        cases ha
        refine ⟨by show a < zsz h + 1 + n.toNatClampNeg; omega, Or.inr ⟨by decide, ?_⟩⟩
        subst ea
        rw [← hsz, f2]
        congr 2
        funext j
        unfold zavl
        rw [if_neg (show ¬ (23 : Nat) < 23 by decide)]
        have e1 : zr (zmna h n.toNatClampNeg k2.toNatClampNeg) (zsz h) j = if j < n.toNatClampNeg then some (zsz h + 1 + j) else none := if_pos rfl
        rw [e1]
        by_cases hj : j < n.toNatClampNeg
        · rw [if_pos hj, if_pos hj]
          exact congrArg Value.ref (by omega : H.size + 1 + j = zB E + (zsz h + 1 + j))
        · rw [if_neg hj, if_neg hj]
          rfl
      · by_cases eb : zsz h < a ∧ a ≤ zsz h + n.toNatClampNeg
        · have e0 : zsh (zmna h n.toNatClampNeg k2.toNatClampNeg) a = some (20, k2.toNatClampNeg) := (if_neg ea).trans (if_pos eb)
          rw [e0] at ha
          cases ha
          refine ⟨by show a < zsz h + 1 + n.toNatClampNeg; omega, Or.inr ⟨by decide, ?_⟩⟩
          have := hrow (a - zsz h - 1) (by omega)
          rw [show H.size + 1 + (a - zsz h - 1) = zB E + a by omega] at this
          rw [this]
          congr 2
          funext j
          unfold zavl
          rw [if_pos (by decide)]
          have e1 : zi (zmna h n.toNatClampNeg k2.toNatClampNeg) a j = 0 := if_pos (by omega)
          rw [e1]
        · have e0 : zsh (zmna h n.toNatClampNeg k2.toNatClampNeg) a = zsh h a := (if_neg ea).trans (if_neg eb)
          rw [e0] at ha
          obtain ⟨g1, g2⟩ := hRp.2.2 a kd n' ha
          refine ⟨by show a < zsz h + 1 + n.toNatClampNeg; omega, zcell_congr ⟨fun _ => if_neg (by omega), fun _ => (if_neg ea).trans (if_neg (by omega)), fun _ => if_neg (by omega)⟩ (hold _ (by omega)) g2⟩
  obtain ⟨t, a1, b1⟩ := kk (zsz h) _ hf F.heap locs ls hrep hL hlo F rfl X'
  refine ⟨t, step t ?_, b1⟩
  have e9 : T.heap.size = zB E + zsz h := by rw [hT]; exact hsz
  rw [e9]
  exact a1
end ZR16
section ZR17
variable {p : Program} {l : Launch} {e : Env} {R : Room} {s : State} {m : MethodId} {args : Array Value} {below : List Frame} {meth : Method} {c : Code} {E : zE} {nL : Nat} {Q : State → Prop} {cells slots pc : Nat} {lo : List (Nat × Value)} {st : List Value} {h : zH} {cc : ByteArray} {own : String} {β : Type} {res : β}
theorem zr_callVi (C : zC p s m args meth c cc nL own E) {f : Option (Int32 × zH)} {k : Int32 → zH → Option β} {index ci sn a maxL n : Nat} {y : MethodName} {b : ByteArray} {ret : Option FieldType} {rm : Room} {As rest : List Value} (hf : zcv h a ci sn f k = some res) (hM : ∀ x, f = some x → Met l y (zw y b maxL ret) rm (zPc E h (.ref (zB E + a) :: As)) (zQc E x.2 (some (.int x.1))) 0 0 (zfr E)) (hl : zLv own index ci sn y b maxL ret n)
    (hn : As.length = n) (hst : st = As.reverse ++ .ref (zB E + a) :: rest) (hro : (rest.map fun v => v.category).sum ≤ 8) (hrm : rm.cells = 0 ∧ rm.slots = 0) (hR : rm.frames + 1 ≤ R.frames ∧ 8 + (maxL + 11) + rm.locals ≤ R.locals) (hfc : cells ≤ R.cells ∧ slots ≤ R.slots) (hdg : decode cc pc = .ok (.invokevirtual index, 3))
    (kk : ∀ x h', k x h' = some res → zW p l e R s m args below meth c E nL Q cells slots (pc + 3) lo (.int x :: rest) h') : zW p l e R s m args below meth c E nL Q cells slots pc lo st h := zr_callV (mc := 0) (ms := 0) (rv := fun r => some (.int r)) C hf hM hl hn hst hro hrm hR hfc hdg kk
theorem zr_callVv (C : zC p s m args meth c cc nL own E) {f : Option (Unit × zH)} {k : Unit → zH → Option β} {index ci sn a maxL n : Nat} {y : MethodName} {b : ByteArray} {ret : Option FieldType} {rm : Room} {As rest : List Value} (hf : zcv h a ci sn f k = some res) (hM : ∀ x, f = some x → Met l y (zw y b maxL ret) rm (zPc E h (.ref (zB E + a) :: As)) (zQc E x.2 none) 0 0 (zfr E)) (hl : zLv own index ci sn y b maxL ret n)
    (hn : As.length = n) (hst : st = As.reverse ++ .ref (zB E + a) :: rest) (hro : (rest.map fun v => v.category).sum ≤ 8) (hrm : rm.cells = 0 ∧ rm.slots = 0) (hR : rm.frames + 1 ≤ R.frames ∧ 8 + (maxL + 11) + rm.locals ≤ R.locals) (hfc : cells ≤ R.cells ∧ slots ≤ R.slots) (hdg : decode cc pc = .ok (.invokevirtual index, 3))
    (kk : ∀ x h', k x h' = some res → zW p l e R s m args below meth c E nL Q cells slots (pc + 3) lo (rest) h') : zW p l e R s m args below meth c E nL Q cells slots pc lo st h := zr_callV (mc := 0) (ms := 0) (rv := fun _ => none) C hf hM hl hn hst hro hrm hR hfc hdg kk
theorem zr_callVl (C : zC p s m args meth c cc nL own E) {f : Option (Int64 × zH)} {k : Int64 → zH → Option β} {index ci sn a maxL n : Nat} {y : MethodName} {b : ByteArray} {ret : Option FieldType} {rm : Room} {As rest : List Value} (hf : zcv h a ci sn f k = some res) (hM : ∀ x, f = some x → Met l y (zw y b maxL ret) rm (zPc E h (.ref (zB E + a) :: As)) (zQc E x.2 (some (.long x.1))) 0 0 (zfr E)) (hl : zLv own index ci sn y b maxL ret n)
    (hn : As.length = n) (hst : st = As.reverse ++ .ref (zB E + a) :: rest) (hro : (rest.map fun v => v.category).sum ≤ 8) (hrm : rm.cells = 0 ∧ rm.slots = 0) (hR : rm.frames + 1 ≤ R.frames ∧ 8 + (maxL + 11) + rm.locals ≤ R.locals) (hfc : cells ≤ R.cells ∧ slots ≤ R.slots) (hdg : decode cc pc = .ok (.invokevirtual index, 3))
    (kk : ∀ x h', k x h' = some res → zW p l e R s m args below meth c E nL Q cells slots (pc + 3) lo (.long x :: rest) h') : zW p l e R s m args below meth c E nL Q cells slots pc lo st h := zr_callV (mc := 0) (ms := 0) (rv := fun r => some (.long r)) C hf hM hl hn hst hro hrm hR hfc hdg kk
theorem zr_callVr (C : zC p s m args meth c cc nL own E) {f : Option (Nat × zH)} {k : Nat → zH → Option β} {index ci sn a maxL n : Nat} {y : MethodName} {b : ByteArray} {ret : Option FieldType} {rm : Room} {As rest : List Value} (hf : zcv h a ci sn f k = some res) (hM : ∀ x, f = some x → Met l y (zw y b maxL ret) rm (zPc E h (.ref (zB E + a) :: As)) (zQc E x.2 (some (.ref (zB E + x.1)))) 0 0 (zfr E)) (hl : zLv own index ci sn y b maxL ret n)
    (hn : As.length = n) (hst : st = As.reverse ++ .ref (zB E + a) :: rest) (hro : (rest.map fun v => v.category).sum ≤ 8) (hrm : rm.cells = 0 ∧ rm.slots = 0) (hR : rm.frames + 1 ≤ R.frames ∧ 8 + (maxL + 11) + rm.locals ≤ R.locals) (hfc : cells ≤ R.cells ∧ slots ≤ R.slots) (hdg : decode cc pc = .ok (.invokevirtual index, 3))
    (kk : ∀ x h', k x h' = some res → zW p l e R s m args below meth c E nL Q cells slots (pc + 3) lo (.ref (zB E + x) :: rest) h') : zW p l e R s m args below meth c E nL Q cells slots pc lo st h := zr_callV (mc := 0) (ms := 0) (rv := fun r => some (.ref (zB E + r))) C hf hM hl hn hst hro hrm hR hfc hdg kk
theorem zr_callAi (C : zC p s m args meth c cc nL own E) {f : Option (Int32 × zH)} {k : Int32 → zH → Option β} {index ci sn a maxL n : Nat} {x y : MethodName} {b : ByteArray} {ret : Option FieldType} {rm : Room} {As rest : List Value} (hf : zcv h a ci sn f k = some res) (hM : ∀ x, f = some x → Met l y (zw y b maxL ret) rm (zPc E h (.ref (zB E + a) :: As)) (zQc E x.2 (some (.int x.1))) 0 0 (zfr E)) (hl : zLa own index ci sn x y b maxL ret n)
    (hn : As.length = n) (hst : st = As.reverse ++ .ref (zB E + a) :: rest) (hro : (rest.map fun v => v.category).sum ≤ 8) (hrm : rm.cells = 0 ∧ rm.slots = 0) (hR : rm.frames + 1 ≤ R.frames ∧ 8 + (maxL + 11) + rm.locals ≤ R.locals) (hfc : cells ≤ R.cells ∧ slots ≤ R.slots) (hdg : decode cc pc = .ok (.invokevirtual index, 3))
    (kk : ∀ x h', k x h' = some res → zW p l e R s m args below meth c E nL Q cells slots (pc + 3) lo (.int x :: rest) h') : zW p l e R s m args below meth c E nL Q cells slots pc lo st h := zr_callA (mc := 0) (ms := 0) (rv := fun r => some (.int r)) C hf hM hl hn hst hro hrm hR hfc hdg kk
theorem zr_callAv (C : zC p s m args meth c cc nL own E) {f : Option (Unit × zH)} {k : Unit → zH → Option β} {index ci sn a maxL n : Nat} {x y : MethodName} {b : ByteArray} {ret : Option FieldType} {rm : Room} {As rest : List Value} (hf : zcv h a ci sn f k = some res) (hM : ∀ x, f = some x → Met l y (zw y b maxL ret) rm (zPc E h (.ref (zB E + a) :: As)) (zQc E x.2 none) 0 0 (zfr E)) (hl : zLa own index ci sn x y b maxL ret n)
    (hn : As.length = n) (hst : st = As.reverse ++ .ref (zB E + a) :: rest) (hro : (rest.map fun v => v.category).sum ≤ 8) (hrm : rm.cells = 0 ∧ rm.slots = 0) (hR : rm.frames + 1 ≤ R.frames ∧ 8 + (maxL + 11) + rm.locals ≤ R.locals) (hfc : cells ≤ R.cells ∧ slots ≤ R.slots) (hdg : decode cc pc = .ok (.invokevirtual index, 3))
    (kk : ∀ x h', k x h' = some res → zW p l e R s m args below meth c E nL Q cells slots (pc + 3) lo (rest) h') : zW p l e R s m args below meth c E nL Q cells slots pc lo st h := zr_callA (mc := 0) (ms := 0) (rv := fun _ => none) C hf hM hl hn hst hro hrm hR hfc hdg kk
theorem zr_callAl (C : zC p s m args meth c cc nL own E) {f : Option (Int64 × zH)} {k : Int64 → zH → Option β} {index ci sn a maxL n : Nat} {x y : MethodName} {b : ByteArray} {ret : Option FieldType} {rm : Room} {As rest : List Value} (hf : zcv h a ci sn f k = some res) (hM : ∀ x, f = some x → Met l y (zw y b maxL ret) rm (zPc E h (.ref (zB E + a) :: As)) (zQc E x.2 (some (.long x.1))) 0 0 (zfr E)) (hl : zLa own index ci sn x y b maxL ret n)
    (hn : As.length = n) (hst : st = As.reverse ++ .ref (zB E + a) :: rest) (hro : (rest.map fun v => v.category).sum ≤ 8) (hrm : rm.cells = 0 ∧ rm.slots = 0) (hR : rm.frames + 1 ≤ R.frames ∧ 8 + (maxL + 11) + rm.locals ≤ R.locals) (hfc : cells ≤ R.cells ∧ slots ≤ R.slots) (hdg : decode cc pc = .ok (.invokevirtual index, 3))
    (kk : ∀ x h', k x h' = some res → zW p l e R s m args below meth c E nL Q cells slots (pc + 3) lo (.long x :: rest) h') : zW p l e R s m args below meth c E nL Q cells slots pc lo st h := zr_callA (mc := 0) (ms := 0) (rv := fun r => some (.long r)) C hf hM hl hn hst hro hrm hR hfc hdg kk
theorem zr_callAr (C : zC p s m args meth c cc nL own E) {f : Option (Nat × zH)} {k : Nat → zH → Option β} {index ci sn a maxL n : Nat} {x y : MethodName} {b : ByteArray} {ret : Option FieldType} {rm : Room} {As rest : List Value} (hf : zcv h a ci sn f k = some res) (hM : ∀ x, f = some x → Met l y (zw y b maxL ret) rm (zPc E h (.ref (zB E + a) :: As)) (zQc E x.2 (some (.ref (zB E + x.1)))) 0 0 (zfr E)) (hl : zLa own index ci sn x y b maxL ret n)
    (hn : As.length = n) (hst : st = As.reverse ++ .ref (zB E + a) :: rest) (hro : (rest.map fun v => v.category).sum ≤ 8) (hrm : rm.cells = 0 ∧ rm.slots = 0) (hR : rm.frames + 1 ≤ R.frames ∧ 8 + (maxL + 11) + rm.locals ≤ R.locals) (hfc : cells ≤ R.cells ∧ slots ≤ R.slots) (hdg : decode cc pc = .ok (.invokevirtual index, 3))
    (kk : ∀ x h', k x h' = some res → zW p l e R s m args below meth c E nL Q cells slots (pc + 3) lo (.ref (zB E + x) :: rest) h') : zW p l e R s m args below meth c E nL Q cells slots pc lo st h := zr_callA (mc := 0) (ms := 0) (rv := fun r => some (.ref (zB E + r))) C hf hM hl hn hst hro hrm hR hfc hdg kk
theorem zr_callSi (C : zC p s m args meth c cc nL own E) {f : Option (Int32 × zH)} {k : Int32 → zH → Option β} {index maxL n : Nat} {y : MethodName} {b : ByteArray} {ret : Option FieldType} {rm : Room} {As rest : List Value} (hf : zc f k = some res) (hM : ∀ x, f = some x → Met l y (zw y b maxL ret) rm (zPc E h As) (zQc E x.2 (some (.int x.1))) 0 0 (zfr E)) (hl : zLt own index y b maxL ret n)
    (hn : As.length = n) (hst : st = As.reverse ++ rest) (hro : (rest.map fun v => v.category).sum ≤ 8) (hrm : rm.cells = 0 ∧ rm.slots = 0) (hR : rm.frames + 1 ≤ R.frames ∧ 8 + (maxL + 11) + rm.locals ≤ R.locals) (hfc : cells ≤ R.cells ∧ slots ≤ R.slots) (hdg : decode cc pc = .ok (.invokestatic index, 3))
    (kk : ∀ x h', k x h' = some res → zW p l e R s m args below meth c E nL Q cells slots (pc + 3) lo (.int x :: rest) h') : zW p l e R s m args below meth c E nL Q cells slots pc lo st h := zr_callS (mc := 0) (ms := 0) (rv := fun r => some (.int r)) C hf hM hl hn hst hro hrm hR hfc hdg kk
theorem zr_callSv (C : zC p s m args meth c cc nL own E) {f : Option (Unit × zH)} {k : Unit → zH → Option β} {index maxL n : Nat} {y : MethodName} {b : ByteArray} {ret : Option FieldType} {rm : Room} {As rest : List Value} (hf : zc f k = some res) (hM : ∀ x, f = some x → Met l y (zw y b maxL ret) rm (zPc E h As) (zQc E x.2 none) 0 0 (zfr E)) (hl : zLt own index y b maxL ret n)
    (hn : As.length = n) (hst : st = As.reverse ++ rest) (hro : (rest.map fun v => v.category).sum ≤ 8) (hrm : rm.cells = 0 ∧ rm.slots = 0) (hR : rm.frames + 1 ≤ R.frames ∧ 8 + (maxL + 11) + rm.locals ≤ R.locals) (hfc : cells ≤ R.cells ∧ slots ≤ R.slots) (hdg : decode cc pc = .ok (.invokestatic index, 3))
    (kk : ∀ x h', k x h' = some res → zW p l e R s m args below meth c E nL Q cells slots (pc + 3) lo (rest) h') : zW p l e R s m args below meth c E nL Q cells slots pc lo st h := zr_callS (mc := 0) (ms := 0) (rv := fun _ => none) C hf hM hl hn hst hro hrm hR hfc hdg kk
theorem zr_callSl (C : zC p s m args meth c cc nL own E) {f : Option (Int64 × zH)} {k : Int64 → zH → Option β} {index maxL n : Nat} {y : MethodName} {b : ByteArray} {ret : Option FieldType} {rm : Room} {As rest : List Value} (hf : zc f k = some res) (hM : ∀ x, f = some x → Met l y (zw y b maxL ret) rm (zPc E h As) (zQc E x.2 (some (.long x.1))) 0 0 (zfr E)) (hl : zLt own index y b maxL ret n)
    (hn : As.length = n) (hst : st = As.reverse ++ rest) (hro : (rest.map fun v => v.category).sum ≤ 8) (hrm : rm.cells = 0 ∧ rm.slots = 0) (hR : rm.frames + 1 ≤ R.frames ∧ 8 + (maxL + 11) + rm.locals ≤ R.locals) (hfc : cells ≤ R.cells ∧ slots ≤ R.slots) (hdg : decode cc pc = .ok (.invokestatic index, 3))
    (kk : ∀ x h', k x h' = some res → zW p l e R s m args below meth c E nL Q cells slots (pc + 3) lo (.long x :: rest) h') : zW p l e R s m args below meth c E nL Q cells slots pc lo st h := zr_callS (mc := 0) (ms := 0) (rv := fun r => some (.long r)) C hf hM hl hn hst hro hrm hR hfc hdg kk
theorem zr_callSr (C : zC p s m args meth c cc nL own E) {f : Option (Nat × zH)} {k : Nat → zH → Option β} {index maxL n : Nat} {y : MethodName} {b : ByteArray} {ret : Option FieldType} {rm : Room} {As rest : List Value} (hf : zc f k = some res) (hM : ∀ x, f = some x → Met l y (zw y b maxL ret) rm (zPc E h As) (zQc E x.2 (some (.ref (zB E + x.1)))) 0 0 (zfr E)) (hl : zLt own index y b maxL ret n)
    (hn : As.length = n) (hst : st = As.reverse ++ rest) (hro : (rest.map fun v => v.category).sum ≤ 8) (hrm : rm.cells = 0 ∧ rm.slots = 0) (hR : rm.frames + 1 ≤ R.frames ∧ 8 + (maxL + 11) + rm.locals ≤ R.locals) (hfc : cells ≤ R.cells ∧ slots ≤ R.slots) (hdg : decode cc pc = .ok (.invokestatic index, 3))
    (kk : ∀ x h', k x h' = some res → zW p l e R s m args below meth c E nL Q cells slots (pc + 3) lo (.ref (zB E + x) :: rest) h') : zW p l e R s m args below meth c E nL Q cells slots pc lo st h := zr_callS (mc := 0) (ms := 0) (rv := fun r => some (.ref (zB E + r))) C hf hM hl hn hst hro hrm hR hfc hdg kk
theorem zr_callSUi (C : zC p s m args meth c cc nL own E) {f : Option (Int32 × zH)} {k : Int32 → zH → Option β} {index maxL n : Nat} {x y : MethodName} {b : ByteArray} {ret : Option FieldType} {rm : Room} {As rest : List Value} (hf : zc f k = some res) (hM : ∀ x, f = some x → Met l y (zw y b maxL ret) rm (zPc E h As) (zQc E x.2 (some (.int x.1))) 0 0 (zfr E)) (hl : zLu own index x y b maxL ret n)
    (hn : As.length = n) (hst : st = As.reverse ++ rest) (hro : (rest.map fun v => v.category).sum ≤ 8) (hrm : rm.cells = 0 ∧ rm.slots = 0) (hR : rm.frames + 1 ≤ R.frames ∧ 8 + (maxL + 11) + rm.locals ≤ R.locals) (hfc : cells ≤ R.cells ∧ slots ≤ R.slots) (hdg : decode cc pc = .ok (.invokestatic index, 3))
    (kk : ∀ x h', k x h' = some res → zW p l e R s m args below meth c E nL Q cells slots (pc + 3) lo (.int x :: rest) h') : zW p l e R s m args below meth c E nL Q cells slots pc lo st h := zr_callSU (mc := 0) (ms := 0) (rv := fun r => some (.int r)) C hf hM hl hn hst hro hrm hR hfc hdg kk
theorem zr_callSUv (C : zC p s m args meth c cc nL own E) {f : Option (Unit × zH)} {k : Unit → zH → Option β} {index maxL n : Nat} {x y : MethodName} {b : ByteArray} {ret : Option FieldType} {rm : Room} {As rest : List Value} (hf : zc f k = some res) (hM : ∀ x, f = some x → Met l y (zw y b maxL ret) rm (zPc E h As) (zQc E x.2 none) 0 0 (zfr E)) (hl : zLu own index x y b maxL ret n)
    (hn : As.length = n) (hst : st = As.reverse ++ rest) (hro : (rest.map fun v => v.category).sum ≤ 8) (hrm : rm.cells = 0 ∧ rm.slots = 0) (hR : rm.frames + 1 ≤ R.frames ∧ 8 + (maxL + 11) + rm.locals ≤ R.locals) (hfc : cells ≤ R.cells ∧ slots ≤ R.slots) (hdg : decode cc pc = .ok (.invokestatic index, 3))
    (kk : ∀ x h', k x h' = some res → zW p l e R s m args below meth c E nL Q cells slots (pc + 3) lo (rest) h') : zW p l e R s m args below meth c E nL Q cells slots pc lo st h := zr_callSU (mc := 0) (ms := 0) (rv := fun _ => none) C hf hM hl hn hst hro hrm hR hfc hdg kk
theorem zr_callSUl (C : zC p s m args meth c cc nL own E) {f : Option (Int64 × zH)} {k : Int64 → zH → Option β} {index maxL n : Nat} {x y : MethodName} {b : ByteArray} {ret : Option FieldType} {rm : Room} {As rest : List Value} (hf : zc f k = some res) (hM : ∀ x, f = some x → Met l y (zw y b maxL ret) rm (zPc E h As) (zQc E x.2 (some (.long x.1))) 0 0 (zfr E)) (hl : zLu own index x y b maxL ret n)
    (hn : As.length = n) (hst : st = As.reverse ++ rest) (hro : (rest.map fun v => v.category).sum ≤ 8) (hrm : rm.cells = 0 ∧ rm.slots = 0) (hR : rm.frames + 1 ≤ R.frames ∧ 8 + (maxL + 11) + rm.locals ≤ R.locals) (hfc : cells ≤ R.cells ∧ slots ≤ R.slots) (hdg : decode cc pc = .ok (.invokestatic index, 3))
    (kk : ∀ x h', k x h' = some res → zW p l e R s m args below meth c E nL Q cells slots (pc + 3) lo (.long x :: rest) h') : zW p l e R s m args below meth c E nL Q cells slots pc lo st h := zr_callSU (mc := 0) (ms := 0) (rv := fun r => some (.long r)) C hf hM hl hn hst hro hrm hR hfc hdg kk
theorem zr_callSUr (C : zC p s m args meth c cc nL own E) {f : Option (Nat × zH)} {k : Nat → zH → Option β} {index maxL n : Nat} {x y : MethodName} {b : ByteArray} {ret : Option FieldType} {rm : Room} {As rest : List Value} (hf : zc f k = some res) (hM : ∀ x, f = some x → Met l y (zw y b maxL ret) rm (zPc E h As) (zQc E x.2 (some (.ref (zB E + x.1)))) 0 0 (zfr E)) (hl : zLu own index x y b maxL ret n)
    (hn : As.length = n) (hst : st = As.reverse ++ rest) (hro : (rest.map fun v => v.category).sum ≤ 8) (hrm : rm.cells = 0 ∧ rm.slots = 0) (hR : rm.frames + 1 ≤ R.frames ∧ 8 + (maxL + 11) + rm.locals ≤ R.locals) (hfc : cells ≤ R.cells ∧ slots ≤ R.slots) (hdg : decode cc pc = .ok (.invokestatic index, 3))
    (kk : ∀ x h', k x h' = some res → zW p l e R s m args below meth c E nL Q cells slots (pc + 3) lo (.ref (zB E + x) :: rest) h') : zW p l e R s m args below meth c E nL Q cells slots pc lo st h := zr_callSU (mc := 0) (ms := 0) (rv := fun r => some (.ref (zB E + r))) C hf hM hl hn hst hro hrm hR hfc hdg kk
end ZR17
