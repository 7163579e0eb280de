/-! ===== the law's start: what the Statement gives, as the heap of numbers wants it ===== -/
def zh0 : zH := (0, fun _ => none, fun _ _ => 0, fun _ _ => none, fun _ _ => 0)
theorem z_arrI {s : State} {ty : FieldType} {args : Array Value} (h : (Cond.arrayClass ty).before args s = true) (hra : ∀ cA, va_RA s cA ty = (s.vm.findClass ("[" ++ ty.toString) = some cA)) : ∃ cA, ArrOfT s cA ty ∧ va_RA s cA ty := by
  obtain ⟨c, k, comp, h1, h2, h3⟩ := Cond.arrayClass_spec (args := args) (first := s) (o := none) (s := s) (idx := []) h
  exact ⟨c, fun n z => ⟨(fun q hq => by cases hq), k, h2, comp, h3⟩, by rw [hra]; exact h1⟩
theorem z_arrO {s : State} {C : String} {args : Array Value} (h : (Cond.arrayOver (.object C)).before args s = true) : ∃ cA, ArrOfT s cA (.object C) ∧ va_RA s cA (.object C) := by
  obtain ⟨comp, c, k, h1, h2, h3, h4, h5⟩ := Cond.arrayOver_spec (args := args) (first := s) (o := none) (idx := []) h
  exact ⟨c, fun n z => ⟨(fun q hq => by cases hq), k, h3, comp, h4⟩, k, comp, h3, h4, h1, h5⟩
theorem z_arrA {s : State} {t : FieldType} {args : Array Value} (h : (Cond.arrayOver (.array t)).before args s = true) : ∃ cA, ArrOfT s cA (.array t) ∧ va_RA s cA (.array t) := by
  obtain ⟨comp, c, k, h1, h2, h3, h4, h5⟩ := arrayOverA_spec (args := args) (first := s) (o := none) (idx := []) h
  exact ⟨c, fun n z => ⟨(fun q hq => by cases hq), k, h3, comp, h4⟩, h5⟩
theorem z_known {s : State} {args : Array Value} (hts : ∀ w ∈ ztb, w.before args s = true) : ∀ k : Nat, ∃ (cC : ClassId) (iS : Nat → Nat), ∀ q : vw_C, zclasses[k]? = some q → u_Kn s q.1 q.2.1 q.2.2 cC iS := by
  intro k
  match k with
  | 0 =>
    obtain ⟨c0, i0, h⟩ := u_known (C := RX0) (T := TX0) (N := 2) (n := 2) hts zin_X0 (hts (.instantiable RX0 2) (zmem (i := 223) (by decide +kernel) rfl))
    exact ⟨c0, i0, fun q hq => by cases hq; exact h⟩
  | 1 =>
    obtain ⟨c0, i0, h⟩ := u_known (C := RX1) (T := TX1) (N := 2) (n := 2) hts zin_X1 (hts (.instantiable RX1 2) (zmem (i := 120) (by decide +kernel) rfl))
    exact ⟨c0, i0, fun q hq => by cases hq; exact h⟩
  | 2 =>
    obtain ⟨c0, i0, h⟩ := u_known (C := RX2) (T := TX2) (N := 2) (n := 2) hts zin_X2 (hts (.instantiable RX2 2) (zmem (i := 103) (by decide +kernel) rfl))
    exact ⟨c0, i0, fun q hq => by cases hq; exact h⟩
  | 3 =>
    obtain ⟨c0, i0, h⟩ := u_known (C := RX3) (T := TX3) (N := 4) (n := 4) hts zin_X3 (hts (.instantiable RX3 4) (zmem (i := 240) (by decide +kernel) rfl))
    exact ⟨c0, i0, fun q hq => by cases hq; exact h⟩
  | 4 =>
    obtain ⟨c0, i0, h⟩ := u_known (C := RX4) (T := TX4) (N := 5) (n := 5) hts zin_X4 (hts (.instantiable RX4 5) (zmem (i := 190) (by decide +kernel) rfl))
    exact ⟨c0, i0, fun q hq => by cases hq; exact h⟩
  | 5 =>
    obtain ⟨c0, i0, h⟩ := u_known (C := RX5) (T := TX5) (N := 2) (n := 2) hts zin_X5 (hts (.instantiable RX5 2) (zmem (i := 87) (by decide +kernel) rfl))
    exact ⟨c0, i0, fun q hq => by cases hq; exact h⟩
  | 6 =>
    obtain ⟨c0, i0, h⟩ := u_known (C := RX6) (T := TX6) (N := 3) (n := 3) hts zin_X6 (hts (.instantiable RX6 3) (zmem (i := 261) (by decide +kernel) rfl))
    exact ⟨c0, i0, fun q hq => by cases hq; exact h⟩
  | 7 =>
    obtain ⟨c0, i0, h⟩ := u_known (C := RX7) (T := TX7) (N := 6) (n := 6) hts zin_X7 (hts (.instantiable RX7 6) (zmem (i := 137) (by decide +kernel) rfl))
    exact ⟨c0, i0, fun q hq => by cases hq; exact h⟩
  | 8 =>
    obtain ⟨c0, i0, h⟩ := u_known (C := RX8) (T := TX8) (N := 4) (n := 4) hts zin_X8 (hts (.instantiable RX8 4) (zmem (i := 168) (by decide +kernel) rfl))
    exact ⟨c0, i0, fun q hq => by cases hq; exact h⟩
  | 9 =>
    obtain ⟨c0, i0, h⟩ := u_known (C := RX10) (T := TX10) (N := 20) (n := 20) hts zin_X10 (hts (.instantiable RX10 20) (zmem (i := 79) (by decide +kernel) rfl))
    exact ⟨c0, i0, fun q hq => by cases hq; exact h⟩
  | 10 =>
    obtain ⟨c0, i0, h⟩ := u_known (C := RX11) (T := TX11) (N := 51) (n := 51) hts zin_X11 (hts (.instantiable RX11 51) (zmem (i := 887) (by decide +kernel) rfl))
    exact ⟨c0, i0, fun q hq => by cases hq; exact h⟩
  | k + 11 => exact ⟨0, fun _ => 0, fun q hq => by simp [zclasses] at hq⟩
theorem z_env {s : State} {b : Nat} (hts : ∀ w ∈ lw_tbl, w.before #[Value.ref b] s = true) (hgv : (Jvm.Cond.and given_1 narrow_1).before #[Value.ref b] s = true) : ∃ E : zE, E.2.2.1 = s.heap ∧ zK E s := by
  have hz : ∀ w ∈ ztb, w.before #[Value.ref b] s = true := fun w hw => hts w (ztb_in hw)
  obtain ⟨dC, hdC⟩ := Classical.axiomOfChoice (z_known hz)
  obtain ⟨dI, hdI⟩ := Classical.axiomOfChoice hdC
  have ao1 : (Cond.arrayOver (.object RX2)).before #[Value.ref b] s = true := hts _ (List.mem_of_getElem? (i := 118) (by decide +kernel))
  have ao2 : (Cond.arrayOver (.object RX8)).before #[Value.ref b] s = true := hts _ (List.mem_of_getElem? (i := 167) (by decide +kernel))
  have ao3 : (Cond.arrayOver (.array .int)).before #[Value.ref b] s = true := hts _ (List.mem_of_getElem? (i := 229) (by decide +kernel))
  obtain ⟨a0, p0, q0⟩ := z_arrI (ty := .int) (hz _ zt101) (fun _ => rfl)
  obtain ⟨a1, p1, q1⟩ := z_arrI (ty := .byte) (hz _ zt475) (fun _ => rfl)
  obtain ⟨a2, p2, q2⟩ := z_arrI (ty := .boolean) (hz _ zt165) (fun _ => rfl)
  obtain ⟨a3, p3, q3⟩ := z_arrA ao3
  obtain ⟨a4, p4, q4⟩ := z_arrO ao1
  obtain ⟨a5, p5, q5⟩ := z_arrO ao2
  have hs := flat_of_before _ hgv
  have hA : ∀ a : Nat, a < s.heap.size → ¬ (fun q : Nat => s.heap.size ≤ q) a := fun a ha => Nat.not_le.mpr ha
  obtain ⟨t0, e0, T0⟩ := va_Tof (ty := .int) (tm := .static "LeavesInCups$Cup" "LEAST" "[I") (N := 5) (f := fun j => .int (zLeast j)) (A := fun q : Nat => s.heap.size ≤ q) (by decide) (hs _ (by decide +kernel)) (va_eqt (z := 5) (hs _ (by decide +kernel))) (fun j hj => by
    have e : ∀ j, j < 5 → (Cond.eq (.elem (.static "LeavesInCups$Cup" "LEAST" "[I") (.int (Int32.ofNat j))) (.int (zLeast j))) ∈ flatC (Jvm.Cond.and given_1 narrow_1) := by decide +kernel
    exact va_eqt (hs _ (e j hj))) hA
  obtain ⟨t1, e1, T1⟩ := va_Tof (ty := .int) (tm := .static "LeavesInCups$Cup" "MOST" "[I") (N := 5) (f := fun j => .int (zMost j)) (A := fun q : Nat => s.heap.size ≤ q) (by decide) (hs _ (by decide +kernel)) (va_eqt (z := 5) (hs _ (by decide +kernel))) (fun j hj => by
    have e : ∀ j, j < 5 → (Cond.eq (.elem (.static "LeavesInCups$Cup" "MOST" "[I") (.int (Int32.ofNat j))) (.int (zMost j))) ∈ flatC (Jvm.Cond.and given_1 narrow_1) := by decide +kernel
    exact va_eqt (hs _ (e j hj))) hA
  have Z0 := va_Zof (A := fun q : Nat => s.heap.size ≤ q) (hts (.laysStatic "LeavesInCups$Cup" "LEAST" "[I") (List.mem_of_getElem? (i := 435) (by decide +kernel))) (hz _ zt65) e0 hA
  have Z1 := va_Zof (A := fun q : Nat => s.heap.size ≤ q) (hts (.laysStatic "LeavesInCups$Cup" "MOST" "[I") (List.mem_of_getElem? (i := 437) (by decide +kernel))) (hz _ zt65) e1 hA
  have Z2 := va_Zof (A := fun q : Nat => s.heap.size ≤ q) (hts (.laysStatic "java/lang/String" "COMPACT_STRINGS" "Z") (List.mem_of_getElem? (i := 399) (by decide +kernel))) (hz _ zj_iS) (va_eqi (z := 1) (hs _ (by decide +kernel))) hA
  have Z3 := va_Zqof (A := fun q : Nat => s.heap.size ≤ q) (hts (.laysStatic "jdk/internal/util/Preconditions" "SIOOBE_FORMATTER" "Ljava/util/function/BiFunction;") (List.mem_of_getElem? (i := 407) (by decide +kernel))) (hz _ zj_iP) (hs _ (by decide +kernel)) hA
  obtain ⟨x, cx, cX, kX, x1, x2, x3, x4, x5, x6, -⟩ := Cond.exactly_spec (args := #[Value.ref b]) (first := s) (o := none) (s := s) (idx := []) (t := .string "LeavesInCups$Cup" 17) (cls := "java/lang/String") (hs (.exactly (.string "LeavesInCups$Cup" 17) "java/lang/String") (by decide +kernel))
  obtain ⟨t3, e3, T3⟩ := va_Tof (ty := .byte) (tm := .field (.string "LeavesInCups$Cup" 17) "java/lang/String" "value" "[B") (N := 5) (f := fun j => .int (zMarks j)) (A := fun q : Nat => s.heap.size ≤ q) (by decide) (hs _ (by decide +kernel)) (va_eqt (z := 5) (hs _ (by decide +kernel))) (fun j hj => by
    have e : ∀ j, j < 5 → (Cond.eq (.elem (.field (.string "LeavesInCups$Cup" 17) "java/lang/String" "value" "[B") (.int (Int32.ofNat j))) (.int (zMarks j))) ∈ flatC (Jvm.Cond.and given_1 narrow_1) := by decide +kernel
    exact va_eqt (hs _ (e j hj))) hA
  have hcur : (Term.string "LeavesInCups$Cup" 17).eval #[] s none [] s = some (.ref x) := (Term.string_eval_of_vm (args := #[]) (args' := #[Value.ref b]) (U := s) (V := s) rfl).trans x1
  refine ⟨((dC, dI), (fun k => if k = 20 then a0 else if k = 21 then a1 else if k = 22 then a2 else if k = 23 then a3 else if k = 24 then a4 else a5), s.heap, (fun k => if k = 0 then t0 else if k = 1 then t1 else if k = 2 then x else t3)), rfl, ⟨fun k q hq => hdI k q hq, fun k q hq => ?_⟩, fun w hw hn => va_Nw.of ?_ (hts w hw), va_AO.of ao1, va_AO.of ao2, ?_, ⟨Z0, T0, Z1, T1, ⟨cX, x3, x5, by rw [x6]; exact x2, hA x (Array.getElem?_eq_some_iff.mp x3).1⟩, vk_OFof x1 (va_eqt (hs _ (by decide +kernel))) hA, vk_OFof x1 e3 hA, T3, Z2, Z3⟩, ?_⟩
  · match k, hq with
    | 0, hq => cases hq; exact ⟨p0, q0⟩
    | 1, hq => cases hq; exact ⟨p1, q1⟩
    | 2, hq => cases hq; exact ⟨p2, q2⟩
    | 3, hq => cases hq; exact ⟨p3, q3⟩
    | 4, hq => cases hq; exact ⟨p4, q4⟩
    | 5, hq => cases hq; exact ⟨p5, q5⟩
    | k + 6, hq => simp [ztys] at hq
  · cases w <;> first | exact Bool.noConfusion hn | rfl
  · exact ao3
  · exact ⟨hts (.stringRef "LeavesInCups$Cup" 17 "rhfwm") (List.mem_of_getElem? (i := 389) (by decide +kernel)), hcur⟩
/-- from the law's entry: if the printed function of the law answers, the law ends with true -/
theorem whole_of {p : Program} {e : Env} {s : State} {m : MethodId} {below : List Frame} {meth : Method} {c : Code} (l : Launch) {b L : Nat} {xs : Nat → Int32} (n : Nat) (hF : F_L_law n xs L zh0 = some ()) (C0 : lw_At p s m meth c b L xs) : W p l e room_1 s m #[Value.ref b] below meth c s.heap [] 0 0 (lw_Z below #[Value.ref b] s) (entryFrame m ([Value.ref b] : List Value).toArray 4) := by
  obtain ⟨hx, hb, hr, hml, hown, hts, hX, hbl, hlocks, hgv⟩ := C0
  obtain ⟨E, hE, hK⟩ := z_env hts hgv
  have hB : zB E = s.heap.size := by show E.2.2.1.size = _; rw [hE]
  have C : zC p s m #[Value.ref b] meth c code 4 RL E := ⟨hx, hb, hml, hown, fun w hw => hts w (ztb_in hw), hK, hlocks⟩
  have hl := lv_entry ([.ref b]) (n := 4) (Nat.le_of_ble_eq_true rfl)
  rw [lg_entry_eq]
  refine c_law l E n xs L zh0 () hF C hr hB (by rw [hE]; exact hX) (by rw [hB]; exact hbl) s.heap [] _ ⟨by rw [hB]; rfl, fun q _ => by rw [hE], fun a kd n' h => by cases h⟩ (fun q h => by cases h) hl
