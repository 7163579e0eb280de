/-- where a leaf ends after so many ticks of stirring, and the rest -/
def qSt (f : Nat → Nat → Int32) (R H v many l : Nat) : Int32 := qX (qTick R H (f 86) (nI 0) (nI 0)) R H (qW (qTick R H (f 86) (nI 1) (nI v)) q0 many) (f 93 l) (f 94 l) (qX (qTick R H (f 86) (nI 1) (nI v)) R H q0 (f 93 l) (f 94 l) (f 92 l) many) 60
theorem qSt_cg {f f' : Nat → Nat → Int32} (h : ∀ a, a = 86 ∨ a = 92 ∨ a = 93 ∨ a = 94 → f' a = f a) (R H v many l : Nat) : qSt f' R H v many l = qSt f R H v many l := by
  unfold qSt
  rw [h 86 (by omega), h 92 (by omega), h 93 (by omega), h 94 (by omega)]
theorem qOk_1 (m : Int32) : qOk (nI 1) m := fun h => absurd h (by decide)
theorem qOk_0 (m : Int32) : qOk (nI 0) m := fun h => absurd h (by decide)
theorem eC_stir (n : Nat) {S : zH} {f : Nat → Nat → Int32} {g c c' r r' tr pl nd R H cu nl nr np pt dd v many : Nat} {da ra : Nat → Nat} (hn : 513 < n) (hI : zI0 S f g c c' r r' tr pl nd da R H cu nl nr ra np pt) (hR : 1 ≤ R) (hd : zsh S dd = some (2, 2)) (h99 : 117 ≤ dd) (hk : f dd 0 = nI 1) (hv : f dd 1 = nI v) (hm : many ≤ 20) :
    ∃ F, F_X10_offOfStirring n (zwi S f) 0 dd (nI many) = some (qO (qSt f R H v many) (f 97) R nl, zwi S F) ∧ ∀ a j, a < 44 ∨ 50 < a → F a j = f a j := by
  obtain ⟨hS, hpg, hdo, hcu, hg, hlv, hbr, hwa, hrw, hpi, hrv, him⟩ := hI
  have hM := cl_M hS
  have hcc := cl_cc hS
  have hR6 : R ≤ 6 ∧ 2 ≤ H ∧ H ≤ 4 := by
    obtain ⟨-, -, -, h, -⟩ := hcu
    omega
  have hR1 : f (c + 1) 0 = nI R := (hcu.1 0 (by omega)).trans hcu.2.1
  obtain ⟨l1, l2, l3, l4, l5⟩ := hlv
  have e5 := eX0_calm n (f := f) (w := fun r k => f (42 + 2 + r) k) (y := fun l => f (42 + 8) l) hn (cl_t hS) (cl_lv hS) (by omega) (by omega) l3 (by omega)
  rw [zbr_self] at e5
  generalize hY0 : (fun l => if l < nl then f (23 + 1) l else (fun l => f (42 + 8) l) l) = Y0 at e5
  have hY0' : ∀ l, l < nl → Y0 l = f 92 l := fun l hl => by rw [← hY0]; exact (if_pos hl).trans (l5 l hl).2.2.1
  have hYin : ∀ l, l < nl → ∃ m, m < R ∧ Y0 l = nI m := fun l hl => by
    rw [hY0' l hl]
    exact (l5 l hl).2.2.2.1
  have e6 := eC_go n (f := f) (F := f) (w := q0) (y := Y0) (N := many) (p := nI 0) (dd := dd) hn hS hcu hR hdo (cl_t hS) (by omega) (by omega) (cl_lv hS) (by omega) (by omega) l1 (fun _ _ => rfl) l3 ⟨hd, Or.inr h99⟩ hk hv (qOk_1 _) qB_0 hYin (by omega)
  generalize hY1 : (fun l => if l < nl then qX (qTick R H (f 86) (nI 1) (nI v)) R H q0 (f (23 + 2) l) (f (23 + 3) l) (Y0 l) many else Y0 l) = Y1 at e6
  have hY1' : ∀ l, l < nl → Y1 l = qX (qTick R H (f 86) (nI 1) (nI v)) R H q0 (f 93 l) (f 94 l) (f 92 l) many := fun l hl => by
    obtain ⟨y1, y2, y3, y4, y5, y6, y7⟩ := l5 l hl
    rw [← hY1]
    dsimp only
    rw [if_pos hl, hY0' l hl, show f (23 + 2) l = f 93 l from y5, show f (23 + 3) l = f 94 l from y6]
  have hYin1 : ∀ l, l < nl → ∃ m, m < R ∧ Y1 l = nI m := fun l hl => by
    obtain ⟨m, m1, m2⟩ := (l5 l hl).2.2.2.1
    rw [hY1' l hl, m2]
    exact qX_in m1 hR6.1 many
  have e7 := eC_go n (f := f) (F := f) (w := qW (qTick R H (f 86) (nI 1) (nI v)) q0 many) (y := Y1) (N := 60) (p := nI 0) (dd := 3) hn hS hcu hR hdo (cl_t hS) (by omega) (by omega) (cl_lv hS) (by omega) (by omega) l1 (fun _ _ => rfl) l3 ⟨cl_s3 hS, Or.inl rfl⟩ hdo.2.2.2.1 hdo.2.2.2.2.1 (qOk_0 _) (cu_W hcu hR (qOk_1 _) qB_0 many) hYin1 (by omega)
  generalize hY2 : (fun l => if l < nl then qX (qTick R H (f 86) (nI 0) (nI 0)) R H (qW (qTick R H (f 86) (nI 1) (nI v)) q0 many) (f (23 + 2) l) (f (23 + 3) l) (Y1 l) 60 else Y1 l) = Y2 at e7
  have hY2' : ∀ l, l < nl → Y2 l = qSt f R H v many l := fun l hl => by
    obtain ⟨y1, y2, y3, y4, y5, y6, y7⟩ := l5 l hl
    rw [← hY2]
    dsimp only
    rw [if_pos hl, hY1' l hl, show f (23 + 2) l = f 93 l from y5, show f (23 + 3) l = f 94 l from y6]
    rfl
  generalize hF : zbr f 42 (qW (qTick R H (f 86) (nI 0) (nI 0)) (qW (qTick R H (f 86) (nI 1) (nI v)) q0 many) 60) Y2 = F at e7
  have f0 : ∀ a j, a < 44 ∨ 50 < a → F a j = f a j := fun a j q => by rw [← hF]; exact zbr_o (by omega)
  have e8 := eC_off n (F := F) (R := R) (nl := nl) (Y := qSt f R H v many) (W := f 97) hn hS ((f0 _ _ (by omega)).trans hR1) hR6.1 ((f0 _ _ (by omega)).trans l3) l1 (fun l hl => by rw [← hF, zbr_50 (by omega), hY2' l hl]) (fun x hx => (f0 63 x (by omega)).trans (hwa x (by omega)).1)
  refine ⟨F, ?_, f0⟩
  simp (disch := omega) only [F_X10_offOfStirring, zv, e_gi, e_gr, e_gl, e_si, e_sb, e_ai, e_ar, e_ti, e_ty, e_tz, e_cv, zc_some, zmo_some, zin_T, ↓reduceIte, zit_succ, zzr0, zzr1, true_and, and_true, and_self, or_false, false_or, or_true, true_or, not_true_eq_false, not_false_eq_true, zl0, zl1, zl2, zl3, zl4, zl5, zl6, zl7, zl8, zl9, zl10, zl11, zl12, zl20, zl24, zl31, zl36, zl40, zl42, zl44, zl48, zl49, zl50, zl55, zl57, zl60, zl97, zl99, zl100, zl102, zl104, zl109, zl113, zl114, zl119, zl126, zl255, zl400, zl1000, zl101, zl103, zl1001, zl1002, zl16, zl18, zl32, zl35, zl443, n_leT, n_leF, n_ltT, n_ltF, n_eqT, n_eqF, n_swT, n_swF, nI_add, n_sub, pk_mul, zd_n, cl_s0 hS, cl_r0_0 hS, cl_r0_1 hS, cl_r0_2 hS, cl_r0_9 hS, cl_r0_12 hS, cl_r0_13 hS, cl_r0_14 hS, cl_r0_15 hS, cl_r0_16 hS, cl_r0_17 hS, cl_r0_19 hS, cl_r1_0 hS, cl_r51_0 hS, cl_r51_1 hS, cl_r51_2 hS, cl_r64_0 hS, cl_r64_1 hS, cl_s1 hS, cl_s2 hS, cl_s3 hS, cl_s4 hS, cl_s19 hS, cl_s51 hS, cl_s61 hS, cl_s62 hS, cl_s63 hS, cl_s64 hS, cl_s65 hS, cl_s66 hS, cl_c hS, cl_c' hS, cl_r hS, cl_r' hS, cl_tr hS, cl_sb hS, cl_st hS, cl_sk hS, cl_sl hS, cl_sw hS, cl_sc hS, cl_sc' hS, cl_sr hS, cl_sr' hS, cl_sq hS, mo_s85 hM, mo_r0 hM, mo_s86 hM, mo_r3 hM, mo_s87 hM, mo_r4 hM, mo_s88 hM, mo_r6 hM, mo_s89 hM, mo_r7 hM, mo_s90 hM, mo_r9 hM, mo_s91 hM, mo_r10 hM, mo_s92 hM, mo_r11 hM, mo_s93 hM, mo_r12 hM, mo_s94 hM, mo_r13 hM, mo_s95 hM, mo_r14 hM, mo_s96 hM, mo_r15 hM, mo_s97 hM, mo_r17 hM, mo_s98 hM, mo_r18 hM, mo_s99 hM, mo_r19 hM, mo_s100 hM, mo_r21 hM, mo_s101 hM, mo_r22 hM, mo_s102 hM, mo_r24 hM, mo_s103 hM, mo_r25 hM, mo_s104 hM, mo_r28 hM, mo_s105 hM, mo_r32 hM, mo_s106 hM, mo_r33 hM, mo_s107 hM, mo_r34 hM, mo_s108 hM, mo_r35 hM, mo_s109 hM, mo_r38 hM, mo_s110 hM, mo_r40 hM, mo_s111 hM, mo_r41 hM, mo_s112 hM, mo_r43 hM, mo_s113 hM, mo_r44 hM, mo_s114 hM, mo_r45 hM, mo_s115 hM, mo_r46 hM, mo_s116 hM, e5, hd, e6, e7, e8]
theorem eM_stir1 (n : Nat) {S : zH} {f : Nat → Nat → Int32} {g c c' r r' tr pl nd R H cu nl nr np pt v many : Nat} {da ra : Nat → Nat} (hn : 513 < n) (hI : zI0 S f g c c' r r' tr pl nd da R H cu nl nr ra np pt) (hR : 1 ≤ R) (hm : many ≤ 20) :
    ∃ F1 F2 F3, F_X11_begin n (zwi S f) 85 = some ((), zwi S F1) ∧ F_X11_goAll n (zwi S F1) 85 (nI 1) (nI v) (nI many) = some ((), zwi S F2) ∧ F_X11_goAll n (zwi S F2) 85 (nI 0) (nI 0) (nI 60) = some ((), zwi S F3) ∧ F_X11_offNow n (zwi S F3) 85 = some (qO (qSt f R H v many) (f 97) R nl, zwi S F3) ∧ ∀ a j, a ≠ 88 → a ≠ 96 → F3 a j = f a j := by
  obtain ⟨hS, hpg, hdo, hcu, hg, hlv, hbr, hwa, hrw, hpi, hrv, him⟩ := hI
  have hM := cl_M hS
  have hR6 : R ≤ 6 ∧ 2 ≤ H ∧ H ≤ 4 := by
    obtain ⟨-, -, -, h, -⟩ := hcu
    omega
  have hR0 := hcu.2.1
  have hH0 := hcu.2.2.1
  obtain ⟨l1, l2, l3, l4, l5⟩ := hlv
  have e5 := eM_begin n (f := f) (w := fun r k => f 88 (4 * r + k)) (y := fun l => f 96 l) hn hM l4 l1
  rw [zmd_self] at e5
  generalize hY0 : (fun l => if l < nl then f 92 l else (fun l => f 96 l) l) = Y0 at e5
  have hY0' : ∀ l, l < nl → Y0 l = f 92 l := fun l hl => by rw [← hY0]; exact if_pos hl
  have hYin : ∀ l, l < nl → ∃ m, m < R ∧ Y0 l = nI m := fun l hl => by
    rw [hY0' l hl]
    exact (l5 l hl).2.2.2.1
  have e6 := eM_goAll n (f := f) (w := q0) (y := Y0) (N := many) (k := nI 1) (m := nI v) hn hM hR0 hR6.1 hR hH0 hR6.2.2 hR6.2.1 l4 l1 hYin (by omega)
  generalize hY1 : (fun l => if l < nl then qX (qTick R H (f 86) (nI 1) (nI v)) R H q0 (f 93 l) (f 94 l) (Y0 l) many else Y0 l) = Y1 at e6
  have hY1' : ∀ l, l < nl → Y1 l = qX (qTick R H (f 86) (nI 1) (nI v)) R H q0 (f 93 l) (f 94 l) (f 92 l) many := fun l hl => by
    rw [← hY1]
    dsimp only
    rw [if_pos hl, hY0' l hl]
  have hYin1 : ∀ l, l < nl → ∃ m, m < R ∧ Y1 l = nI m := fun l hl => by
    obtain ⟨m, m1, m2⟩ := (l5 l hl).2.2.2.1
    rw [hY1' l hl, m2]
    exact qX_in m1 hR6.1 many
  have e7 := eM_goAll n (f := f) (w := qW (qTick R H (f 86) (nI 1) (nI v)) q0 many) (y := Y1) (N := 60) (k := nI 0) (m := nI 0) hn hM hR0 hR6.1 hR hH0 hR6.2.2 hR6.2.1 l4 l1 hYin1 (by omega)
  generalize hY2 : (fun l => if l < nl then qX (qTick R H (f 86) (nI 0) (nI 0)) R H (qW (qTick R H (f 86) (nI 1) (nI v)) q0 many) (f 93 l) (f 94 l) (Y1 l) 60 else Y1 l) = Y2 at e7
  have hY2' : ∀ l, l < nl → Y2 l = qSt f R H v many l := fun l hl => by
    rw [← hY2]
    dsimp only
    rw [if_pos hl, hY1' l hl]
    rfl
  generalize hF : zmd f (qW (qTick R H (f 86) (nI 0) (nI 0)) (qW (qTick R H (f 86) (nI 1) (nI v)) q0 many) 60) Y2 = F at e7
  have f0 : ∀ a j, a ≠ 88 → a ≠ 96 → F a j = f a j := fun a j q1 q2 => by rw [← hF]; exact zmd_o ⟨q1, q2⟩
  have e8 := eM_off n (F := F) (R := R) (nl := nl) (Y := qSt f R H v many) (W := f 97) hn hM ((f0 _ _ (by omega) (by omega)).trans hR0) hR6.1 ((f0 _ _ (by omega) (by omega)).trans l4) l1 (fun l hl => by rw [← hF, zmd_y (by omega), hY2' l hl]) (fun x hx => f0 97 x (by omega) (by omega))
  exact ⟨_, _, F, e5, e6, e7, e8, f0⟩
/-! ===== the least ===== -/
theorem qabs_n {a b : Nat} (ha : a ≤ 8) (hb : b ≤ 8) : ∃ k, k ≤ 8 ∧ qabs (nI a - nI b) = nI k := by
  have : ∀ a b : Fin 9, ∃ k : Fin 9, qabs (nI a.val - nI b.val) = nI k.val := by decide +kernel
  obtain ⟨k, hk⟩ := this ⟨a, by omega⟩ ⟨b, by omega⟩
  exact ⟨k.val, by omega, hk⟩
theorem qO_n {Y W : Nat → Int32} {nl : Nat} (hnl : nl ≤ 8) : ∀ {R : Nat}, (∀ r, r < R → ∃ x, x ≤ 8 ∧ W r = nI x) → ∃ k, k ≤ 8 * R ∧ qO Y W R nl = nI k
  | 0, _ => ⟨0, by omega, rfl⟩
  | R + 1, h => by
    obtain ⟨k, h1, h2⟩ := qO_n hnl (R := R) (fun r hr => h r (by omega))
    obtain ⟨x, hx, hw⟩ := h R (by omega)
    obtain ⟨y, hy, hq, -⟩ := qCnt_nat (Y := Y) (x := nI R) nl
    obtain ⟨z, hz, e⟩ := qabs_n (a := y) (b := x) (by omega) hx
    exact ⟨k + z, by omega, by rw [qO_s, h2, hq, hw, e, nI_add]⟩
/-- the best of the codes that are behind, from the code i on -/
def qBe (off : Nat → Int32) (i : Nat) : Nat × Int32 := zit (fun i s => if s.2 ≤ off (i + 1) then s else (i + 1, off (i + 1))) (0, off 0) i
theorem qBe_s (off : Nat → Int32) (i : Nat) : qBe off (i + 1) = if (qBe off i).2 ≤ off (i + 1) then qBe off i else (i + 1, off (i + 1)) := rfl
theorem qBe_le (off : Nat → Int32) : ∀ i, (qBe off i).1 ≤ i
  | 0 => Nat.le_refl 0
  | i + 1 => by
    have := qBe_le off i
    rw [qBe_s]
    split
    · omega
    · exact Nat.le_refl _
/-- what the class holds of the best, before the code i -/
def qCs (off : Nat → Int32) (i : Nat) : Int32 × Int32 × Int32 := if i = 0 then (nI 0, nI 0, nI 1000000) else (nI ((qBe off (i - 1)).1 / 20 + 1), nI ((qBe off (i - 1)).1 % 20 + 1), (qBe off (i - 1)).2)
/-- what the reference holds of the best, before the code i -/
def qMs (off : Nat → Int32) (i : Nat) : Int32 × Int32 := if i = 0 then (nI 0, nI 268435456) else (nI (qBe off (i - 1)).1, (qBe off (i - 1)).2)
theorem qCs_s {off : Nat → Int32} (h : ∃ k, k < 1000 ∧ off 0 = nI k) (i : Nat) : qCs off (i + 1) = if (qCs off i).2.2 ≤ off i then qCs off i else (nI (i / 20 + 1), nI (i % 20 + 1), off i) := by
  unfold qCs
  rw [if_neg (Nat.succ_ne_zero i), Nat.add_sub_cancel]
  cases i with
  | zero =>
    obtain ⟨k, hk, e⟩ := h
    rw [if_pos rfl, e, if_neg (nI_ge (by omega) (by omega)), ← e]
    rfl
  | succ i =>
    rw [if_neg (Nat.succ_ne_zero i), Nat.add_sub_cancel, qBe_s]
    by_cases hq : (qBe off i).2 ≤ off (i + 1)
    · rw [if_pos hq, if_pos hq]
    · rw [if_neg hq, if_neg hq]
theorem qMs_s {off : Nat → Int32} (h : ∃ k, k < 1000 ∧ off 0 = nI k) (i : Nat) : qMs off (i + 1) = if (qMs off i).2 ≤ off i then qMs off i else (nI i, off i) := by
  unfold qMs
  rw [if_neg (Nat.succ_ne_zero i), Nat.add_sub_cancel]
  cases i with
  | zero =>
    obtain ⟨k, hk, e⟩ := h
    rw [if_pos rfl, e, if_neg (nI_ge (by omega) (by omega)), ← e]
    rfl
  | succ i =>
    rw [if_neg (Nat.succ_ne_zero i), Nat.add_sub_cancel, qBe_s]
    by_cases hq : (qBe off i).2 ≤ off (i + 1)
    · rw [if_pos hq, if_pos hq]
    · rw [if_neg hq, if_neg hq]
