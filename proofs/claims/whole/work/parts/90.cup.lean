theorem I_do_lx {S S' : zH} {f : Nat → Nat → Int32} {nd : Nat} {da : Nat → Nat} {x0 : Nat → Nat → Prop} (L : zLow S S' (zsz S) x0) (hx : ∀ y, ¬ x0 4 y) (hz : 117 ≤ zsz S) (hs : zsz S ≤ zsz S') (h : I_do S f nd da) : I_do S' f nd da := by
  obtain ⟨h1, h2, h3, h4, h5, h6⟩ := h
  refine ⟨h1, h2, h3, h4, h5, fun k hk => ?_⟩
  obtain ⟨k1, k2, k3, k4, k5⟩ := h6 k hk
  exact ⟨(L.2 _ _ (by omega) (hx _)).trans k1, (L.1 _ k4).trans k2, k3, by omega, k5⟩
theorem I_rw_lx {S S' : zH} {f : Nat → Nat → Int32} {nr tr : Nat} {ra : Nat → Nat} {x0 : Nat → Nat → Prop} (L : zLow S S' (zsz S) x0) (hx : ∀ x y, 19 ≤ x → ¬ x0 x y) (hz : 117 ≤ zsz S) (ht : tr + 2 < zsz S) (h : I_rw S f nr ra tr) : I_rw S' f nr ra tr := by
  obtain ⟨⟨h1, h1', h1''⟩, h2, h3, h6⟩ := h
  refine ⟨⟨h1, h1', zSp_low L hx hz h1''⟩, h2, h3, fun k hk => ?_⟩
  obtain ⟨k1, k2, k3, k4, k5⟩ := h6 k hk
  exact ⟨(L.2 _ _ (by omega) (hx _ _ (by omega))).trans k1, zRw_low L (by omega) (fun _ => hx _ _ (by omega)) k2, k3, k4, k5⟩
theorem sCu_dig {cd : Nat → Nat} {k s : Nat} (h : tst sCu 0 cd k = some s) : ∀ p, 2 * p + 1 < k → p < 5 → 48 + cLow p ≤ cd (2 * p + 1) ∧ cd (2 * p + 1) ≤ 48 + cHigh p := by
  refine (tst_inv (P := fun i s => s = i ∧ ∀ p, 2 * p + 1 < i → p < 5 → 48 + cLow p ≤ cd (2 * p + 1) ∧ cd (2 * p + 1) ≤ 48 + cHigh p) ⟨rfl, fun p hp => by omega⟩ (fun i a b hi ha hb => ?_) h).2
  obtain ⟨rfl, a2⟩ := ha
  unfold sCu at hb
  by_cases h1 : a < 10
  · rw [if_pos h1] at hb
    by_cases h2 : a % 2 = 0
    · rw [if_pos h2] at hb
      by_cases h3 : cd a = cMark (a / 2)
      · rw [if_pos h3] at hb
        exact ⟨(Option.some.inj hb).symm, fun p hp hp5 => a2 p (by omega) hp5⟩
      · rw [if_neg h3] at hb
        cases hb
    · rw [if_neg h2] at hb
      by_cases h3 : 48 + cLow (a / 2) ≤ cd a ∧ cd a ≤ 48 + cHigh (a / 2)
      · rw [if_pos h3] at hb
        refine ⟨(Option.some.inj hb).symm, fun p hp hp5 => ?_⟩
        by_cases e : 2 * p + 1 = a
        · rw [e, show p = a / 2 by omega]
          exact h3
        · exact a2 p (by omega) hp5
      · rw [if_neg h3] at hb
        cases hb
  · rw [if_neg h1] at hb
    by_cases h3 : a = 10 ∧ cd a = 113
    · rw [if_pos h3] at hb
      exact ⟨(Option.some.inj hb).symm, fun p hp hp5 => a2 p (by omega) hp5⟩
    · rw [if_neg h3] at hb
      cases hb
/-- a cup that was read takes its place, in the class -/
theorem eC_newCup (n : Nat) {S : zH} {F : Nat → Nat → Int32} {c c' r r' tr cu : Nat} (hn : 513 < n) (hS : zKl S c c' r r' tr) (hcu : F 0 6 = nI cu) :
    ∃ Z, F_X0_calm n (zwi S (z2 (z2 (z2 F 0 6 (nI (cu + 1))) 1 1 (nI 0)) 23 4 (nI 0))) 33 23 = some ((), zwi S Z) ∧ Z 0 6 = nI (cu + 1) ∧ Z 1 1 = nI 0 ∧ Z 23 4 = nI 0 ∧ (∀ r k, r < 6 → k < 4 → Z (35 + r) k = nI 0) ∧ ∀ a j, (a < 35 ∨ 41 < a) → ¬ (a = 0 ∧ j = 6) → ¬ (a = 1 ∧ j = 1) → ¬ (a = 23 ∧ j = 4) → Z a j = F a j := by
  obtain ⟨Fc, hFc⟩ : ∃ Fc, Fc = z2 (z2 (z2 F 0 6 (nI (cu + 1))) 1 1 (nI 0)) 23 4 (nI 0) := ⟨_, rfl⟩
  have l3 : Fc 23 4 = nI 0 := by rw [hFc]; exact z2_eq _ _ _ _
  have e5 := eX0_calm n (f := Fc) (w := fun r k => Fc (33 + 2 + r) k) (y := fun l => Fc (33 + 8) l) (nl := 0) hn (cl_b hS) (cl_lv hS) (by omega) (by omega) l3 (by omega)
  rw [zbr_self] at e5
  rw [← hFc]
  refine ⟨_, e5, ?_, ?_, ?_, fun r k hr hk => ?_, fun a j q1 q2 q3 q4 => ?_⟩
  · rw [zbr_o (by omega), hFc, z2n (by omega), z2n (by omega)]
    exact z2_eq _ _ _ _
  · rw [zbr_o (by omega), hFc, z2n (by omega)]
    exact z2_eq _ _ _ _
  · rw [zbr_o (by omega)]
    exact l3
  · rw [show 35 + r = 33 + 2 + r by omega, zbr_w ⟨hr, hk⟩]
    rfl
  · rw [zbr_o (by omega), hFc, z2_ne _ _ _ _ q4, z2_ne _ _ _ _ q3, z2_ne _ _ _ _ q2]
theorem eC_cup80 (n : Nat) {S : zH} {F : Nat → Nat → Int32} {c c' r r' tr : Nat} (hn : 513 < n) (hS : zKl S c c' r r' tr) :
    ∃ Z, F_X10_cup_L80 n (zwi S F) 0 (nI 0) = some (F (c + 1) 0, zwi S Z) ∧ (∀ j, j < 6 → Z 63 j = nI 0) ∧ ∀ a j, a ≠ 63 → Z a j = F a j := by
  have hcc := cl_cc hS
  have h0 : zsh S 0 = some (9, 20) := cl_s0 hS
  have r17 : zr S 0 17 = some 63 := cl_r0_17 hS
  have s63 : zsh S 63 = some (20, 6) := cl_s63 hS
  have r4 : zr S 0 4 = some c := cl_c hS
  have hC := cl_Cu hS
  have c1 := hC.1
  unfold F_X10_cup_L80
  have key9 := zforE (body := fun kc x => F_X10_cup_B80 n kc x.1 0 x.2) (fun i x => ∃ Z, x = (zwi S Z, nI i) ∧ (∀ j, j < i → Z 63 j = nI 0) ∧ ∀ a j, a ≠ 63 → Z a j = F a j) 6 (Q := fun r => ∃ Z, r = some (F (c + 1) 0, zwi S Z) ∧ (∀ j, j < 6 → Z 63 j = nI 0) ∧ ∀ a j, a ≠ 63 → Z a j = F a j) (fun i x hi hx => ?_) (fun x hx => ?_) (n := n) (by omega) (x := (zwi S F, nI 0)) ⟨F, rfl, fun j hj => by omega, fun _ _ _ => rfl⟩
  · obtain ⟨r, ⟨Z, e1, e3, e4⟩, e2⟩ := key9
    exact ⟨Z, by rw [e2, e1], e3, e4⟩
  · obtain ⟨Z, rfl, g1, g2⟩ := hx
    refine ⟨_, ⟨z2 Z 63 i (nI 0), rfl, fun j hj => ?_, fun a j q => by rw [z2n (by omega)]; exact g2 a j q⟩, fun kc => by simp (disch := omega) only [F_X10_cup_B80, zv, e_gi, e_gr, e_gl, e_si, e_sb, e_ai, e_ar, e_ti, e_ty, e_tz, e_cv, zc_some, zmo_some, zin_T, ↓reduceIte, zit_succ, zzr0, zzr1, true_and, and_true, and_self, or_false, false_or, or_true, true_or, not_true_eq_false, not_false_eq_true, zl0, zl1, zl2, zl3, zl4, zl5, zl6, zl7, zl8, zl9, zl10, zl11, zl12, zl20, zl24, zl31, zl36, zl40, zl42, zl44, zl48, zl49, zl50, zl55, zl57, zl60, zl97, zl99, zl100, zl102, zl104, zl109, zl113, zl114, zl119, zl126, zl255, zl400, zl1000, zl101, zl103, zl1001, zl1002, zl16, zl18, zl32, zl35, zl443, n_leT, n_leF, n_ltT, n_ltF, n_eqT, n_eqF, n_swT, n_swF, nI_add, n_sub, pk_mul, zd_n, h0, r17, s63]⟩
    by_cases e : j = i
    · subst e; exact z2_eq _ _ _ _
    · rw [z2n (by omega)]; exact g1 j (by omega)
  · obtain ⟨Z, rfl, g1, g2⟩ := hx
    have er := eX1_rings n (f := Z) hC
    have g3 := g2 (c + 1) 0 (by omega)
    exact ⟨_, ⟨Z, rfl, g1, g2⟩, fun kc => by simp (disch := omega) only [F_X10_cup_B80, zv, e_gi, e_gr, e_gl, e_si, e_sb, e_ai, e_ar, e_ti, e_ty, e_tz, e_cv, zc_some, zmo_some, zin_T, ↓reduceIte, zit_succ, zzr0, zzr1, true_and, and_true, and_self, or_false, false_or, or_true, true_or, not_true_eq_false, not_false_eq_true, zl0, zl1, zl2, zl3, zl4, zl5, zl6, zl7, zl8, zl9, zl10, zl11, zl12, zl20, zl24, zl31, zl36, zl40, zl42, zl44, zl48, zl49, zl50, zl55, zl57, zl60, zl97, zl99, zl100, zl102, zl104, zl109, zl113, zl114, zl119, zl126, zl255, zl400, zl1000, zl101, zl103, zl1001, zl1002, zl16, zl18, zl32, zl35, zl443, n_leT, n_leF, n_ltT, n_ltF, n_eqT, n_eqF, n_swT, n_swF, nI_add, n_sub, pk_mul, zd_n, h0, r4, c1, er, g3]⟩
theorem eM_cup50 (n : Nat) {S : zH} {F : Nat → Nat → Int32} {cu : Nat} (hn : 513 < n) (hM : zMo S) (hcu : F 85 2 = nI cu) :
    ∃ Z, F_X11_cup_L50 n (zwi S F) 85 (nI 0) = some (F 86 0, zwi S Z) ∧ (∀ j, j < 24 → Z 87 j = nI 0) ∧ Z 85 8 = nI 0 ∧ Z 85 1 = nI 1 ∧ Z 85 2 = nI (cu + 1) ∧ Z 85 27 = nI 0 ∧ ∀ a j, a ≠ 87 → ¬ (a = 85 ∧ (j = 8 ∨ j = 1 ∨ j = 2 ∨ j = 27)) → Z a j = F a j := by
  have s67 := mo_s85 hM
  have r0 := mo_r0 hM
  have s68 := mo_s86 hM
  have r3 := mo_r3 hM
  have s69 := mo_s87 hM
  unfold F_X11_cup_L50
  have key9 := zforE (body := fun kc x => F_X11_cup_B50 n kc x.1 85 x.2) (fun i x => ∃ Z, x = (zwi S Z, nI i) ∧ (∀ j, j < i → Z 87 j = nI 0) ∧ ∀ a j, a ≠ 87 → Z a j = F a j) 24 (Q := fun r => ∃ Z, r = some (F 86 0, zwi S Z) ∧ (∀ j, j < 24 → Z 87 j = nI 0) ∧ Z 85 8 = nI 0 ∧ Z 85 1 = nI 1 ∧ Z 85 2 = nI (cu + 1) ∧ Z 85 27 = nI 0 ∧ ∀ a j, a ≠ 87 → ¬ (a = 85 ∧ (j = 8 ∨ j = 1 ∨ j = 2 ∨ j = 27)) → Z a j = F a j) (fun i x hi hx => ?_) (fun x hx => ?_) (n := n) (by omega) (x := (zwi S F, nI 0)) ⟨F, rfl, fun j hj => by omega, fun _ _ _ => rfl⟩
  · obtain ⟨r, ⟨Z, e1, e3⟩, e2⟩ := key9
    exact ⟨Z, by rw [e2, e1], e3⟩
  · obtain ⟨Z, rfl, g1, g2⟩ := hx
    refine ⟨_, ⟨z2 Z 87 i (nI 0), rfl, fun j hj => ?_, fun a j q => by rw [z2n (by omega)]; exact g2 a j q⟩, fun kc => by simp (disch := omega) only [F_X11_cup_B50, zv, e_gi, e_gr, e_gl, e_si, e_sb, e_ai, e_ar, e_ti, e_ty, e_tz, e_cv, zc_some, zmo_some, zin_T, ↓reduceIte, zit_succ, zzr0, zzr1, true_and, and_true, and_self, or_false, false_or, or_true, true_or, not_true_eq_false, not_false_eq_true, zl0, zl1, zl2, zl3, zl4, zl5, zl6, zl7, zl8, zl9, zl10, zl11, zl12, zl20, zl24, zl31, zl36, zl40, zl42, zl44, zl48, zl49, zl50, zl55, zl57, zl60, zl97, zl99, zl100, zl102, zl104, zl109, zl113, zl114, zl119, zl126, zl255, zl400, zl1000, zl101, zl103, zl1001, zl1002, zl16, zl18, zl32, zl35, zl443, n_leT, n_leF, n_ltT, n_ltF, n_eqT, n_eqF, n_swT, n_swF, nI_add, n_sub, pk_mul, zd_n, s67, r3, s69]⟩
    by_cases e : j = i
    · subst e; exact z2_eq _ _ _ _
    · rw [z2n (by omega)]; exact g1 j (by omega)
  · obtain ⟨Z, rfl, g1, g2⟩ := hx
    have g3 := g2 86 0 (by omega)
    have g4 := (g2 85 2 (by omega)).trans hcu
    refine ⟨_, ⟨z2 (z2 (z2 (z2 Z 85 8 (nI 0)) 85 1 (nI 1)) 85 2 (nI (cu + 1))) 85 27 (nI 0), rfl, fun j hj => ?_, ?_, ?_, ?_, z2_eq _ _ _ _, fun a j q1 q2 => ?_⟩, fun kc => by simp (disch := omega) only [F_X11_cup_B50, zv, e_gi, e_gr, e_gl, e_si, e_sb, e_ai, e_ar, e_ti, e_ty, e_tz, e_cv, zc_some, zmo_some, zin_T, ↓reduceIte, zit_succ, zzr0, zzr1, true_and, and_true, and_self, or_false, false_or, or_true, true_or, not_true_eq_false, not_false_eq_true, zl0, zl1, zl2, zl3, zl4, zl5, zl6, zl7, zl8, zl9, zl10, zl11, zl12, zl20, zl24, zl31, zl36, zl40, zl42, zl44, zl48, zl49, zl50, zl55, zl57, zl60, zl97, zl99, zl100, zl102, zl104, zl109, zl113, zl114, zl119, zl126, zl255, zl400, zl1000, zl101, zl103, zl1001, zl1002, zl16, zl18, zl32, zl35, zl443, n_leT, n_leF, n_ltT, n_ltF, n_eqT, n_eqF, n_swT, n_swF, nI_add, n_sub, pk_mul, zd_n, z2_eq, z2n, s67, r0, s68, g3, g4]⟩
    · simp (disch := omega) only [z2_eq, z2n, g1 j hj]
    · simp (disch := omega) only [z2_eq, z2n]
    · simp (disch := omega) only [z2_eq, z2n]
    · simp (disch := omega) only [z2_eq, z2n]
    · rw [z2n (by omega), z2n (by omega), z2n (by omega), z2n (by omega)]
      exact g2 a j q1
theorem eM_newCup (n : Nat) {S : zH} {F : Nat → Nat → Int32} {cu : Nat} (hn : 513 < n) (hM : zMo S) (hcu : F 85 2 = nI cu) :
    ∃ Z, F_X11_cup_L17 n (zwi S F) 85 (nI 0) = some (F 110 0, zwi S Z) ∧ (∀ j, j < 6 → Z 86 j = F 110 j ∧ Z 97 j = nI 0) ∧ (∀ j, j < 24 → Z 87 j = nI 0) ∧ Z 85 8 = nI 0 ∧ Z 85 1 = nI 1 ∧ Z 85 2 = nI (cu + 1) ∧ Z 85 27 = nI 0 ∧ ∀ a j, a ≠ 86 → a ≠ 87 → a ≠ 97 → ¬ (a = 85 ∧ (j = 8 ∨ j = 1 ∨ j = 2 ∨ j = 27)) → Z a j = F a j := by
  have s67 := mo_s85 hM
  have r0 := mo_r0 hM
  have s68 := mo_s86 hM
  have r38 := mo_r38 hM
  have s92 := mo_s110 hM
  have r15 := mo_r15 hM
  have s79 := mo_s97 hM
  unfold F_X11_cup_L17
  have key9 := zforE (body := fun kc x => F_X11_cup_B17 n kc x.1 85 x.2) (fun i x => ∃ Z, x = (zwi S Z, nI i) ∧ (∀ j, j < i → Z 86 j = F 110 j ∧ Z 97 j = nI 0) ∧ ∀ a j, a ≠ 86 → a ≠ 97 → Z a j = F a j) 6 (Q := fun r => ∃ Z, r = some (F 110 0, zwi S Z) ∧ (∀ j, j < 6 → Z 86 j = F 110 j ∧ Z 97 j = nI 0) ∧ (∀ j, j < 24 → Z 87 j = nI 0) ∧ Z 85 8 = nI 0 ∧ Z 85 1 = nI 1 ∧ Z 85 2 = nI (cu + 1) ∧ Z 85 27 = nI 0 ∧ ∀ a j, a ≠ 86 → a ≠ 87 → a ≠ 97 → ¬ (a = 85 ∧ (j = 8 ∨ j = 1 ∨ j = 2 ∨ j = 27)) → Z a j = F a j) (fun i x hi hx => ?_) (fun x hx => ?_) (n := n) (by omega) (x := (zwi S F, nI 0)) ⟨F, rfl, fun j hj => by omega, fun _ _ _ _ => rfl⟩
  · obtain ⟨r, ⟨Z, e1, e3⟩, e2⟩ := key9
    exact ⟨Z, by rw [e2, e1], e3⟩
  · obtain ⟨Z, rfl, g1, g2⟩ := hx
    have g3 := g2 110 i (by omega) (by omega)
    refine ⟨_, ⟨z2 (z2 Z 86 i (F 110 i)) 97 i (nI 0), rfl, fun j hj => ?_, fun a j q1 q2 => by rw [z2n (by omega), z2n (by omega)]; exact g2 a j q1 q2⟩, fun kc => by simp (disch := omega) only [F_X11_cup_B17, zv, e_gi, e_gr, e_gl, e_si, e_sb, e_ai, e_ar, e_ti, e_ty, e_tz, e_cv, zc_some, zmo_some, zin_T, ↓reduceIte, zit_succ, zzr0, zzr1, true_and, and_true, and_self, or_false, false_or, or_true, true_or, not_true_eq_false, not_false_eq_true, zl0, zl1, zl2, zl3, zl4, zl5, zl6, zl7, zl8, zl9, zl10, zl11, zl12, zl20, zl24, zl31, zl36, zl40, zl42, zl44, zl48, zl49, zl50, zl55, zl57, zl60, zl97, zl99, zl100, zl102, zl104, zl109, zl113, zl114, zl119, zl126, zl255, zl400, zl1000, zl101, zl103, zl1001, zl1002, zl16, zl18, zl32, zl35, zl443, n_leT, n_leF, n_ltT, n_ltF, n_eqT, n_eqF, n_swT, n_swF, nI_add, n_sub, pk_mul, zd_n, s67, r0, s68, r38, s92, r15, s79, g3]⟩
    by_cases e : j = i
    · subst e
      simp (disch := omega) only [z2_eq, z2n]
      exact ⟨trivial, trivial⟩
    · simp (disch := omega) only [z2_eq, z2n]
      exact g1 j (by omega)
  · obtain ⟨Z, rfl, g1, g2⟩ := hx
    obtain ⟨Y, y1, y2, y3, y4, y5, y6, y7⟩ := eM_cup50 n (F := Z) hn hM ((g2 85 2 (by omega) (by omega)).trans hcu)
    rw [(g1 0 (by omega)).1] at y1
    refine ⟨_, ⟨Y, rfl, fun j hj => ?_, y2, y3, y4, y5, y6, fun a j q1 q2 q3 q4 => (y7 a j q2 q4).trans (g2 a j q1 q3)⟩, fun kc => by simp (disch := omega) only [F_X11_cup_B17, zv, e_gi, e_gr, e_gl, e_si, e_sb, e_ai, e_ar, e_ti, e_ty, e_tz, e_cv, zc_some, zmo_some, zin_T, ↓reduceIte, zit_succ, zzr0, zzr1, true_and, and_true, and_self, or_false, false_or, or_true, true_or, not_true_eq_false, not_false_eq_true, zl0, zl1, zl2, zl3, zl4, zl5, zl6, zl7, zl8, zl9, zl10, zl11, zl12, zl20, zl24, zl31, zl36, zl40, zl42, zl44, zl48, zl49, zl50, zl55, zl57, zl60, zl97, zl99, zl100, zl102, zl104, zl109, zl113, zl114, zl119, zl126, zl255, zl400, zl1000, zl101, zl103, zl1001, zl1002, zl16, zl18, zl32, zl35, zl443, n_leT, n_leF, n_ltT, n_ltF, n_eqT, n_eqF, n_swT, n_swF, nI_add, n_sub, pk_mul, zd_n, y1]⟩
    rw [y7 86 j (by omega) (by omega), y7 97 j (by omega) (by omega)]
    exact g1 j hj
