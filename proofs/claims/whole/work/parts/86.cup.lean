/-! ===== the text of a cup ===== -/
def cMark (p : Nat) : Nat := if p = 0 then 114 else if p = 1 then 104 else if p = 2 then 102 else if p = 3 then 119 else 109
def cLow (p : Nat) : Nat := if p < 2 then 2 else 0
def cHigh (p : Nat) : Nat := if p = 0 then 6 else if p = 1 then 4 else 9
def sCu (i c : Nat) : Option Nat := if i < 10 then (if i % 2 = 0 then (if c = cMark (i / 2) then some (i + 1) else none) else if 48 + cLow (i / 2) ≤ c ∧ c ≤ 48 + cHigh (i / 2) then some (i + 1) else none) else if i = 10 ∧ c = 113 then some (i + 1) else none
theorem cMark_c : ∀ p, p < 5 → zMarks p = nI (cMark p) := by decide
theorem cLow_c : ∀ p, p < 5 → zLeast p = nI (cLow p) := by decide
theorem cHigh_c : ∀ p, p < 5 → zMost p = nI (cHigh p) := by decide
theorem cMark_b (p : Nat) : cMark p ≤ 126 := by unfold cMark; repeat (first | omega | split)
theorem cLow_b (p : Nat) : cLow p ≤ 2 := by unfold cLow; split <;> omega
theorem cHigh_b (p : Nat) : cHigh p ≤ 9 := by unfold cHigh; repeat (first | omega | split)
theorem zst_n {β : Type} {f : Nat → Int32} {N k : Nat} {kk : Int32 → Option β} (h : k < N ∧ k < 2147483648) : zst f N (nI k) kk = kk (f k) := by
  unfold zst
  rw [nI_clamp h.2, if_pos ⟨nI_nlt (Nat.zero_le k) h.2, h.1⟩]
theorem n_div {a b : Nat} (h : a < 2147483648 ∧ 0 < b ∧ b < 2147483648) : nI a / nI b = nI (a / b) := pk_div h.1 h.2.1 h.2.2
theorem zm_nn {β : Type} {a b : Nat} {k : Int32 → Option β} (h : a < 2147483648 ∧ 0 < b ∧ b < 2147483648) : zm (nI a) (nI b) k = k (nI (a % b)) := by
  unfold zm
  rw [if_neg (nI_ne0 h.2.1 h.2.2), pk_rem h.1 h.2.1 h.2.2]
theorem sCu_inv {cd : Nat → Nat} {k s : Nat} (h : tst sCu 0 cd k = some s) : s = k ∧ k ≤ 11 := by
  refine tst_inv (P := fun i s => s = i ∧ i ≤ 11) ⟨rfl, by omega⟩ (fun i a b hi ha hb => ?_) h
  obtain ⟨rfl, a2⟩ := ha
  unfold sCu at hb
  by_cases h1 : a < 10
  · rw [if_pos h1] at hb
    by_cases h2 : a % 2 = 0
    · rw [if_pos h2] at hb
      by_cases h3 : cd a = cMark (a / 2)
      · rw [if_pos h3] at hb
        exact ⟨(Option.some.inj hb).symm, by omega⟩
      · rw [if_neg h3] at hb
        cases hb
    · rw [if_neg h2] at hb
      by_cases h3 : 48 + cLow (a / 2) ≤ cd a ∧ cd a ≤ 48 + cHigh (a / 2)
      · rw [if_pos h3] at hb
        exact ⟨(Option.some.inj hb).symm, by omega⟩
      · rw [if_neg h3] at hb
        cases hb
  · rw [if_neg h1] at hb
    by_cases h3 : a = 10 ∧ cd a = 113
    · rw [if_pos h3] at hb
      exact ⟨(Option.some.inj hb).symm, by omega⟩
    · rw [if_neg h3] at hb
      cases hb
/-- what a cup's text holds so far -/
def cTold (cd : Nat → Nat) (i j : Nat) : Nat := if j < 5 then (if 2 * j + 1 < i then cd (2 * j + 1) - 48 else 0) else if i = 11 then 1 else 0
def iCu (cd : Nat → Nat) (t i s : Nat) (F : Nat → Nat → Int32) : Prop := s = i ∧ i ≤ 11 ∧ F t 1 = nI i ∧ ∀ j, j < 6 → F (t + 1) j = nI (cTold cd i j)
theorem eC_takesCup (n : Nat) {S : zH} {F : Nat → Nat → Int32} {cd : Nat → Nat} {t i s : Nat} (hT : zCu S t) (hc : cd i ≤ 126) (h : iCu cd t i s F) :
    ∃ F', (∀ a j, (a < t ∨ t + 1 < a) → F' a j = F a j) ∧ ((sCu s (cd i) = none ∧ F_X1_takes n (zwi S F) t (nI (cd i)) = some (nI 0, zwi S F')) ∨ ∃ s', sCu s (cd i) = some s' ∧ F_X1_takes n (zwi S F) t (nI (cd i)) = some (nI 1, zwi S F') ∧ iCu cd t (i + 1) s' F') := by
  obtain ⟨rfl, hi, h1, h2⟩ := h
  obtain ⟨c1, c2, c3⟩ := hT
  obtain ⟨c, hcc⟩ : ∃ c, c = cd s := ⟨_, rfl⟩
  rw [← hcc] at hc ⊢
  by_cases a1 : s < 10
  · have m1 := cMark_c (s / 2) (by omega)
    have m2 := cLow_c (s / 2) (by omega)
    have m3 := cHigh_c (s / 2) (by omega)
    have b1 := cMark_b (s / 2)
    have b2 := cLow_b (s / 2)
    have b3 := cHigh_b (s / 2)
    by_cases a2 : s % 2 = 0
    · by_cases a3 : c = cMark (s / 2)
      · refine ⟨z2 F t 1 (nI (s + 1)), fun a j q => z2n (by omega), Or.inr ⟨s + 1, by unfold sCu; rw [if_pos a1, if_pos a2, if_pos a3], ?_, rfl, by omega, z2_eq _ _ _ _, fun j hj => ?_⟩⟩
        · simp (disch := omega) only [F_X1_takes, F_X1_takes_J80, F_X1_takes_J132, F_X1_takes_J146, zv, e_gi, e_gr, e_gl, e_si, e_sb, e_ai, e_ar, e_ti, e_ty, e_tz, e_cv, zc_some, zmo_some, zin_T, ↓reduceIte, zit_succ, zzr0, zzr1, true_and, and_true, and_self, or_false, false_or, or_true, true_or, not_true_eq_false, not_false_eq_true, zl0, zl1, zl2, zl3, zl4, zl5, zl6, zl7, zl8, zl9, zl10, zl11, zl12, zl20, zl24, zl31, zl36, zl40, zl42, zl44, zl48, zl49, zl50, zl55, zl57, zl60, zl97, zl99, zl100, zl102, zl104, zl109, zl113, zl114, zl119, zl126, zl255, zl400, zl1000, zl101, zl103, zl1001, zl1002, zl16, zl18, zl32, zl35, zl443, n_leT, n_leF, n_ltT, n_ltF, n_eqT, n_eqF, n_swT, n_swF, nI_add, n_sub, pk_mul, zd_n, c1, c2, c3, h1, n_div, zm_nn, zst_n, m1, a3]
        · rw [z2n (by omega), h2 j hj]
          unfold cTold
          congr 1
          repeat (first | omega | split)
      · refine ⟨z2 F t 1 (nI s), fun a j q => z2n (by omega), Or.inl ⟨by unfold sCu; rw [if_pos a1, if_pos a2, if_neg a3], ?_⟩⟩
        simp (disch := omega) only [F_X1_takes, F_X1_takes_J80, F_X1_takes_J132, F_X1_takes_J146, zv, e_gi, e_gr, e_gl, e_si, e_sb, e_ai, e_ar, e_ti, e_ty, e_tz, e_cv, zc_some, zmo_some, zin_T, ↓reduceIte, zit_succ, zzr0, zzr1, true_and, and_true, and_self, or_false, false_or, or_true, true_or, not_true_eq_false, not_false_eq_true, zl0, zl1, zl2, zl3, zl4, zl5, zl6, zl7, zl8, zl9, zl10, zl11, zl12, zl20, zl24, zl31, zl36, zl40, zl42, zl44, zl48, zl49, zl50, zl55, zl57, zl60, zl97, zl99, zl100, zl102, zl104, zl109, zl113, zl114, zl119, zl126, zl255, zl400, zl1000, zl101, zl103, zl1001, zl1002, zl16, zl18, zl32, zl35, zl443, n_leT, n_leF, n_ltT, n_ltF, n_eqT, n_eqF, n_swT, n_swF, nI_add, n_sub, pk_mul, zd_n, c1, c2, c3, h1, n_div, zm_nn, zst_n, m1, Nat.add_zero]
    · have ed := fun h => eC_digitOf n h hc
      by_cases a3 : 48 + cLow (s / 2) ≤ c ∧ c ≤ 48 + cHigh (s / 2)
      · have e9 : 48 ≤ c ∧ c ≤ 57 := by omega
        simp only [e9, and_self, ↓reduceIte] at ed
        refine ⟨z2 (z2 F (t + 1) (s / 2) (nI (c - 48))) t 1 (nI (s + 1)), fun a j q => by rw [z2n (by omega), z2n (by omega)], Or.inr ⟨s + 1, by unfold sCu; rw [if_pos a1, if_neg a2, if_pos a3], ?_, rfl, by omega, z2_eq _ _ _ _, fun j hj => ?_⟩⟩
        · simp (disch := omega) only [F_X1_takes, F_X1_takes_J115, F_X1_takes_J131, F_X1_takes_J132, F_X1_takes_J146, zv, e_gi, e_gr, e_gl, e_si, e_sb, e_ai, e_ar, e_ti, e_ty, e_tz, e_cv, zc_some, zmo_some, zin_T, ↓reduceIte, zit_succ, zzr0, zzr1, true_and, and_true, and_self, or_false, false_or, or_true, true_or, not_true_eq_false, not_false_eq_true, zl0, zl1, zl2, zl3, zl4, zl5, zl6, zl7, zl8, zl9, zl10, zl11, zl12, zl20, zl24, zl31, zl36, zl40, zl42, zl44, zl48, zl49, zl50, zl55, zl57, zl60, zl97, zl99, zl100, zl102, zl104, zl109, zl113, zl114, zl119, zl126, zl255, zl400, zl1000, zl101, zl103, zl1001, zl1002, zl16, zl18, zl32, zl35, zl443, n_leT, n_leF, n_ltT, n_ltF, n_eqT, n_eqF, n_swT, n_swF, nI_add, n_sub, pk_mul, zd_n, z2_eq, z2n, c1, c2, c3, h1, n_div, zm_nn, zst_n, m2, m3, ed]
        · rw [z2n (by omega)]
          by_cases hj2 : j = s / 2
          · rw [hj2, z2_eq]
            unfold cTold
            rw [if_pos (by omega), if_pos (by omega), show 2 * (s / 2) + 1 = s by omega, hcc]
          · rw [z2n (by omega), h2 j hj]
            unfold cTold
            congr 1
            repeat (first | omega | split)
      · by_cases e9 : 48 ≤ c ∧ c ≤ 57
        · simp only [e9, and_self, ↓reduceIte] at ed
          refine ⟨z2 (z2 F (t + 1) (s / 2) (nI 0)) t 1 (nI s), fun a j q => by rw [z2n (by omega), z2n (by omega)], Or.inl ⟨by unfold sCu; rw [if_pos a1, if_neg a2, if_neg a3], ?_⟩⟩
          by_cases a4 : c - 48 < cLow (s / 2)
          · simp (disch := omega) only [F_X1_takes, F_X1_takes_J114, F_X1_takes_J115, F_X1_takes_J131, F_X1_takes_J132, F_X1_takes_J146, zv, e_gi, e_gr, e_gl, e_si, e_sb, e_ai, e_ar, e_ti, e_ty, e_tz, e_cv, zc_some, zmo_some, zin_T, ↓reduceIte, zit_succ, zzr0, zzr1, true_and, and_true, and_self, or_false, false_or, or_true, true_or, not_true_eq_false, not_false_eq_true, zl0, zl1, zl2, zl3, zl4, zl5, zl6, zl7, zl8, zl9, zl10, zl11, zl12, zl20, zl24, zl31, zl36, zl40, zl42, zl44, zl48, zl49, zl50, zl55, zl57, zl60, zl97, zl99, zl100, zl102, zl104, zl109, zl113, zl114, zl119, zl126, zl255, zl400, zl1000, zl101, zl103, zl1001, zl1002, zl16, zl18, zl32, zl35, zl443, n_leT, n_leF, n_ltT, n_ltF, n_eqT, n_eqF, n_swT, n_swF, nI_add, n_sub, pk_mul, zd_n, z2_eq, z2n, c1, c2, c3, h1, n_div, zm_nn, zst_n, m2, m3, ed, Nat.add_zero]
          · simp (disch := omega) only [F_X1_takes, F_X1_takes_J114, F_X1_takes_J115, F_X1_takes_J131, F_X1_takes_J132, F_X1_takes_J146, zv, e_gi, e_gr, e_gl, e_si, e_sb, e_ai, e_ar, e_ti, e_ty, e_tz, e_cv, zc_some, zmo_some, zin_T, ↓reduceIte, zit_succ, zzr0, zzr1, true_and, and_true, and_self, or_false, false_or, or_true, true_or, not_true_eq_false, not_false_eq_true, zl0, zl1, zl2, zl3, zl4, zl5, zl6, zl7, zl8, zl9, zl10, zl11, zl12, zl20, zl24, zl31, zl36, zl40, zl42, zl44, zl48, zl49, zl50, zl55, zl57, zl60, zl97, zl99, zl100, zl102, zl104, zl109, zl113, zl114, zl119, zl126, zl255, zl400, zl1000, zl101, zl103, zl1001, zl1002, zl16, zl18, zl32, zl35, zl443, n_leT, n_leF, n_ltT, n_ltF, n_eqT, n_eqF, n_swT, n_swF, nI_add, n_sub, pk_mul, zd_n, z2_eq, z2n, c1, c2, c3, h1, n_div, zm_nn, zst_n, m2, m3, ed, Nat.add_zero]
        · simp only [e9, ↓reduceIte] at ed
          refine ⟨z2 (z2 F (t + 1) (s / 2) (nI 0)) t 1 (nI s), fun a j q => by rw [z2n (by omega), z2n (by omega)], Or.inl ⟨by unfold sCu; rw [if_pos a1, if_neg a2, if_neg a3], ?_⟩⟩
          simp (disch := omega) only [F_X1_takes, F_X1_takes_J114, F_X1_takes_J115, F_X1_takes_J131, F_X1_takes_J132, F_X1_takes_J146, zv, e_gi, e_gr, e_gl, e_si, e_sb, e_ai, e_ar, e_ti, e_ty, e_tz, e_cv, zc_some, zmo_some, zin_T, ↓reduceIte, zit_succ, zzr0, zzr1, true_and, and_true, and_self, or_false, false_or, or_true, true_or, not_true_eq_false, not_false_eq_true, zl0, zl1, zl2, zl3, zl4, zl5, zl6, zl7, zl8, zl9, zl10, zl11, zl12, zl20, zl24, zl31, zl36, zl40, zl42, zl44, zl48, zl49, zl50, zl55, zl57, zl60, zl97, zl99, zl100, zl102, zl104, zl109, zl113, zl114, zl119, zl126, zl255, zl400, zl1000, zl101, zl103, zl1001, zl1002, zl16, zl18, zl32, zl35, zl443, n_leT, n_leF, n_ltT, n_ltF, n_eqT, n_eqF, n_swT, n_swF, nI_add, n_sub, pk_mul, zd_n, z2_eq, z2n, c1, c2, c3, h1, n_div, zm_nn, zst_n, m2, m3, ed, n_ltm1, Nat.add_zero]
  · by_cases a2 : s = 10 ∧ c = 113
    · obtain ⟨a2, a3⟩ := a2
      subst a3
      rw [a2] at h1 h2 hcc ⊢
      refine ⟨z2 (z2 F (t + 1) 5 (nI 1)) t 1 (nI (10 + 1)), fun a j q => by rw [z2n (by omega), z2n (by omega)], Or.inr ⟨10 + 1, rfl, ?_, rfl, by omega, z2_eq _ _ _ _, fun j hj => ?_⟩⟩
      · simp (disch := omega) only [F_X1_takes, F_X1_takes_J32, F_X1_takes_J52, F_X1_takes_J132, F_X1_takes_J146, zv, e_gi, e_gr, e_gl, e_si, e_sb, e_ai, e_ar, e_ti, e_ty, e_tz, e_cv, zc_some, zmo_some, zin_T, ↓reduceIte, zit_succ, zzr0, zzr1, true_and, and_true, and_self, or_false, false_or, or_true, true_or, not_true_eq_false, not_false_eq_true, zl0, zl1, zl2, zl3, zl4, zl5, zl6, zl7, zl8, zl9, zl10, zl11, zl12, zl20, zl24, zl31, zl36, zl40, zl42, zl44, zl48, zl49, zl50, zl55, zl57, zl60, zl97, zl99, zl100, zl102, zl104, zl109, zl113, zl114, zl119, zl126, zl255, zl400, zl1000, zl101, zl103, zl1001, zl1002, zl16, zl18, zl32, zl35, zl443, n_leT, n_leF, n_ltT, n_ltF, n_eqT, n_eqF, n_swT, n_swF, nI_add, n_sub, pk_mul, zd_n, z2_eq, z2n, c1, c2, c3, h1, n_div, zm_nn, zst_n]
      · rw [z2n (by omega)]
        by_cases hj2 : j = 5
        · rw [hj2, z2_eq]
          rfl
        · rw [z2n (by omega), h2 j hj]
          unfold cTold
          congr 1
          repeat (first | omega | split)
    · refine ⟨z2 (z2 F (t + 1) 5 (F (t + 1) 5)) t 1 (nI s), fun a j q => by rw [z2n (by omega), z2n (by omega)], Or.inl ⟨by unfold sCu; rw [if_neg a1, if_neg a2], ?_⟩⟩
      by_cases a3 : s = 10
      · have a4 : c ≠ 113 := fun z => a2 ⟨a3, z⟩
        subst a3
        simp (disch := omega) only [F_X1_takes, F_X1_takes_J31, F_X1_takes_J32, F_X1_takes_J52, F_X1_takes_J132, F_X1_takes_J146, zv, e_gi, e_gr, e_gl, e_si, e_sb, e_ai, e_ar, e_ti, e_ty, e_tz, e_cv, zc_some, zmo_some, zin_T, ↓reduceIte, zit_succ, zzr0, zzr1, true_and, and_true, and_self, or_false, false_or, or_true, true_or, not_true_eq_false, not_false_eq_true, zl0, zl1, zl2, zl3, zl4, zl5, zl6, zl7, zl8, zl9, zl10, zl11, zl12, zl20, zl24, zl31, zl36, zl40, zl42, zl44, zl48, zl49, zl50, zl55, zl57, zl60, zl97, zl99, zl100, zl102, zl104, zl109, zl113, zl114, zl119, zl126, zl255, zl400, zl1000, zl101, zl103, zl1001, zl1002, zl16, zl18, zl32, zl35, zl443, n_leT, n_leF, n_ltT, n_ltF, n_eqT, n_eqF, n_swT, n_swF, nI_add, n_sub, pk_mul, zd_n, z2_eq, z2n, c1, c2, c3, h1, n_div, zm_nn, zst_n, Nat.add_zero]
      · simp (disch := omega) only [F_X1_takes, F_X1_takes_J31, F_X1_takes_J32, F_X1_takes_J52, F_X1_takes_J132, F_X1_takes_J146, zv, e_gi, e_gr, e_gl, e_si, e_sb, e_ai, e_ar, e_ti, e_ty, e_tz, e_cv, zc_some, zmo_some, zin_T, ↓reduceIte, zit_succ, zzr0, zzr1, true_and, and_true, and_self, or_false, false_or, or_true, true_or, not_true_eq_false, not_false_eq_true, zl0, zl1, zl2, zl3, zl4, zl5, zl6, zl7, zl8, zl9, zl10, zl11, zl12, zl20, zl24, zl31, zl36, zl40, zl42, zl44, zl48, zl49, zl50, zl55, zl57, zl60, zl97, zl99, zl100, zl102, zl104, zl109, zl113, zl114, zl119, zl126, zl255, zl400, zl1000, zl101, zl103, zl1001, zl1002, zl16, zl18, zl32, zl35, zl443, n_leT, n_leF, n_ltT, n_ltF, n_eqT, n_eqF, n_swT, n_swF, nI_add, n_sub, pk_mul, zd_n, z2_eq, z2n, c1, c2, c3, h1, n_div, zm_nn, zst_n, Nat.add_zero]
/-- the class reads a cup -/
theorem eC_firstCup (n : Nat) {S : zH} {f : Nat → Nat → Int32} {cd : Nat → Nat} {pl t k s : Nat} (hn : 513 < n) (hT : zCu S t) (ht2 : 2 < t) (h1 : zsh S 1 = some (5, 2)) (h2 : zsh S 2 = some (20, 50)) (r1 : zr S 1 0 = some 2) (hpl : pl ≤ 50) (hp : f 1 1 = nI pl) (hcd : ∀ i, i < pl → f 2 i = nI (cd i) ∧ cd i ≤ 126) (hk : k ≤ pl) (ht : tst sCu 0 cd k = some s) (hs : k = pl ∨ (k < pl ∧ sCu s (cd k) = none)) :
    ∃ F, F_X5_firstWrong n (zwi S f) 1 t = some (nI k, zwi S F) ∧ (k = pl → iCu cd t k s F) ∧ ∀ a j, (a < t ∨ t + 1 < a) → F a j = f a j := by
  obtain ⟨c1, c2, c3⟩ := hT
  have hb : ∃ F0, F_X1_begin n (zwi S f) t = some ((), zwi S F0) ∧ iCu cd t 0 0 F0 ∧ ∀ a j, (a < t ∨ t + 1 < a) → F0 a j = f a j := by
    unfold F_X1_begin
    simp (disch := omega) only [zv, e_gi, e_gr, e_gl, e_si, e_sb, e_ai, e_ar, e_ti, e_ty, e_tz, e_cv, zc_some, zmo_some, zin_T, ↓reduceIte, zit_succ, zzr0, zzr1, true_and, and_true, and_self, or_false, false_or, or_true, true_or, not_true_eq_false, not_false_eq_true, zl0, zl1, zl2, zl3, zl4, zl5, zl6, zl7, zl8, zl9, zl10, zl11, zl12, zl20, zl24, zl31, zl36, zl40, zl42, zl44, zl48, zl49, zl50, zl55, zl57, zl60, zl97, zl99, zl100, zl102, zl104, zl109, zl113, zl114, zl119, zl126, zl255, zl400, zl1000, zl101, zl103, zl1001, zl1002, zl16, zl18, zl32, zl35, zl443, n_leT, n_leF, n_ltT, n_ltF, n_eqT, n_eqF, n_swT, n_swF, nI_add, n_sub, pk_mul, zd_n, c1]
    unfold F_X1_begin_L7
    have key9 := zforE (body := fun kc x => F_X1_begin_B7 n kc x.1 t x.2) (fun i x => ∃ F, x = (zwi S F, nI i) ∧ F t 1 = nI 0 ∧ (∀ j, j < i → F (t + 1) j = nI 0) ∧ ∀ a j, (a < t ∨ t + 1 < a) → F a j = f a j) 6 (Q := fun r => ∃ F, r = some ((), zwi S F) ∧ F t 1 = nI 0 ∧ (∀ j, j < 6 → F (t + 1) j = nI 0) ∧ ∀ a j, (a < t ∨ t + 1 < a) → F a j = f a j) (fun i x hi hx => ?_) (fun x hx => ?_) (n := n) (by omega) (x := (zwi S (z2 f t 1 (nI 0)), nI 0)) ⟨_, rfl, z2_eq _ _ _ _, fun j hj => by omega, fun a j q => z2n (by omega)⟩
    · obtain ⟨r, ⟨F, e1, e3⟩, e2⟩ := key9
      exact ⟨F, by rw [e2, e1], ⟨rfl, by omega, e3.1, fun j hj => (e3.2.1 j hj).trans (by unfold cTold; congr 1; repeat (first | omega | split))⟩, e3.2.2⟩
    · obtain ⟨F, rfl, g1, g2, g3⟩ := hx
      refine ⟨_, ⟨z2 F (t + 1) i (nI 0), rfl, by rw [z2n (by omega)]; exact g1, fun j hj => ?_, fun a j q => by rw [z2n (by omega)]; exact g3 a j q⟩, fun kc => by simp (disch := omega) only [F_X1_begin_B7, zv, e_gi, e_gr, e_gl, e_si, e_sb, e_ai, e_ar, e_ti, e_ty, e_tz, e_cv, zc_some, zmo_some, zin_T, ↓reduceIte, zit_succ, zzr0, zzr1, true_and, and_true, and_self, or_false, false_or, or_true, true_or, not_true_eq_false, not_false_eq_true, zl0, zl1, zl2, zl3, zl4, zl5, zl6, zl7, zl8, zl9, zl10, zl11, zl12, zl20, zl24, zl31, zl36, zl40, zl42, zl44, zl48, zl49, zl50, zl55, zl57, zl60, zl97, zl99, zl100, zl102, zl104, zl109, zl113, zl114, zl119, zl126, zl255, zl400, zl1000, zl101, zl103, zl1001, zl1002, zl16, zl18, zl32, zl35, zl443, n_leT, n_leF, n_ltT, n_ltF, n_eqT, n_eqF, n_swT, n_swF, nI_add, n_sub, pk_mul, zd_n, c1, c2, c3]⟩
      by_cases e : j = i
      · subst e; exact z2_eq _ _ _ _
      · rw [z2n (by omega)]; exact g2 j (by omega)
    · obtain ⟨F, rfl, g1⟩ := hx
      exact ⟨_, ⟨F, rfl, g1⟩, fun kc => by simp (disch := omega) only [F_X1_begin_B7, zv, e_gi, e_gr, e_gl, e_si, e_sb, e_ai, e_ar, e_ti, e_ty, e_tz, e_cv, zc_some, zmo_some, zin_T, ↓reduceIte, zit_succ, zzr0, zzr1, true_and, and_true, and_self, or_false, false_or, or_true, true_or, not_true_eq_false, not_false_eq_true, zl0, zl1, zl2, zl3, zl4, zl5, zl6, zl7, zl8, zl9, zl10, zl11, zl12, zl20, zl24, zl31, zl36, zl40, zl42, zl44, zl48, zl49, zl50, zl55, zl57, zl60, zl97, zl99, zl100, zl102, zl104, zl109, zl113, zl114, zl119, zl126, zl255, zl400, zl1000, zl101, zl103, zl1001, zl1002, zl16, zl18, zl32, zl35, zl443, n_leT, n_leF, n_ltT, n_ltF, n_eqT, n_eqF, n_swT, n_swF, nI_add, n_sub, pk_mul, zd_n]⟩
  obtain ⟨F0, b1, b2, b3⟩ := hb
  obtain ⟨F, e1, e2, e3⟩ := eC_run n (S := S) (f := f) (F0 := F0) (cd := cd) (pl := pl) (t := t) (w := 1) (k := k) (s0 := 0) (s := s) sCu (iCu cd t) (fun h c => F_X1_takes n h t c) hn hpl ht2 h1 hp (fun i hi => (hcd i hi).1) (fun kc F i hi q1 q2 => by unfold F_X5_firstWrong_B6; simp (disch := omega) only [zwi_sh, zv, e_gi, e_gr, e_gl, e_si, e_sb, e_ai, e_ar, e_ti, e_ty, e_tz, e_cv, zc_some, zmo_some, zin_T, ↓reduceIte, zit_succ, zzr0, zzr1, true_and, and_true, and_self, or_false, false_or, or_true, true_or, not_true_eq_false, not_false_eq_true, zl0, zl1, zl2, zl3, zl4, zl5, zl6, zl7, zl8, zl9, zl10, zl11, zl12, zl20, zl24, zl31, zl36, zl40, zl42, zl44, zl48, zl49, zl50, zl55, zl57, zl60, zl97, zl99, zl100, zl102, zl104, zl109, zl113, zl114, zl119, zl126, zl255, zl400, zl1000, zl101, zl103, zl1001, zl1002, zl16, zl18, zl32, zl35, zl443, n_leT, n_leF, n_ltT, n_ltF, n_eqT, n_eqF, n_swT, n_swF, nI_add, n_sub, pk_mul, zd_n, h1, h2, r1, c1, q1, q2]) (fun i s F hi hI => eC_takesCup n ⟨c1, c2, c3⟩ (hcd i hi).2 hI) b2 b3 hk ht hs
  refine ⟨F, ?_, e2, e3⟩
  unfold F_X5_firstWrong
  simp (disch := omega) only [zwi_sh, F_X5_firstWrong_J4, zv, e_gi, e_gr, e_gl, e_si, e_sb, e_ai, e_ar, e_ti, e_ty, e_tz, e_cv, zc_some, zmo_some, zin_T, ↓reduceIte, zit_succ, zzr0, zzr1, true_and, and_true, and_self, or_false, false_or, or_true, true_or, not_true_eq_false, not_false_eq_true, zl0, zl1, zl2, zl3, zl4, zl5, zl6, zl7, zl8, zl9, zl10, zl11, zl12, zl20, zl24, zl31, zl36, zl40, zl42, zl44, zl48, zl49, zl50, zl55, zl57, zl60, zl97, zl99, zl100, zl102, zl104, zl109, zl113, zl114, zl119, zl126, zl255, zl400, zl1000, zl101, zl103, zl1001, zl1002, zl16, zl18, zl32, zl35, zl443, n_leT, n_leF, n_ltT, n_ltF, n_eqT, n_eqF, n_swT, n_swF, nI_add, n_sub, pk_mul, zd_n, c1, b1, e1]
theorem eC_readsCup (n : Nat) {S : zH} {f : Nat → Nat → Int32} {cd : Nat → Nat} {pl t k s : Nat} (hn : 513 < n) (hT : zCu S t) (ht2 : 2 < t) (h1 : zsh S 1 = some (5, 2)) (h2 : zsh S 2 = some (20, 50)) (r1 : zr S 1 0 = some 2) (hpl : pl ≤ 50) (hp : f 1 1 = nI pl) (hcd : ∀ i, i < pl → f 2 i = nI (cd i) ∧ cd i ≤ 126) (hk : k ≤ pl) (ht : tst sCu 0 cd k = some s) (hs : k = pl ∨ (k < pl ∧ sCu s (cd k) = none)) :
    ∃ F, F_X5_reads n (zwi S f) 1 t = some (if k = pl ∧ 10 ≤ k then nI 1 else nI 0, zwi S F) ∧ (k = pl → iCu cd t k s F) ∧ ∀ a j, (a < t ∨ t + 1 < a) → F a j = f a j := by
  obtain ⟨F, e1, e2, e3⟩ := eC_firstCup n hn hT ht2 h1 h2 r1 hpl hp hcd hk ht hs
  refine ⟨F, ?_, e2, e3⟩
  have c1 := hT.1
  have q : F 1 1 = nI pl := (e3 1 1 (by omega)).trans hp
  have hk11 := (sCu_inv ht).2
  by_cases hkp : k = pl
  · subst hkp
    have q2 := (e2 rfl).2.2.1
    by_cases h10 : 10 ≤ k
    · rw [if_pos ⟨rfl, h10⟩]
      simp (disch := omega) only [zwi_sh, F_X5_reads, F_X5_reads_J16, F_X5_reads_J24, F_X1_isWhole, F_X1_isWhole_J14, zv, e_gi, e_gr, e_gl, e_si, e_sb, e_ai, e_ar, e_ti, e_ty, e_tz, e_cv, zc_some, zmo_some, zin_T, ↓reduceIte, zit_succ, zzr0, zzr1, true_and, and_true, and_self, or_false, false_or, or_true, true_or, not_true_eq_false, not_false_eq_true, zl0, zl1, zl2, zl3, zl4, zl5, zl6, zl7, zl8, zl9, zl10, zl11, zl12, zl20, zl24, zl31, zl36, zl40, zl42, zl44, zl48, zl49, zl50, zl55, zl57, zl60, zl97, zl99, zl100, zl102, zl104, zl109, zl113, zl114, zl119, zl126, zl255, zl400, zl1000, zl101, zl103, zl1001, zl1002, zl16, zl18, zl32, zl35, zl443, n_leT, n_leF, n_ltT, n_ltF, n_eqT, n_eqF, n_swT, n_swF, nI_add, n_sub, pk_mul, zd_n, h1, c1, e1, q, q2]
    · rw [if_neg (fun z => h10 z.2)]
      simp (disch := omega) only [zwi_sh, F_X5_reads, F_X5_reads_J16, F_X5_reads_J23, F_X5_reads_J24, F_X1_isWhole, F_X1_isWhole_J14, zv, e_gi, e_gr, e_gl, e_si, e_sb, e_ai, e_ar, e_ti, e_ty, e_tz, e_cv, zc_some, zmo_some, zin_T, ↓reduceIte, zit_succ, zzr0, zzr1, true_and, and_true, and_self, or_false, false_or, or_true, true_or, not_true_eq_false, not_false_eq_true, zl0, zl1, zl2, zl3, zl4, zl5, zl6, zl7, zl8, zl9, zl10, zl11, zl12, zl20, zl24, zl31, zl36, zl40, zl42, zl44, zl48, zl49, zl50, zl55, zl57, zl60, zl97, zl99, zl100, zl102, zl104, zl109, zl113, zl114, zl119, zl126, zl255, zl400, zl1000, zl101, zl103, zl1001, zl1002, zl16, zl18, zl32, zl35, zl443, n_leT, n_leF, n_ltT, n_ltF, n_eqT, n_eqF, n_swT, n_swF, nI_add, n_sub, pk_mul, zd_n, h1, c1, e1, q, q2]
  · rw [if_neg (fun z => hkp z.1)]
    simp (disch := omega) only [zwi_sh, F_X5_reads, F_X5_reads_J23, F_X5_reads_J24, zv, e_gi, e_gr, e_gl, e_si, e_sb, e_ai, e_ar, e_ti, e_ty, e_tz, e_cv, zc_some, zmo_some, zin_T, ↓reduceIte, zit_succ, zzr0, zzr1, true_and, and_true, and_self, or_false, false_or, or_true, true_or, not_true_eq_false, not_false_eq_true, zl0, zl1, zl2, zl3, zl4, zl5, zl6, zl7, zl8, zl9, zl10, zl11, zl12, zl20, zl24, zl31, zl36, zl40, zl42, zl44, zl48, zl49, zl50, zl55, zl57, zl60, zl97, zl99, zl100, zl102, zl104, zl109, zl113, zl114, zl119, zl126, zl255, zl400, zl1000, zl101, zl103, zl1001, zl1002, zl16, zl18, zl32, zl35, zl443, n_leT, n_leF, n_ltT, n_ltF, n_eqT, n_eqF, n_swT, n_swF, nI_add, n_sub, pk_mul, zd_n, h1, c1, e1, q]
/-- the reference reads a cup -/
def jCu (cd : Nat → Nat) (i s : Nat) (F : Nat → Nat → Int32) : Prop := s = i ∧ i ≤ 11 ∧ ∀ j, j < 5 → 2 * j + 1 < i → F 110 j = nI (cd (2 * j + 1) - 48)
theorem eM_nextCup (n : Nat) {S : zH} {F : Nat → Nat → Int32} {cd : Nat → Nat} {i s : Nat} (hM : zMo S) (hc : cd i ≤ 126) (h : jCu cd i s F) :
    ∃ F', (∀ a j, ¬ mScr a j → F' a j = F a j) ∧ ((sCu s (cd i) = none ∧ F_X11_nextCup n (zwi S F) 85 (nI s) (nI (cd i)) = some (-nI 1, zwi S F')) ∨ ∃ s', sCu s (cd i) = some s' ∧ F_X11_nextCup n (zwi S F) 85 (nI s) (nI (cd i)) = some (nI s', zwi S F') ∧ jCu cd (i + 1) s' F') := by
  obtain ⟨rfl, hi, h2⟩ := h
  have s67 := mo_s85 hM
  have r38 := mo_r38 hM
  have s92 := mo_s110 hM
  have m92 : ∀ a j, ¬ mScr a j → a ≠ 110 := fun a j q z => q (by unfold mScr; omega)
  obtain ⟨c, hcc⟩ : ∃ c, c = cd s := ⟨_, rfl⟩
  rw [← hcc] at hc ⊢
  by_cases a1 : s < 10
  · by_cases a2 : s % 2 = 0
    · have b1 := cMark_b (s / 2)
      have key : F_X11_nextCup n (zwi S F) 85 (nI s) (nI c) = F_X11_nextCup_J80 n (zwi S F) (nI s) (nI c) (nI (cMark (s / 2))) := by
        have h5 : s = 0 ∨ s = 2 ∨ s = 4 ∨ s = 6 ∨ s = 8 := by omega
        rcases h5 with e | e | e | e | e
        · rw [e]; simp (disch := omega) only [F_X11_nextCup, zv, e_gi, e_gr, e_gl, e_si, e_sb, e_ai, e_ar, e_ti, e_ty, e_tz, e_cv, zc_some, zmo_some, zin_T, ↓reduceIte, zit_succ, zzr0, zzr1, true_and, and_true, and_self, or_false, false_or, or_true, true_or, not_true_eq_false, not_false_eq_true, zl0, zl1, zl2, zl3, zl4, zl5, zl6, zl7, zl8, zl9, zl10, zl11, zl12, zl20, zl24, zl31, zl36, zl40, zl42, zl44, zl48, zl49, zl50, zl55, zl57, zl60, zl97, zl99, zl100, zl102, zl104, zl109, zl113, zl114, zl119, zl126, zl255, zl400, zl1000, zl101, zl103, zl1001, zl1002, zl16, zl18, zl32, zl35, zl443, n_leT, n_leF, n_ltT, n_ltF, n_eqT, n_eqF, n_swT, n_swF, nI_add, n_sub, pk_mul, zd_n, zm_nn]; rfl
        · rw [e]; simp (disch := omega) only [F_X11_nextCup, zv, e_gi, e_gr, e_gl, e_si, e_sb, e_ai, e_ar, e_ti, e_ty, e_tz, e_cv, zc_some, zmo_some, zin_T, ↓reduceIte, zit_succ, zzr0, zzr1, true_and, and_true, and_self, or_false, false_or, or_true, true_or, not_true_eq_false, not_false_eq_true, zl0, zl1, zl2, zl3, zl4, zl5, zl6, zl7, zl8, zl9, zl10, zl11, zl12, zl20, zl24, zl31, zl36, zl40, zl42, zl44, zl48, zl49, zl50, zl55, zl57, zl60, zl97, zl99, zl100, zl102, zl104, zl109, zl113, zl114, zl119, zl126, zl255, zl400, zl1000, zl101, zl103, zl1001, zl1002, zl16, zl18, zl32, zl35, zl443, n_leT, n_leF, n_ltT, n_ltF, n_eqT, n_eqF, n_swT, n_swF, nI_add, n_sub, pk_mul, zd_n, zm_nn]; rfl
        · rw [e]; simp (disch := omega) only [F_X11_nextCup, zv, e_gi, e_gr, e_gl, e_si, e_sb, e_ai, e_ar, e_ti, e_ty, e_tz, e_cv, zc_some, zmo_some, zin_T, ↓reduceIte, zit_succ, zzr0, zzr1, true_and, and_true, and_self, or_false, false_or, or_true, true_or, not_true_eq_false, not_false_eq_true, zl0, zl1, zl2, zl3, zl4, zl5, zl6, zl7, zl8, zl9, zl10, zl11, zl12, zl20, zl24, zl31, zl36, zl40, zl42, zl44, zl48, zl49, zl50, zl55, zl57, zl60, zl97, zl99, zl100, zl102, zl104, zl109, zl113, zl114, zl119, zl126, zl255, zl400, zl1000, zl101, zl103, zl1001, zl1002, zl16, zl18, zl32, zl35, zl443, n_leT, n_leF, n_ltT, n_ltF, n_eqT, n_eqF, n_swT, n_swF, nI_add, n_sub, pk_mul, zd_n, zm_nn]; rfl
        · rw [e]; simp (disch := omega) only [F_X11_nextCup, zv, e_gi, e_gr, e_gl, e_si, e_sb, e_ai, e_ar, e_ti, e_ty, e_tz, e_cv, zc_some, zmo_some, zin_T, ↓reduceIte, zit_succ, zzr0, zzr1, true_and, and_true, and_self, or_false, false_or, or_true, true_or, not_true_eq_false, not_false_eq_true, zl0, zl1, zl2, zl3, zl4, zl5, zl6, zl7, zl8, zl9, zl10, zl11, zl12, zl20, zl24, zl31, zl36, zl40, zl42, zl44, zl48, zl49, zl50, zl55, zl57, zl60, zl97, zl99, zl100, zl102, zl104, zl109, zl113, zl114, zl119, zl126, zl255, zl400, zl1000, zl101, zl103, zl1001, zl1002, zl16, zl18, zl32, zl35, zl443, n_leT, n_leF, n_ltT, n_ltF, n_eqT, n_eqF, n_swT, n_swF, nI_add, n_sub, pk_mul, zd_n, zm_nn]; rfl
        · rw [e]; simp (disch := omega) only [F_X11_nextCup, zv, e_gi, e_gr, e_gl, e_si, e_sb, e_ai, e_ar, e_ti, e_ty, e_tz, e_cv, zc_some, zmo_some, zin_T, ↓reduceIte, zit_succ, zzr0, zzr1, true_and, and_true, and_self, or_false, false_or, or_true, true_or, not_true_eq_false, not_false_eq_true, zl0, zl1, zl2, zl3, zl4, zl5, zl6, zl7, zl8, zl9, zl10, zl11, zl12, zl20, zl24, zl31, zl36, zl40, zl42, zl44, zl48, zl49, zl50, zl55, zl57, zl60, zl97, zl99, zl100, zl102, zl104, zl109, zl113, zl114, zl119, zl126, zl255, zl400, zl1000, zl101, zl103, zl1001, zl1002, zl16, zl18, zl32, zl35, zl443, n_leT, n_leF, n_ltT, n_ltF, n_eqT, n_eqF, n_swT, n_swF, nI_add, n_sub, pk_mul, zd_n, zm_nn]; rfl
      rw [key]
      by_cases a3 : c = cMark (s / 2)
      · refine ⟨F, fun _ _ _ => rfl, Or.inr ⟨s + 1, by unfold sCu; rw [if_pos a1, if_pos a2, if_pos a3], ?_, rfl, by omega, fun j hj hj2 => h2 j hj (by omega)⟩⟩
        simp (disch := omega) only [F_X11_nextCup_J80, F_X11_nextCup_J93, zv, e_gi, e_gr, e_gl, e_si, e_sb, e_ai, e_ar, e_ti, e_ty, e_tz, e_cv, zc_some, zmo_some, zin_T, ↓reduceIte, zit_succ, zzr0, zzr1, true_and, and_true, and_self, or_false, false_or, or_true, true_or, not_true_eq_false, not_false_eq_true, zl0, zl1, zl2, zl3, zl4, zl5, zl6, zl7, zl8, zl9, zl10, zl11, zl12, zl20, zl24, zl31, zl36, zl40, zl42, zl44, zl48, zl49, zl50, zl55, zl57, zl60, zl97, zl99, zl100, zl102, zl104, zl109, zl113, zl114, zl119, zl126, zl255, zl400, zl1000, zl101, zl103, zl1001, zl1002, zl16, zl18, zl32, zl35, zl443, n_leT, n_leF, n_ltT, n_ltF, n_eqT, n_eqF, n_swT, n_swF, nI_add, n_sub, pk_mul, zd_n, a3]
      · refine ⟨F, fun _ _ _ => rfl, Or.inl ⟨by unfold sCu; rw [if_pos a1, if_pos a2, if_neg a3], ?_⟩⟩
        simp (disch := omega) only [F_X11_nextCup_J80, F_X11_nextCup_J93, zv, e_gi, e_gr, e_gl, e_si, e_sb, e_ai, e_ar, e_ti, e_ty, e_tz, e_cv, zc_some, zmo_some, zin_T, ↓reduceIte, zit_succ, zzr0, zzr1, true_and, and_true, and_self, or_false, false_or, or_true, true_or, not_true_eq_false, not_false_eq_true, zl0, zl1, zl2, zl3, zl4, zl5, zl6, zl7, zl8, zl9, zl10, zl11, zl12, zl20, zl24, zl31, zl36, zl40, zl42, zl44, zl48, zl49, zl50, zl55, zl57, zl60, zl97, zl99, zl100, zl102, zl104, zl109, zl113, zl114, zl119, zl126, zl255, zl400, zl1000, zl101, zl103, zl1001, zl1002, zl16, zl18, zl32, zl35, zl443, n_leT, n_leF, n_ltT, n_ltF, n_eqT, n_eqF, n_swT, n_swF, nI_add, n_sub, pk_mul, zd_n]
    · have b2 := cLow_b (s / 2)
      have b3 := cHigh_b (s / 2)
      have key : F_X11_nextCup n (zwi S F) 85 (nI s) (nI c) = F_X11_nextCup_J126 n (zwi S F) 85 (nI s) (nI c) (nI (cLow (s / 2))) (nI (cHigh (s / 2))) := by
        have h5 : s = 1 ∨ s = 3 ∨ s = 5 ∨ s = 7 ∨ s = 9 := by omega
        rcases h5 with e | e | e | e | e
        · rw [e]; simp (disch := omega) only [F_X11_nextCup, F_X11_nextCup_J104, zv, e_gi, e_gr, e_gl, e_si, e_sb, e_ai, e_ar, e_ti, e_ty, e_tz, e_cv, zc_some, zmo_some, zin_T, ↓reduceIte, zit_succ, zzr0, zzr1, true_and, and_true, and_self, or_false, false_or, or_true, true_or, not_true_eq_false, not_false_eq_true, zl0, zl1, zl2, zl3, zl4, zl5, zl6, zl7, zl8, zl9, zl10, zl11, zl12, zl20, zl24, zl31, zl36, zl40, zl42, zl44, zl48, zl49, zl50, zl55, zl57, zl60, zl97, zl99, zl100, zl102, zl104, zl109, zl113, zl114, zl119, zl126, zl255, zl400, zl1000, zl101, zl103, zl1001, zl1002, zl16, zl18, zl32, zl35, zl443, n_leT, n_leF, n_ltT, n_ltF, n_eqT, n_eqF, n_swT, n_swF, nI_add, n_sub, pk_mul, zd_n, zm_nn]; rfl
        · rw [e]; simp (disch := omega) only [F_X11_nextCup, F_X11_nextCup_J104, zv, e_gi, e_gr, e_gl, e_si, e_sb, e_ai, e_ar, e_ti, e_ty, e_tz, e_cv, zc_some, zmo_some, zin_T, ↓reduceIte, zit_succ, zzr0, zzr1, true_and, and_true, and_self, or_false, false_or, or_true, true_or, not_true_eq_false, not_false_eq_true, zl0, zl1, zl2, zl3, zl4, zl5, zl6, zl7, zl8, zl9, zl10, zl11, zl12, zl20, zl24, zl31, zl36, zl40, zl42, zl44, zl48, zl49, zl50, zl55, zl57, zl60, zl97, zl99, zl100, zl102, zl104, zl109, zl113, zl114, zl119, zl126, zl255, zl400, zl1000, zl101, zl103, zl1001, zl1002, zl16, zl18, zl32, zl35, zl443, n_leT, n_leF, n_ltT, n_ltF, n_eqT, n_eqF, n_swT, n_swF, nI_add, n_sub, pk_mul, zd_n, zm_nn]; rfl
        · rw [e]; simp (disch := omega) only [F_X11_nextCup, F_X11_nextCup_J104, zv, e_gi, e_gr, e_gl, e_si, e_sb, e_ai, e_ar, e_ti, e_ty, e_tz, e_cv, zc_some, zmo_some, zin_T, ↓reduceIte, zit_succ, zzr0, zzr1, true_and, and_true, and_self, or_false, false_or, or_true, true_or, not_true_eq_false, not_false_eq_true, zl0, zl1, zl2, zl3, zl4, zl5, zl6, zl7, zl8, zl9, zl10, zl11, zl12, zl20, zl24, zl31, zl36, zl40, zl42, zl44, zl48, zl49, zl50, zl55, zl57, zl60, zl97, zl99, zl100, zl102, zl104, zl109, zl113, zl114, zl119, zl126, zl255, zl400, zl1000, zl101, zl103, zl1001, zl1002, zl16, zl18, zl32, zl35, zl443, n_leT, n_leF, n_ltT, n_ltF, n_eqT, n_eqF, n_swT, n_swF, nI_add, n_sub, pk_mul, zd_n, zm_nn]; rfl
        · rw [e]; simp (disch := omega) only [F_X11_nextCup, F_X11_nextCup_J104, zv, e_gi, e_gr, e_gl, e_si, e_sb, e_ai, e_ar, e_ti, e_ty, e_tz, e_cv, zc_some, zmo_some, zin_T, ↓reduceIte, zit_succ, zzr0, zzr1, true_and, and_true, and_self, or_false, false_or, or_true, true_or, not_true_eq_false, not_false_eq_true, zl0, zl1, zl2, zl3, zl4, zl5, zl6, zl7, zl8, zl9, zl10, zl11, zl12, zl20, zl24, zl31, zl36, zl40, zl42, zl44, zl48, zl49, zl50, zl55, zl57, zl60, zl97, zl99, zl100, zl102, zl104, zl109, zl113, zl114, zl119, zl126, zl255, zl400, zl1000, zl101, zl103, zl1001, zl1002, zl16, zl18, zl32, zl35, zl443, n_leT, n_leF, n_ltT, n_ltF, n_eqT, n_eqF, n_swT, n_swF, nI_add, n_sub, pk_mul, zd_n, zm_nn]; rfl
        · rw [e]; simp (disch := omega) only [F_X11_nextCup, F_X11_nextCup_J104, zv, e_gi, e_gr, e_gl, e_si, e_sb, e_ai, e_ar, e_ti, e_ty, e_tz, e_cv, zc_some, zmo_some, zin_T, ↓reduceIte, zit_succ, zzr0, zzr1, true_and, and_true, and_self, or_false, false_or, or_true, true_or, not_true_eq_false, not_false_eq_true, zl0, zl1, zl2, zl3, zl4, zl5, zl6, zl7, zl8, zl9, zl10, zl11, zl12, zl20, zl24, zl31, zl36, zl40, zl42, zl44, zl48, zl49, zl50, zl55, zl57, zl60, zl97, zl99, zl100, zl102, zl104, zl109, zl113, zl114, zl119, zl126, zl255, zl400, zl1000, zl101, zl103, zl1001, zl1002, zl16, zl18, zl32, zl35, zl443, n_leT, n_leF, n_ltT, n_ltF, n_eqT, n_eqF, n_swT, n_swF, nI_add, n_sub, pk_mul, zd_n, zm_nn]; rfl
      rw [key]
      by_cases a3 : 48 + cLow (s / 2) ≤ c ∧ c ≤ 48 + cHigh (s / 2)
      · refine ⟨z2 F 110 (s / 2) (nI (c - 48)), fun a j q => z2n (Or.inl (m92 a j q)), Or.inr ⟨s + 1, by unfold sCu; rw [if_pos a1, if_neg a2, if_pos a3], ?_, rfl, by omega, fun j hj hj2 => ?_⟩⟩
        · simp (disch := omega) only [F_X11_nextCup_J126, F_X11_nextCup_J163, zv, e_gi, e_gr, e_gl, e_si, e_sb, e_ai, e_ar, e_ti, e_ty, e_tz, e_cv, zc_some, zmo_some, zin_T, ↓reduceIte, zit_succ, zzr0, zzr1, true_and, and_true, and_self, or_false, false_or, or_true, true_or, not_true_eq_false, not_false_eq_true, zl0, zl1, zl2, zl3, zl4, zl5, zl6, zl7, zl8, zl9, zl10, zl11, zl12, zl20, zl24, zl31, zl36, zl40, zl42, zl44, zl48, zl49, zl50, zl55, zl57, zl60, zl97, zl99, zl100, zl102, zl104, zl109, zl113, zl114, zl119, zl126, zl255, zl400, zl1000, zl101, zl103, zl1001, zl1002, zl16, zl18, zl32, zl35, zl443, n_leT, n_leF, n_ltT, n_ltF, n_eqT, n_eqF, n_swT, n_swF, nI_add, n_sub, pk_mul, zd_n, s67, r38, s92, n_div, eM_in, qIn_N, a3]
        · by_cases hj3 : j = s / 2
          · rw [hj3, z2_eq, hcc, show 2 * (s / 2) + 1 = s by omega]
          · rw [z2n (by omega)]
            exact h2 j hj (by omega)
      · refine ⟨z2 F 110 (s / 2) (nI c - nI 48), fun a j q => z2n (Or.inl (m92 a j q)), Or.inl ⟨by unfold sCu; rw [if_pos a1, if_neg a2, if_neg a3], ?_⟩⟩
        by_cases a4 : 48 ≤ c
        · simp (disch := omega) only [F_X11_nextCup_J126, F_X11_nextCup_J163, zv, e_gi, e_gr, e_gl, e_si, e_sb, e_ai, e_ar, e_ti, e_ty, e_tz, e_cv, zc_some, zmo_some, zin_T, ↓reduceIte, zit_succ, zzr0, zzr1, true_and, and_true, and_self, or_false, false_or, or_true, true_or, not_true_eq_false, not_false_eq_true, zl0, zl1, zl2, zl3, zl4, zl5, zl6, zl7, zl8, zl9, zl10, zl11, zl12, zl20, zl24, zl31, zl36, zl40, zl42, zl44, zl48, zl49, zl50, zl55, zl57, zl60, zl97, zl99, zl100, zl102, zl104, zl109, zl113, zl114, zl119, zl126, zl255, zl400, zl1000, zl101, zl103, zl1001, zl1002, zl16, zl18, zl32, zl35, zl443, n_leT, n_leF, n_ltT, n_ltF, n_eqT, n_eqF, n_swT, n_swF, nI_add, n_sub, pk_mul, zd_n, s67, r38, s92, n_div, eM_in, qIn_N, a3]
        · simp (disch := omega) only [F_X11_nextCup_J126, F_X11_nextCup_J163, zv, e_gi, e_gr, e_gl, e_si, e_sb, e_ai, e_ar, e_ti, e_ty, e_tz, e_cv, zc_some, zmo_some, zin_T, ↓reduceIte, zit_succ, zzr0, zzr1, true_and, and_true, and_self, or_false, false_or, or_true, true_or, not_true_eq_false, not_false_eq_true, zl0, zl1, zl2, zl3, zl4, zl5, zl6, zl7, zl8, zl9, zl10, zl11, zl12, zl20, zl24, zl31, zl36, zl40, zl42, zl44, zl48, zl49, zl50, zl55, zl57, zl60, zl97, zl99, zl100, zl102, zl104, zl109, zl113, zl114, zl119, zl126, zl255, zl400, zl1000, zl101, zl103, zl1001, zl1002, zl16, zl18, zl32, zl35, zl443, n_leT, n_leF, n_ltT, n_ltF, n_eqT, n_eqF, n_swT, n_swF, nI_add, n_sub, pk_mul, zd_n, s67, r38, s92, n_div, eM_in, qIn_N, a3]
  · by_cases a2 : s = 10 ∧ c = 113
    · obtain ⟨a2, a3⟩ := a2
      subst a3
      rw [a2] at h2 hcc ⊢
      refine ⟨z2 F 110 5 (nI 1), fun a j q => z2n (Or.inl (m92 a j q)), Or.inr ⟨10 + 1, rfl, ?_, rfl, by omega, fun j hj hj2 => ?_⟩⟩
      · simp (disch := omega) only [F_X11_nextCup, F_X11_nextCup_J31, zv, e_gi, e_gr, e_gl, e_si, e_sb, e_ai, e_ar, e_ti, e_ty, e_tz, e_cv, zc_some, zmo_some, zin_T, ↓reduceIte, zit_succ, zzr0, zzr1, true_and, and_true, and_self, or_false, false_or, or_true, true_or, not_true_eq_false, not_false_eq_true, zl0, zl1, zl2, zl3, zl4, zl5, zl6, zl7, zl8, zl9, zl10, zl11, zl12, zl20, zl24, zl31, zl36, zl40, zl42, zl44, zl48, zl49, zl50, zl55, zl57, zl60, zl97, zl99, zl100, zl102, zl104, zl109, zl113, zl114, zl119, zl126, zl255, zl400, zl1000, zl101, zl103, zl1001, zl1002, zl16, zl18, zl32, zl35, zl443, n_leT, n_leF, n_ltT, n_ltF, n_eqT, n_eqF, n_swT, n_swF, nI_add, n_sub, pk_mul, zd_n, s67, r38, s92]
      · rw [z2n (by omega)]
        exact h2 j hj (by omega)
    · refine ⟨z2 F 110 5 (nI 1), fun a j q => z2n (Or.inl (m92 a j q)), Or.inl ⟨by unfold sCu; rw [if_neg a1, if_neg a2], ?_⟩⟩
      by_cases a3 : s = 10
      · have a4 : c ≠ 113 := fun z => a2 ⟨a3, z⟩
        subst a3
        simp (disch := omega) only [F_X11_nextCup, F_X11_nextCup_J30, F_X11_nextCup_J31, zv, e_gi, e_gr, e_gl, e_si, e_sb, e_ai, e_ar, e_ti, e_ty, e_tz, e_cv, zc_some, zmo_some, zin_T, ↓reduceIte, zit_succ, zzr0, zzr1, true_and, and_true, and_self, or_false, false_or, or_true, true_or, not_true_eq_false, not_false_eq_true, zl0, zl1, zl2, zl3, zl4, zl5, zl6, zl7, zl8, zl9, zl10, zl11, zl12, zl20, zl24, zl31, zl36, zl40, zl42, zl44, zl48, zl49, zl50, zl55, zl57, zl60, zl97, zl99, zl100, zl102, zl104, zl109, zl113, zl114, zl119, zl126, zl255, zl400, zl1000, zl101, zl103, zl1001, zl1002, zl16, zl18, zl32, zl35, zl443, n_leT, n_leF, n_ltT, n_ltF, n_eqT, n_eqF, n_swT, n_swF, nI_add, n_sub, pk_mul, zd_n, s67, r38, s92]
      · simp (disch := omega) only [F_X11_nextCup, F_X11_nextCup_J30, F_X11_nextCup_J31, zv, e_gi, e_gr, e_gl, e_si, e_sb, e_ai, e_ar, e_ti, e_ty, e_tz, e_cv, zc_some, zmo_some, zin_T, ↓reduceIte, zit_succ, zzr0, zzr1, true_and, and_true, and_self, or_false, false_or, or_true, true_or, not_true_eq_false, not_false_eq_true, zl0, zl1, zl2, zl3, zl4, zl5, zl6, zl7, zl8, zl9, zl10, zl11, zl12, zl20, zl24, zl31, zl36, zl40, zl42, zl44, zl48, zl49, zl50, zl55, zl57, zl60, zl97, zl99, zl100, zl102, zl104, zl109, zl113, zl114, zl119, zl126, zl255, zl400, zl1000, zl101, zl103, zl1001, zl1002, zl16, zl18, zl32, zl35, zl443, n_leT, n_leF, n_ltT, n_ltF, n_eqT, n_eqF, n_swT, n_swF, nI_add, n_sub, pk_mul, zd_n, s67, r38, s92]
theorem n_01 {x : Nat} (hx : x ≤ 1) : nI x = nI 0 ∨ nI x = nI 1 := by
  have : x = 0 ∨ x = 1 := by omega
  rcases this with rfl | rfl
  · exact Or.inl rfl
  · exact Or.inr rfl
/-- the end of a page: whether it is whole -/
theorem eM_end (n : Nat) {S : zH} {F : Nat → Nat → Int32} {v q k pl mp : Nat} (hM : zMo S) (hv : v ≤ 2) (hq : q ≤ 11) (hk : k ≤ pl) (hpl : pl ≤ 50) (hp : F 85 27 = nI pl) (hm : v = 2 → F 85 42 = nI mp ∧ mp ≤ 10) :
    F_X11_readPage_J128 n (zwi S F) 85 (nI v) (nI q) (nI k) = some ((), zwi S (z2 (z2 (z2 F 85 36 (nI k)) 85 37 (if k = pl ∧ ((v = 0 ∧ 9 < q) ∨ (v = 1 ∧ 2 < q) ∨ (v = 2 ∧ 0 < q ∧ 3 < mp)) then nI 1 else nI 0)) 110 5 (if q = 11 then nI 1 else nI 0))) := by
  have s67 := mo_s85 hM
  have r38 := mo_r38 hM
  have s92 := mo_s110 hM
  have k5 : ∀ (G : Nat → Nat → Int32) (x : Nat), x ≤ 1 → F_X11_readPage_J185 n (zwi S G) 85 (nI q) 85 (nI x) = some ((), zwi S (z2 (z2 G 85 37 (nI x)) 110 5 (if q = 11 then nI 1 else nI 0))) := fun G x hx => by
    have h01 := n_01 hx
    by_cases h11 : q = 11
    · subst h11
      rw [if_pos rfl]
      simp (disch := omega) only [F_X11_readPage_J185, F_X11_readPage_J204, zv, e_gi, e_gr, e_gl, e_si, e_sb, e_ai, e_ar, e_ti, e_ty, e_tz, e_cv, zc_some, zmo_some, zin_T, ↓reduceIte, zit_succ, zzr0, zzr1, true_and, and_true, and_self, or_false, false_or, or_true, true_or, not_true_eq_false, not_false_eq_true, zl0, zl1, zl2, zl3, zl4, zl5, zl6, zl7, zl8, zl9, zl10, zl11, zl12, zl20, zl24, zl31, zl36, zl40, zl42, zl44, zl48, zl49, zl50, zl55, zl57, zl60, zl97, zl99, zl100, zl102, zl104, zl109, zl113, zl114, zl119, zl126, zl255, zl400, zl1000, zl101, zl103, zl1001, zl1002, zl16, zl18, zl32, zl35, zl443, n_leT, n_leF, n_ltT, n_ltF, n_eqT, n_eqF, n_swT, n_swF, nI_add, n_sub, pk_mul, zd_n, h01, s67, r38, s92]
    · rw [if_neg h11]
      simp (disch := omega) only [F_X11_readPage_J185, F_X11_readPage_J204, zv, e_gi, e_gr, e_gl, e_si, e_sb, e_ai, e_ar, e_ti, e_ty, e_tz, e_cv, zc_some, zmo_some, zin_T, ↓reduceIte, zit_succ, zzr0, zzr1, true_and, and_true, and_self, or_false, false_or, or_true, true_or, not_true_eq_false, not_false_eq_true, zl0, zl1, zl2, zl3, zl4, zl5, zl6, zl7, zl8, zl9, zl10, zl11, zl12, zl20, zl24, zl31, zl36, zl40, zl42, zl44, zl48, zl49, zl50, zl55, zl57, zl60, zl97, zl99, zl100, zl102, zl104, zl109, zl113, zl114, zl119, zl126, zl255, zl400, zl1000, zl101, zl103, zl1001, zl1002, zl16, zl18, zl32, zl35, zl443, n_leT, n_leF, n_ltT, n_ltF, n_eqT, n_eqF, n_swT, n_swF, nI_add, n_sub, pk_mul, zd_n, h01, s67, r38, s92]
  have kT := k5 (z2 F 85 36 (nI k)) 1 (by omega)
  have kF := k5 (z2 F 85 36 (nI k)) 0 (by omega)
  by_cases hkp : k = pl
  · have hv3 : v = 0 ∨ v = 1 ∨ v = 2 := by omega
    rcases hv3 with rfl | rfl | rfl
    · by_cases h9 : 9 < q
      · rw [if_pos ⟨hkp, Or.inl ⟨rfl, h9⟩⟩]
        simp (disch := omega) only [F_X11_readPage_J128, F_X11_readPage_J180, zv, e_gi, e_gr, e_gl, e_si, e_sb, e_ai, e_ar, e_ti, e_ty, e_tz, e_cv, zc_some, zmo_some, zin_T, ↓reduceIte, zit_succ, zzr0, zzr1, true_and, and_true, and_self, or_false, false_or, or_true, true_or, not_true_eq_false, not_false_eq_true, zl0, zl1, zl2, zl3, zl4, zl5, zl6, zl7, zl8, zl9, zl10, zl11, zl12, zl20, zl24, zl31, zl36, zl40, zl42, zl44, zl48, zl49, zl50, zl55, zl57, zl60, zl97, zl99, zl100, zl102, zl104, zl109, zl113, zl114, zl119, zl126, zl255, zl400, zl1000, zl101, zl103, zl1001, zl1002, zl16, zl18, zl32, zl35, zl443, n_leT, n_leF, n_ltT, n_ltF, n_eqT, n_eqF, n_swT, n_swF, nI_add, n_sub, pk_mul, zd_n, z2_eq, z2n, s67, hp, hkp] at kT ⊢
        exact kT
      · rw [if_neg (fun z => by omega)]
        simp (disch := omega) only [F_X11_readPage_J128, F_X11_readPage_J184, zv, e_gi, e_gr, e_gl, e_si, e_sb, e_ai, e_ar, e_ti, e_ty, e_tz, e_cv, zc_some, zmo_some, zin_T, ↓reduceIte, zit_succ, zzr0, zzr1, true_and, and_true, and_self, or_false, false_or, or_true, true_or, not_true_eq_false, not_false_eq_true, zl0, zl1, zl2, zl3, zl4, zl5, zl6, zl7, zl8, zl9, zl10, zl11, zl12, zl20, zl24, zl31, zl36, zl40, zl42, zl44, zl48, zl49, zl50, zl55, zl57, zl60, zl97, zl99, zl100, zl102, zl104, zl109, zl113, zl114, zl119, zl126, zl255, zl400, zl1000, zl101, zl103, zl1001, zl1002, zl16, zl18, zl32, zl35, zl443, n_leT, n_leF, n_ltT, n_ltF, n_eqT, n_eqF, n_swT, n_swF, nI_add, n_sub, pk_mul, zd_n, z2_eq, z2n, s67, hp, hkp] at kF ⊢
        exact kF
    · by_cases h9 : 2 < q
      · rw [if_pos ⟨hkp, Or.inr (Or.inl ⟨rfl, h9⟩)⟩]
        simp (disch := omega) only [F_X11_readPage_J128, F_X11_readPage_J180, zv, e_gi, e_gr, e_gl, e_si, e_sb, e_ai, e_ar, e_ti, e_ty, e_tz, e_cv, zc_some, zmo_some, zin_T, ↓reduceIte, zit_succ, zzr0, zzr1, true_and, and_true, and_self, or_false, false_or, or_true, true_or, not_true_eq_false, not_false_eq_true, zl0, zl1, zl2, zl3, zl4, zl5, zl6, zl7, zl8, zl9, zl10, zl11, zl12, zl20, zl24, zl31, zl36, zl40, zl42, zl44, zl48, zl49, zl50, zl55, zl57, zl60, zl97, zl99, zl100, zl102, zl104, zl109, zl113, zl114, zl119, zl126, zl255, zl400, zl1000, zl101, zl103, zl1001, zl1002, zl16, zl18, zl32, zl35, zl443, n_leT, n_leF, n_ltT, n_ltF, n_eqT, n_eqF, n_swT, n_swF, nI_add, n_sub, pk_mul, zd_n, z2_eq, z2n, s67, hp, hkp] at kT ⊢
        exact kT
      · rw [if_neg (fun z => by omega)]
        simp (disch := omega) only [F_X11_readPage_J128, F_X11_readPage_J184, zv, e_gi, e_gr, e_gl, e_si, e_sb, e_ai, e_ar, e_ti, e_ty, e_tz, e_cv, zc_some, zmo_some, zin_T, ↓reduceIte, zit_succ, zzr0, zzr1, true_and, and_true, and_self, or_false, false_or, or_true, true_or, not_true_eq_false, not_false_eq_true, zl0, zl1, zl2, zl3, zl4, zl5, zl6, zl7, zl8, zl9, zl10, zl11, zl12, zl20, zl24, zl31, zl36, zl40, zl42, zl44, zl48, zl49, zl50, zl55, zl57, zl60, zl97, zl99, zl100, zl102, zl104, zl109, zl113, zl114, zl119, zl126, zl255, zl400, zl1000, zl101, zl103, zl1001, zl1002, zl16, zl18, zl32, zl35, zl443, n_leT, n_leF, n_ltT, n_ltF, n_eqT, n_eqF, n_swT, n_swF, nI_add, n_sub, pk_mul, zd_n, z2_eq, z2n, s67, hp, hkp] at kF ⊢
        exact kF
    · obtain ⟨m1, m2⟩ := hm rfl
      by_cases h9 : 0 < q
      · by_cases h3 : 3 < mp
        · rw [if_pos ⟨hkp, Or.inr (Or.inr ⟨rfl, h9, h3⟩)⟩]
          simp (disch := omega) only [F_X11_readPage_J128, F_X11_readPage_J180, zv, e_gi, e_gr, e_gl, e_si, e_sb, e_ai, e_ar, e_ti, e_ty, e_tz, e_cv, zc_some, zmo_some, zin_T, ↓reduceIte, zit_succ, zzr0, zzr1, true_and, and_true, and_self, or_false, false_or, or_true, true_or, not_true_eq_false, not_false_eq_true, zl0, zl1, zl2, zl3, zl4, zl5, zl6, zl7, zl8, zl9, zl10, zl11, zl12, zl20, zl24, zl31, zl36, zl40, zl42, zl44, zl48, zl49, zl50, zl55, zl57, zl60, zl97, zl99, zl100, zl102, zl104, zl109, zl113, zl114, zl119, zl126, zl255, zl400, zl1000, zl101, zl103, zl1001, zl1002, zl16, zl18, zl32, zl35, zl443, n_leT, n_leF, n_ltT, n_ltF, n_eqT, n_eqF, n_swT, n_swF, nI_add, n_sub, pk_mul, zd_n, z2_eq, z2n, s67, hp, hkp, m1] at kT ⊢
          exact kT
        · rw [if_neg (fun z => by omega)]
          simp (disch := omega) only [F_X11_readPage_J128, F_X11_readPage_J184, zv, e_gi, e_gr, e_gl, e_si, e_sb, e_ai, e_ar, e_ti, e_ty, e_tz, e_cv, zc_some, zmo_some, zin_T, ↓reduceIte, zit_succ, zzr0, zzr1, true_and, and_true, and_self, or_false, false_or, or_true, true_or, not_true_eq_false, not_false_eq_true, zl0, zl1, zl2, zl3, zl4, zl5, zl6, zl7, zl8, zl9, zl10, zl11, zl12, zl20, zl24, zl31, zl36, zl40, zl42, zl44, zl48, zl49, zl50, zl55, zl57, zl60, zl97, zl99, zl100, zl102, zl104, zl109, zl113, zl114, zl119, zl126, zl255, zl400, zl1000, zl101, zl103, zl1001, zl1002, zl16, zl18, zl32, zl35, zl443, n_leT, n_leF, n_ltT, n_ltF, n_eqT, n_eqF, n_swT, n_swF, nI_add, n_sub, pk_mul, zd_n, z2_eq, z2n, s67, hp, hkp, m1] at kF ⊢
          exact kF
      · rw [if_neg (fun z => by omega)]
        simp (disch := omega) only [F_X11_readPage_J128, F_X11_readPage_J184, zv, e_gi, e_gr, e_gl, e_si, e_sb, e_ai, e_ar, e_ti, e_ty, e_tz, e_cv, zc_some, zmo_some, zin_T, ↓reduceIte, zit_succ, zzr0, zzr1, true_and, and_true, and_self, or_false, false_or, or_true, true_or, not_true_eq_false, not_false_eq_true, zl0, zl1, zl2, zl3, zl4, zl5, zl6, zl7, zl8, zl9, zl10, zl11, zl12, zl20, zl24, zl31, zl36, zl40, zl42, zl44, zl48, zl49, zl50, zl55, zl57, zl60, zl97, zl99, zl100, zl102, zl104, zl109, zl113, zl114, zl119, zl126, zl255, zl400, zl1000, zl101, zl103, zl1001, zl1002, zl16, zl18, zl32, zl35, zl443, n_leT, n_leF, n_ltT, n_ltF, n_eqT, n_eqF, n_swT, n_swF, nI_add, n_sub, pk_mul, zd_n, z2_eq, z2n, s67, hp, hkp] at kF ⊢
        exact kF
  · rw [if_neg (fun z => hkp z.1)]
    simp (disch := omega) only [F_X11_readPage_J128, F_X11_readPage_J184, zv, e_gi, e_gr, e_gl, e_si, e_sb, e_ai, e_ar, e_ti, e_ty, e_tz, e_cv, zc_some, zmo_some, zin_T, ↓reduceIte, zit_succ, zzr0, zzr1, true_and, and_true, and_self, or_false, false_or, or_true, true_or, not_true_eq_false, not_false_eq_true, zl0, zl1, zl2, zl3, zl4, zl5, zl6, zl7, zl8, zl9, zl10, zl11, zl12, zl20, zl24, zl31, zl36, zl40, zl42, zl44, zl48, zl49, zl50, zl55, zl57, zl60, zl97, zl99, zl100, zl102, zl104, zl109, zl113, zl114, zl119, zl126, zl255, zl400, zl1000, zl101, zl103, zl1001, zl1002, zl16, zl18, zl32, zl35, zl443, n_leT, n_leF, n_ltT, n_ltF, n_eqT, n_eqF, n_swT, n_swF, nI_add, n_sub, pk_mul, zd_n, z2_eq, z2n, s67, hp] at kF ⊢
    exact kF
theorem eM_readCup (n : Nat) {S : zH} {f : Nat → Nat → Int32} {cd : Nat → Nat} {pl k s : Nat} (hn : 513 < n) (hM : zMo S) (hpl : pl ≤ 50) (hp : f 85 27 = nI pl) (hcd : ∀ i, i < pl → f 105 i = nI (cd i) ∧ cd i ≤ 126) (hk : k ≤ pl) (ht : tst sCu 0 cd k = some s) (hs : k = pl ∨ (k < pl ∧ sCu s (cd k) = none)) :
    ∃ F, F_X11_readPage n (zwi S f) 85 (nI 0) = some ((), zwi S F) ∧ F 85 36 = nI k ∧ F 85 37 = (if k = pl ∧ 10 ≤ k then nI 1 else nI 0) ∧ (k = pl → jCu cd k s F) ∧ F 110 5 = (if k = 11 then nI 1 else nI 0) ∧ ∀ a j, ¬ mScr a j → F a j = f a j := by
  have s67 := mo_s85 hM
  have r38 := mo_r38 hM
  have s92 := mo_s110 hM
  have m27 : ¬ mScr 85 27 := fun z => by unfold mScr at z; omega
  obtain ⟨F0, hF0⟩ : ∃ F0, F0 = z2 (z2 (z2 f 110 5 (nI 0)) 85 39 (nI 0)) 85 42 (nI 0) := ⟨_, rfl⟩
  have f0 : ∀ a j, ¬ mScr a j → F0 a j = f a j := fun a j q => by
    unfold mScr at q
    rw [hF0, z2n (by omega), z2n (by omega), z2n (by omega)]
  obtain ⟨F, e1, e2, e3, e4⟩ := eM_run n (S := S) (f := f) (F0 := F0) (cd := cd) (pl := pl) (v := 0) (k := k) (s0 := 0) (s := s) sCu (jCu cd) (fun h x c => F_X11_nextCup n h 85 x c) (fun s => s) hn hpl hM hp (fun i hi => (hcd i hi).1) (fun i s F hJ => by have := hJ.1; have := hJ.2.1; omega) (fun kc F x i hi q1 q2 => by unfold F_X11_readPage_B24; simp (disch := omega) only [zv, e_gi, e_gr, e_gl, e_si, e_sb, e_ai, e_ar, e_ti, e_ty, e_tz, e_cv, zc_some, zmo_some, zin_T, ↓reduceIte, zit_succ, zzr0, zzr1, true_and, and_true, and_self, or_false, false_or, or_true, true_or, not_true_eq_false, not_false_eq_true, zl0, zl1, zl2, zl3, zl4, zl5, zl6, zl7, zl8, zl9, zl10, zl11, zl12, zl20, zl24, zl31, zl36, zl40, zl42, zl44, zl48, zl49, zl50, zl55, zl57, zl60, zl97, zl99, zl100, zl102, zl104, zl109, zl113, zl114, zl119, zl126, zl255, zl400, zl1000, zl101, zl103, zl1001, zl1002, zl16, zl18, zl32, zl35, zl443, n_leT, n_leF, n_ltT, n_ltF, n_eqT, n_eqF, n_swT, n_swF, nI_add, n_sub, pk_mul, zd_n, s67, mo_r28 hM, mo_s105 hM, q1, q2]) (fun i s F hi hJ => eM_nextCup n hM (hcd i hi).2 hJ) ⟨rfl, by omega, fun j hj q => by omega⟩ f0 hk ht hs
  have ee := eM_end n (S := S) (F := F) (v := 0) (q := s) (k := k) (pl := pl) (mp := 0) hM (by omega) e2 hk hpl ((e4 85 27 m27).trans hp) (fun z => by omega)
  obtain ⟨rfl, -⟩ := sCu_inv ht
  have main : F_X11_readPage n (zwi S f) 85 (nI 0) = F_X11_readPage_L24 n (zwi S F0) 85 (nI 0) (nI 0) (nI 0) (nI 1) := by
    unfold F_X11_readPage
    simp (disch := omega) only [zv, e_gi, e_gr, e_gl, e_si, e_sb, e_ai, e_ar, e_ti, e_ty, e_tz, e_cv, zc_some, zmo_some, zin_T, ↓reduceIte, zit_succ, zzr0, zzr1, true_and, and_true, and_self, or_false, false_or, or_true, true_or, not_true_eq_false, not_false_eq_true, zl0, zl1, zl2, zl3, zl4, zl5, zl6, zl7, zl8, zl9, zl10, zl11, zl12, zl20, zl24, zl31, zl36, zl40, zl42, zl44, zl48, zl49, zl50, zl55, zl57, zl60, zl97, zl99, zl100, zl102, zl104, zl109, zl113, zl114, zl119, zl126, zl255, zl400, zl1000, zl101, zl103, zl1001, zl1002, zl16, zl18, zl32, zl35, zl443, n_leT, n_leF, n_ltT, n_ltF, n_eqT, n_eqF, n_swT, n_swF, nI_add, n_sub, pk_mul, zd_n, s67, r38, s92]
    rw [← hF0]
  refine ⟨_, main.trans (e1.trans ee), ?_, ?_, fun hkp => ?_, z2_eq _ _ _ _, fun a j q => ?_⟩
  · rw [z2n (by omega), z2n (by omega)]
    exact z2_eq _ _ _ _
  · rw [z2n (by omega), z2_eq]
    by_cases h : s = pl ∧ 10 ≤ s
    · rw [if_pos h, if_pos ⟨h.1, Or.inl ⟨rfl, by omega⟩⟩]
    · rw [if_neg h, if_neg (fun z => by omega)]
  · obtain ⟨j1, j2, j3⟩ := e3 hkp
    exact ⟨j1, j2, fun j hj q => by rw [z2n (by omega), z2n (by omega), z2n (by omega)]; exact j3 j hj q⟩
  · unfold mScr at q
    rw [z2n (by omega), z2n (by omega), z2n (by omega)]
    exact e4 a j (by unfold mScr; exact q)
