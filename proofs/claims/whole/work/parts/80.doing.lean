/-- whether a doing can be told -/
def qTo (p q : Int32) : Prop := (p = nI 0 ∧ q = nI 0) ∨ (p = nI 4 ∧ q = nI 0) ∨ ((p = nI 1 ∨ p = nI 2) ∧ ¬ q < nI 1 ∧ ¬ nI 20 < q) ∨ (p = nI 3 ∧ ¬ q < nI 1 ∧ ¬ nI 40 < q)
theorem eC_told (n : Nat) (h : zH) (p q : Int32) : (qTo p q ∧ F_X2_isTold n h p q = some (nI 1, h)) ∨ (¬ qTo p q ∧ F_X2_isTold n h p q = some (nI 0, h)) := by
  have n5 : ∀ a b : Nat, a < 5 → b < 5 → a ≠ b → ¬ nI a = nI b := fun a b ha hb hab z => hab (n_inj (by omega) (by omega) z)
  by_cases hp : p.toInt < 0 ∨ 4 < p.toInt
  · right
    refine ⟨?_, by simp (disch := omega) only [F_X2_isTold_J79, F_X2_isTold_J69, F_X2_isTold_J68, F_X2_isTold_J52, F_X2_isTold_J51, F_X2_isTold, zv, e_gi, e_gr, e_gl, e_si, e_sb, e_ai, e_ar, e_ti, e_ty, e_tz, e_cv, zc_some, zmo_some, zin_T, ↓reduceIte, zit_succ, zzr0, zzr1, true_and, and_true, and_self, or_false, false_or, or_true, true_or, not_true_eq_false, not_false_eq_true, zl0, zl1, zl2, zl3, zl4, zl5, zl6, zl7, zl8, zl9, zl10, zl11, zl12, zl20, zl24, zl31, zl36, zl40, zl42, zl44, zl48, zl49, zl50, zl55, zl57, zl60, zl97, zl99, zl100, zl102, zl104, zl109, zl113, zl114, zl119, zl126, zl255, zl400, zl1000, zl101, zl103, zl1001, zl1002, zl16, zl18, zl32, zl35, zl443, n_leT, n_leF, n_ltT, n_ltF, n_eqT, n_eqF, n_swT, n_swF, nI_add, n_sub, pk_mul, zd_n, hp]⟩
    have ne : ∀ k : Nat, k ≤ 4 → ¬ p = nI k := fun k hk z => by
      rw [z, n_int (by omega)] at hp
      omega
    rintro (h | h | h | h)
    · exact ne 0 (by omega) h.1
    · exact ne 4 (by omega) h.1
    · exact h.1.elim (ne 1 (by omega)) (ne 2 (by omega))
    · exact ne 3 (by omega) h.1
  · rcases i_cases p with h | ⟨m, hm, rfl⟩
    · have e : (nI 0).toInt = 0 := by decide
      have := i_lt h
      omega
    · rw [n_int hm] at hp
      have hm5 : m = 0 ∨ m = 1 ∨ m = 2 ∨ m = 3 ∨ m = 4 := by omega
      unfold qTo
      rcases hm5 with rfl | rfl | rfl | rfl | rfl
      · by_cases hq : q = nI 0
        · exact Or.inl ⟨Or.inl ⟨rfl, hq⟩, by simp (disch := omega) only [F_X2_isTold_J79, F_X2_isTold_J69, F_X2_isTold_J68, F_X2_isTold_J52, F_X2_isTold_J51, F_X2_isTold, zv, e_gi, e_gr, e_gl, e_si, e_sb, e_ai, e_ar, e_ti, e_ty, e_tz, e_cv, zc_some, zmo_some, zin_T, ↓reduceIte, zit_succ, zzr0, zzr1, true_and, and_true, and_self, or_false, false_or, or_true, true_or, not_true_eq_false, not_false_eq_true, zl0, zl1, zl2, zl3, zl4, zl5, zl6, zl7, zl8, zl9, zl10, zl11, zl12, zl20, zl24, zl31, zl36, zl40, zl42, zl44, zl48, zl49, zl50, zl55, zl57, zl60, zl97, zl99, zl100, zl102, zl104, zl109, zl113, zl114, zl119, zl126, zl255, zl400, zl1000, zl101, zl103, zl1001, zl1002, zl16, zl18, zl32, zl35, zl443, n_leT, n_leF, n_ltT, n_ltF, n_eqT, n_eqF, n_swT, n_swF, nI_add, n_sub, pk_mul, zd_n, hq]⟩
        · refine Or.inr ⟨?_, by simp (disch := omega) only [F_X2_isTold_J79, F_X2_isTold_J69, F_X2_isTold_J68, F_X2_isTold_J52, F_X2_isTold_J51, F_X2_isTold, zv, e_gi, e_gr, e_gl, e_si, e_sb, e_ai, e_ar, e_ti, e_ty, e_tz, e_cv, zc_some, zmo_some, zin_T, ↓reduceIte, zit_succ, zzr0, zzr1, true_and, and_true, and_self, or_false, false_or, or_true, true_or, not_true_eq_false, not_false_eq_true, zl0, zl1, zl2, zl3, zl4, zl5, zl6, zl7, zl8, zl9, zl10, zl11, zl12, zl20, zl24, zl31, zl36, zl40, zl42, zl44, zl48, zl49, zl50, zl55, zl57, zl60, zl97, zl99, zl100, zl102, zl104, zl109, zl113, zl114, zl119, zl126, zl255, zl400, zl1000, zl101, zl103, zl1001, zl1002, zl16, zl18, zl32, zl35, zl443, n_leT, n_leF, n_ltT, n_ltF, n_eqT, n_eqF, n_swT, n_swF, nI_add, n_sub, pk_mul, zd_n, hq]⟩
          rintro (h | h | h | h)
          · exact hq h.2
          · exact hq h.2
          · exact h.1.elim (n5 0 1 (by omega) (by omega) (by omega)) (n5 0 2 (by omega) (by omega) (by omega))
          · exact n5 0 3 (by omega) (by omega) (by omega) h.1
      · by_cases h1 : q < nI 1
        · refine Or.inr ⟨?_, by simp (disch := omega) only [F_X2_isTold_J79, F_X2_isTold_J69, F_X2_isTold_J68, F_X2_isTold_J52, F_X2_isTold_J51, F_X2_isTold, zv, e_gi, e_gr, e_gl, e_si, e_sb, e_ai, e_ar, e_ti, e_ty, e_tz, e_cv, zc_some, zmo_some, zin_T, ↓reduceIte, zit_succ, zzr0, zzr1, true_and, and_true, and_self, or_false, false_or, or_true, true_or, not_true_eq_false, not_false_eq_true, zl0, zl1, zl2, zl3, zl4, zl5, zl6, zl7, zl8, zl9, zl10, zl11, zl12, zl20, zl24, zl31, zl36, zl40, zl42, zl44, zl48, zl49, zl50, zl55, zl57, zl60, zl97, zl99, zl100, zl102, zl104, zl109, zl113, zl114, zl119, zl126, zl255, zl400, zl1000, zl101, zl103, zl1001, zl1002, zl16, zl18, zl32, zl35, zl443, n_leT, n_leF, n_ltT, n_ltF, n_eqT, n_eqF, n_swT, n_swF, nI_add, n_sub, pk_mul, zd_n, h1]⟩
          rintro (h | h | h | h)
          · exact n5 1 0 (by omega) (by omega) (by omega) h.1
          · exact n5 1 4 (by omega) (by omega) (by omega) h.1
          · exact h.2.1 h1
          · exact h.2.1 h1
        · by_cases h2 : nI 20 < q
          · refine Or.inr ⟨?_, by simp (disch := omega) only [F_X2_isTold_J79, F_X2_isTold_J69, F_X2_isTold_J68, F_X2_isTold_J52, F_X2_isTold_J51, F_X2_isTold, zv, e_gi, e_gr, e_gl, e_si, e_sb, e_ai, e_ar, e_ti, e_ty, e_tz, e_cv, zc_some, zmo_some, zin_T, ↓reduceIte, zit_succ, zzr0, zzr1, true_and, and_true, and_self, or_false, false_or, or_true, true_or, not_true_eq_false, not_false_eq_true, zl0, zl1, zl2, zl3, zl4, zl5, zl6, zl7, zl8, zl9, zl10, zl11, zl12, zl20, zl24, zl31, zl36, zl40, zl42, zl44, zl48, zl49, zl50, zl55, zl57, zl60, zl97, zl99, zl100, zl102, zl104, zl109, zl113, zl114, zl119, zl126, zl255, zl400, zl1000, zl101, zl103, zl1001, zl1002, zl16, zl18, zl32, zl35, zl443, n_leT, n_leF, n_ltT, n_ltF, n_eqT, n_eqF, n_swT, n_swF, nI_add, n_sub, pk_mul, zd_n, h1, h2]⟩
            rintro (h | h | h | h)
            · exact n5 1 0 (by omega) (by omega) (by omega) h.1
            · exact n5 1 4 (by omega) (by omega) (by omega) h.1
            · exact h.2.2 h2
            · exact n5 1 3 (by omega) (by omega) (by omega) h.1
          · exact Or.inl ⟨Or.inr (Or.inr (Or.inl ⟨Or.inl rfl, h1, h2⟩)), by simp (disch := omega) only [F_X2_isTold_J79, F_X2_isTold_J69, F_X2_isTold_J68, F_X2_isTold_J52, F_X2_isTold_J51, F_X2_isTold, zv, e_gi, e_gr, e_gl, e_si, e_sb, e_ai, e_ar, e_ti, e_ty, e_tz, e_cv, zc_some, zmo_some, zin_T, ↓reduceIte, zit_succ, zzr0, zzr1, true_and, and_true, and_self, or_false, false_or, or_true, true_or, not_true_eq_false, not_false_eq_true, zl0, zl1, zl2, zl3, zl4, zl5, zl6, zl7, zl8, zl9, zl10, zl11, zl12, zl20, zl24, zl31, zl36, zl40, zl42, zl44, zl48, zl49, zl50, zl55, zl57, zl60, zl97, zl99, zl100, zl102, zl104, zl109, zl113, zl114, zl119, zl126, zl255, zl400, zl1000, zl101, zl103, zl1001, zl1002, zl16, zl18, zl32, zl35, zl443, n_leT, n_leF, n_ltT, n_ltF, n_eqT, n_eqF, n_swT, n_swF, nI_add, n_sub, pk_mul, zd_n, h1, h2]⟩
      · by_cases h1 : q < nI 1
        · refine Or.inr ⟨?_, by simp (disch := omega) only [F_X2_isTold_J79, F_X2_isTold_J69, F_X2_isTold_J68, F_X2_isTold_J52, F_X2_isTold_J51, F_X2_isTold, zv, e_gi, e_gr, e_gl, e_si, e_sb, e_ai, e_ar, e_ti, e_ty, e_tz, e_cv, zc_some, zmo_some, zin_T, ↓reduceIte, zit_succ, zzr0, zzr1, true_and, and_true, and_self, or_false, false_or, or_true, true_or, not_true_eq_false, not_false_eq_true, zl0, zl1, zl2, zl3, zl4, zl5, zl6, zl7, zl8, zl9, zl10, zl11, zl12, zl20, zl24, zl31, zl36, zl40, zl42, zl44, zl48, zl49, zl50, zl55, zl57, zl60, zl97, zl99, zl100, zl102, zl104, zl109, zl113, zl114, zl119, zl126, zl255, zl400, zl1000, zl101, zl103, zl1001, zl1002, zl16, zl18, zl32, zl35, zl443, n_leT, n_leF, n_ltT, n_ltF, n_eqT, n_eqF, n_swT, n_swF, nI_add, n_sub, pk_mul, zd_n, h1]⟩
          rintro (h | h | h | h)
          · exact n5 2 0 (by omega) (by omega) (by omega) h.1
          · exact n5 2 4 (by omega) (by omega) (by omega) h.1
          · exact h.2.1 h1
          · exact h.2.1 h1
        · by_cases h2 : nI 20 < q
          · refine Or.inr ⟨?_, by simp (disch := omega) only [F_X2_isTold_J79, F_X2_isTold_J69, F_X2_isTold_J68, F_X2_isTold_J52, F_X2_isTold_J51, F_X2_isTold, zv, e_gi, e_gr, e_gl, e_si, e_sb, e_ai, e_ar, e_ti, e_ty, e_tz, e_cv, zc_some, zmo_some, zin_T, ↓reduceIte, zit_succ, zzr0, zzr1, true_and, and_true, and_self, or_false, false_or, or_true, true_or, not_true_eq_false, not_false_eq_true, zl0, zl1, zl2, zl3, zl4, zl5, zl6, zl7, zl8, zl9, zl10, zl11, zl12, zl20, zl24, zl31, zl36, zl40, zl42, zl44, zl48, zl49, zl50, zl55, zl57, zl60, zl97, zl99, zl100, zl102, zl104, zl109, zl113, zl114, zl119, zl126, zl255, zl400, zl1000, zl101, zl103, zl1001, zl1002, zl16, zl18, zl32, zl35, zl443, n_leT, n_leF, n_ltT, n_ltF, n_eqT, n_eqF, n_swT, n_swF, nI_add, n_sub, pk_mul, zd_n, h1, h2]⟩
            rintro (h | h | h | h)
            · exact n5 2 0 (by omega) (by omega) (by omega) h.1
            · exact n5 2 4 (by omega) (by omega) (by omega) h.1
            · exact h.2.2 h2
            · exact n5 2 3 (by omega) (by omega) (by omega) h.1
          · exact Or.inl ⟨Or.inr (Or.inr (Or.inl ⟨Or.inr rfl, h1, h2⟩)), by simp (disch := omega) only [F_X2_isTold_J79, F_X2_isTold_J69, F_X2_isTold_J68, F_X2_isTold_J52, F_X2_isTold_J51, F_X2_isTold, zv, e_gi, e_gr, e_gl, e_si, e_sb, e_ai, e_ar, e_ti, e_ty, e_tz, e_cv, zc_some, zmo_some, zin_T, ↓reduceIte, zit_succ, zzr0, zzr1, true_and, and_true, and_self, or_false, false_or, or_true, true_or, not_true_eq_false, not_false_eq_true, zl0, zl1, zl2, zl3, zl4, zl5, zl6, zl7, zl8, zl9, zl10, zl11, zl12, zl20, zl24, zl31, zl36, zl40, zl42, zl44, zl48, zl49, zl50, zl55, zl57, zl60, zl97, zl99, zl100, zl102, zl104, zl109, zl113, zl114, zl119, zl126, zl255, zl400, zl1000, zl101, zl103, zl1001, zl1002, zl16, zl18, zl32, zl35, zl443, n_leT, n_leF, n_ltT, n_ltF, n_eqT, n_eqF, n_swT, n_swF, nI_add, n_sub, pk_mul, zd_n, h1, h2]⟩
      · by_cases h1 : q < nI 1
        · refine Or.inr ⟨?_, by simp (disch := omega) only [F_X2_isTold_J79, F_X2_isTold_J69, F_X2_isTold_J68, F_X2_isTold_J52, F_X2_isTold_J51, F_X2_isTold, zv, e_gi, e_gr, e_gl, e_si, e_sb, e_ai, e_ar, e_ti, e_ty, e_tz, e_cv, zc_some, zmo_some, zin_T, ↓reduceIte, zit_succ, zzr0, zzr1, true_and, and_true, and_self, or_false, false_or, or_true, true_or, not_true_eq_false, not_false_eq_true, zl0, zl1, zl2, zl3, zl4, zl5, zl6, zl7, zl8, zl9, zl10, zl11, zl12, zl20, zl24, zl31, zl36, zl40, zl42, zl44, zl48, zl49, zl50, zl55, zl57, zl60, zl97, zl99, zl100, zl102, zl104, zl109, zl113, zl114, zl119, zl126, zl255, zl400, zl1000, zl101, zl103, zl1001, zl1002, zl16, zl18, zl32, zl35, zl443, n_leT, n_leF, n_ltT, n_ltF, n_eqT, n_eqF, n_swT, n_swF, nI_add, n_sub, pk_mul, zd_n, h1]⟩
          rintro (h | h | h | h)
          · exact n5 3 0 (by omega) (by omega) (by omega) h.1
          · exact n5 3 4 (by omega) (by omega) (by omega) h.1
          · exact h.2.1 h1
          · exact h.2.1 h1
        · by_cases h2 : nI 40 < q
          · refine Or.inr ⟨?_, by simp (disch := omega) only [F_X2_isTold_J79, F_X2_isTold_J69, F_X2_isTold_J68, F_X2_isTold_J52, F_X2_isTold_J51, F_X2_isTold, zv, e_gi, e_gr, e_gl, e_si, e_sb, e_ai, e_ar, e_ti, e_ty, e_tz, e_cv, zc_some, zmo_some, zin_T, ↓reduceIte, zit_succ, zzr0, zzr1, true_and, and_true, and_self, or_false, false_or, or_true, true_or, not_true_eq_false, not_false_eq_true, zl0, zl1, zl2, zl3, zl4, zl5, zl6, zl7, zl8, zl9, zl10, zl11, zl12, zl20, zl24, zl31, zl36, zl40, zl42, zl44, zl48, zl49, zl50, zl55, zl57, zl60, zl97, zl99, zl100, zl102, zl104, zl109, zl113, zl114, zl119, zl126, zl255, zl400, zl1000, zl101, zl103, zl1001, zl1002, zl16, zl18, zl32, zl35, zl443, n_leT, n_leF, n_ltT, n_ltF, n_eqT, n_eqF, n_swT, n_swF, nI_add, n_sub, pk_mul, zd_n, h1, h2]⟩
            rintro (h | h | h | h)
            · exact n5 3 0 (by omega) (by omega) (by omega) h.1
            · exact n5 3 4 (by omega) (by omega) (by omega) h.1
            · exact h.1.elim (n5 3 1 (by omega) (by omega) (by omega)) (n5 3 2 (by omega) (by omega) (by omega))
            · exact h.2.2 h2
          · exact Or.inl ⟨Or.inr (Or.inr (Or.inr ⟨rfl, h1, h2⟩)), by simp (disch := omega) only [F_X2_isTold_J79, F_X2_isTold_J69, F_X2_isTold_J68, F_X2_isTold_J52, F_X2_isTold_J51, F_X2_isTold, zv, e_gi, e_gr, e_gl, e_si, e_sb, e_ai, e_ar, e_ti, e_ty, e_tz, e_cv, zc_some, zmo_some, zin_T, ↓reduceIte, zit_succ, zzr0, zzr1, true_and, and_true, and_self, or_false, false_or, or_true, true_or, not_true_eq_false, not_false_eq_true, zl0, zl1, zl2, zl3, zl4, zl5, zl6, zl7, zl8, zl9, zl10, zl11, zl12, zl20, zl24, zl31, zl36, zl40, zl42, zl44, zl48, zl49, zl50, zl55, zl57, zl60, zl97, zl99, zl100, zl102, zl104, zl109, zl113, zl114, zl119, zl126, zl255, zl400, zl1000, zl101, zl103, zl1001, zl1002, zl16, zl18, zl32, zl35, zl443, n_leT, n_leF, n_ltT, n_ltF, n_eqT, n_eqF, n_swT, n_swF, nI_add, n_sub, pk_mul, zd_n, h1, h2]⟩
      · by_cases hq : q = nI 0
        · exact Or.inl ⟨Or.inr (Or.inl ⟨rfl, hq⟩), by simp (disch := omega) only [F_X2_isTold_J79, F_X2_isTold_J69, F_X2_isTold_J68, F_X2_isTold_J52, F_X2_isTold_J51, F_X2_isTold, zv, e_gi, e_gr, e_gl, e_si, e_sb, e_ai, e_ar, e_ti, e_ty, e_tz, e_cv, zc_some, zmo_some, zin_T, ↓reduceIte, zit_succ, zzr0, zzr1, true_and, and_true, and_self, or_false, false_or, or_true, true_or, not_true_eq_false, not_false_eq_true, zl0, zl1, zl2, zl3, zl4, zl5, zl6, zl7, zl8, zl9, zl10, zl11, zl12, zl20, zl24, zl31, zl36, zl40, zl42, zl44, zl48, zl49, zl50, zl55, zl57, zl60, zl97, zl99, zl100, zl102, zl104, zl109, zl113, zl114, zl119, zl126, zl255, zl400, zl1000, zl101, zl103, zl1001, zl1002, zl16, zl18, zl32, zl35, zl443, n_leT, n_leF, n_ltT, n_ltF, n_eqT, n_eqF, n_swT, n_swF, nI_add, n_sub, pk_mul, zd_n, hq]⟩
        · refine Or.inr ⟨?_, by simp (disch := omega) only [F_X2_isTold_J79, F_X2_isTold_J69, F_X2_isTold_J68, F_X2_isTold_J52, F_X2_isTold_J51, F_X2_isTold, zv, e_gi, e_gr, e_gl, e_si, e_sb, e_ai, e_ar, e_ti, e_ty, e_tz, e_cv, zc_some, zmo_some, zin_T, ↓reduceIte, zit_succ, zzr0, zzr1, true_and, and_true, and_self, or_false, false_or, or_true, true_or, not_true_eq_false, not_false_eq_true, zl0, zl1, zl2, zl3, zl4, zl5, zl6, zl7, zl8, zl9, zl10, zl11, zl12, zl20, zl24, zl31, zl36, zl40, zl42, zl44, zl48, zl49, zl50, zl55, zl57, zl60, zl97, zl99, zl100, zl102, zl104, zl109, zl113, zl114, zl119, zl126, zl255, zl400, zl1000, zl101, zl103, zl1001, zl1002, zl16, zl18, zl32, zl35, zl443, n_leT, n_leF, n_ltT, n_ltF, n_eqT, n_eqF, n_swT, n_swF, nI_add, n_sub, pk_mul, zd_n, hq]⟩
          rintro (h | h | h | h)
          · exact hq h.2
          · exact hq h.2
          · exact h.1.elim (n5 4 1 (by omega) (by omega) (by omega)) (n5 4 2 (by omega) (by omega) (by omega))
          · exact n5 4 3 (by omega) (by omega) (by omega) h.1
