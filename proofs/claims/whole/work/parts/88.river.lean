/-! ===== the text of a river: at, points, off-sides, held ===== -/
def sRi (s : Nat × Nat × (Nat → Nat) × (Nat → Nat)) (c : Nat) : Option (Nat × Nat × (Nat → Nat) × (Nat → Nat)) :=
  if s.1 = 0 then (if 48 ≤ c ∧ c ≤ 57 then some (if c = 48 then 2 else 1, s.2.1 + 1, z1 s.2.2.1 s.2.1 (c - 48), z1 s.2.2.2 s.2.1 0) else none)
  else if s.1 = 1 ∧ 48 ≤ c ∧ c ≤ 57 then some (2, s.2.1, z1 s.2.2.1 (s.2.1 - 1) (10 * s.2.2.1 (s.2.1 - 1) + c - 48), s.2.2.2)
  else if s.1 ≤ 2 ∧ c = 104 then some (3, s.2.1, s.2.2.1, z1 s.2.2.2 (s.2.1 - 1) 1)
  else if c = 44 ∧ s.2.1 < 10 then some (0, s.2.1, s.2.2.1, s.2.2.2) else none
def wRi (q m : Nat) (d e : Nat → Nat) : Prop := q ≤ 3 ∧ (q = 0 → m ≤ 9) ∧ (1 ≤ q → 1 ≤ m) ∧ m ≤ 10 ∧ (∀ j, j < m → d j ≤ 99 ∧ e j ≤ 1) ∧ (q = 1 → 1 ≤ d (m - 1) ∧ d (m - 1) ≤ 9) ∧ (q = 2 → d (m - 1) = 0 ∨ 10 ≤ d (m - 1))
def iRi (t i : Nat) (s : Nat × Nat × (Nat → Nat) × (Nat → Nat)) (F : Nat → Nat → Int32) : Prop := wRi s.1 s.2.1 s.2.2.1 s.2.2.2 ∧ F t 5 = nI (if s.1 = 0 then 0 else if s.1 ≤ 2 then 1 else 2) ∧ F t 4 = nI s.2.1 ∧ ∀ j, j < s.2.1 → F (t + 1) j = nI (s.2.2.1 j) ∧ F (t + 2) j = nI (s.2.2.2 j)
theorem wRi_i : wRi 0 0 (fun _ => 0) (fun _ => 0) := ⟨by omega, fun _ => by omega, fun z => by omega, by omega, fun j hj => by omega, fun z => by omega, fun z => by omega⟩
theorem wRi_0 {m c : Nat} {d e : Nat → Nat} (h : wRi 0 m d e) (hc : 48 ≤ c ∧ c ≤ 57) : wRi (if c = 48 then 2 else 1) (m + 1) (z1 d m (c - 48)) (z1 e m 0) := by
  obtain ⟨h1, h2, h3, h4, h5, h6, h7⟩ := h
  have := h2 rfl
  refine ⟨by split <;> omega, fun z => by split at z <;> omega, fun z => by omega, by omega, fun j hj => ?_, fun z => ?_, fun z => ?_⟩
  · by_cases hj2 : j = m
    · subst hj2
      rw [z1_eq, z1_eq]
      omega
    · rw [z1n hj2, z1n hj2]
      exact h5 j (by omega)
  · rw [Nat.add_sub_cancel, z1_eq]
    by_cases e48 : c = 48
    · rw [if_pos e48] at z
      omega
    · omega
  · rw [Nat.add_sub_cancel, z1_eq]
    by_cases e48 : c = 48
    · omega
    · rw [if_neg e48] at z
      omega
theorem wRi_1 {m c : Nat} {d e : Nat → Nat} (h : wRi 1 m d e) (hc : 48 ≤ c ∧ c ≤ 57) : wRi 2 m (z1 d (m - 1) (10 * d (m - 1) + c - 48)) e := by
  obtain ⟨h1, h2, h3, h4, h5, h6, h7⟩ := h
  have g3 := h3 (by omega)
  have g6 := h6 rfl
  refine ⟨by omega, fun z => by omega, fun z => g3, h4, fun j hj => ?_, fun z => by omega, fun z => ?_⟩
  · by_cases hj2 : j = m - 1
    · subst hj2
      rw [z1_eq]
      have := (h5 (m - 1) (by omega)).2
      omega
    · rw [z1n hj2]
      exact h5 j hj
  · rw [z1_eq]
    omega
theorem wRi_h {q m : Nat} {d e : Nat → Nat} (h : wRi q m d e) (hq : 1 ≤ q) : wRi 3 m d (z1 e (m - 1) 1) := by
  obtain ⟨h1, h2, h3, h4, h5, h6, h7⟩ := h
  refine ⟨by omega, fun z => by omega, fun z => h3 hq, h4, fun j hj => ?_, fun z => by omega, fun z => by omega⟩
  by_cases hj2 : j = m - 1
  · subst hj2
    rw [z1_eq]
    have := (h5 (m - 1) (by omega)).1
    omega
  · rw [z1n hj2]
    exact h5 j hj
theorem wRi_c {q m : Nat} {d e : Nat → Nat} (h : wRi q m d e) (hm : m < 10) : wRi 0 m d e := by
  obtain ⟨h1, h2, h3, h4, h5, h6, h7⟩ := h
  exact ⟨by omega, fun _ => by omega, fun z => by omega, h4, h5, fun z => by omega, fun z => by omega⟩
theorem vz_0 : vp_nar .boolean (nI 0) = nI 0 := by decide
theorem vz_1 : vp_nar .boolean (nI 1) = nI 1 := by decide
theorem eC_takesRiver (n : Nat) {S : zH} {F : Nat → Nat → Int32} {c t i : Nat} {s : Nat × Nat × (Nat → Nat) × (Nat → Nat)} (hT : zRv S t) (hc : c ≤ 126) (h : iRi t i s F) :
    ∃ F', (∀ a j, (a < t ∨ t + 4 < a) → F' a j = F a j) ∧ ((sRi s c = none ∧ F_X7_takes n (zwi S F) t (nI c) = some (nI 0, zwi S F')) ∨ ∃ s', sRi s c = some s' ∧ F_X7_takes n (zwi S F) t (nI c) = some (nI 1, zwi S F') ∧ iRi t (i + 1) s' F') := by
  obtain ⟨q, m, d, e⟩ := s
  obtain ⟨hw, h1, h2, h3⟩ := h
  dsimp only at hw h1 h2 h3
  obtain ⟨c1, c2, c3, c4, c5, c6, c7, c8, c9⟩ := hT
  have ed := fun h => eC_digitOf n h hc
  have hw' := hw
  obtain ⟨w1, w2, w3, w4, w5, w6, w7⟩ := hw'
  have sQ : sRi (q, m, d, e) c = if q = 0 then (if 48 ≤ c ∧ c ≤ 57 then some (if c = 48 then 2 else 1, m + 1, z1 d m (c - 48), z1 e m 0) else none) else if q = 1 ∧ 48 ≤ c ∧ c ≤ 57 then some (2, m, z1 d (m - 1) (10 * d (m - 1) + c - 48), e) else if q ≤ 2 ∧ c = 104 then some (3, m, d, z1 e (m - 1) 1) else if c = 44 ∧ m < 10 then some (0, m, d, e) else none := rfl
  rw [sQ]
  by_cases hq0 : q = 0
  · subst hq0
    have m9 := w2 rfl
    rw [if_pos rfl] at h1
    rw [if_pos rfl]
    by_cases a1 : 48 ≤ c ∧ c ≤ 57
    · simp only [a1, and_self, ↓reduceIte] at ed
      rw [if_pos a1]
      refine ⟨z2 (z2 (z2 (z2 F (t + 1) m (nI (c - 48))) (t + 2) m (nI 0)) t 4 (nI (m + 1))) t 5 (nI 1), fun a j z => by rw [z2n (by omega), z2n (by omega), z2n (by omega), z2n (by omega)], Or.inr ⟨_, rfl, ?_, wRi_0 hw a1, ?_, ?_, fun j hj => ?_⟩⟩
      · simp (disch := omega) only [F_X7_takes, F_X7_takesFirstDigit, zv, e_gi, e_gr, e_gl, e_si, e_sb, e_ai, e_ar, e_ti, e_ty, e_tz, e_cv, zc_some, zmo_some, zin_T, ↓reduceIte, zit_succ, zzr0, zzr1, true_and, and_true, and_self, or_false, false_or, or_true, true_or, not_true_eq_false, not_false_eq_true, zl0, zl1, zl2, zl3, zl4, zl5, zl6, zl7, zl8, zl9, zl10, zl11, zl12, zl20, zl24, zl31, zl36, zl40, zl42, zl44, zl48, zl49, zl50, zl55, zl57, zl60, zl97, zl99, zl100, zl102, zl104, zl109, zl113, zl114, zl119, zl126, zl255, zl400, zl1000, zl101, zl103, zl1001, zl1002, zl16, zl18, zl32, zl35, zl443, n_leT, n_leF, n_ltT, n_ltF, n_eqT, n_eqF, n_swT, n_swF, nI_add, n_sub, pk_mul, zd_n, z2_eq, z2n, c1, c2, c3, c6, c7, h1, h2, ed, n_m1, vz_0]
      · rw [z2_eq]
        dsimp only
        congr 1
        repeat (first | omega | split)
      · rw [z2n (by omega)]
        exact z2_eq _ _ _ _
      · dsimp only at hj ⊢
        by_cases hj2 : j = m
        · subst hj2
          rw [z1_eq, z1_eq]
          simp (disch := omega) only [z2_eq, z2n]
          exact ⟨trivial, trivial⟩
        · rw [z1n hj2, z1n hj2]
          simp (disch := omega) only [z2_eq, z2n]
          exact h3 j (by omega)
    · simp only [a1, ↓reduceIte] at ed
      rw [if_neg a1]
      refine ⟨F, fun _ _ _ => rfl, Or.inl ⟨rfl, ?_⟩⟩
      simp (disch := omega) only [F_X7_takes, F_X7_takesFirstDigit, F_X7_takesFirstDigit_J14, zv, e_gi, e_gr, e_gl, e_si, e_sb, e_ai, e_ar, e_ti, e_ty, e_tz, e_cv, zc_some, zmo_some, zin_T, ↓reduceIte, zit_succ, zzr0, zzr1, true_and, and_true, and_self, or_false, false_or, or_true, true_or, not_true_eq_false, not_false_eq_true, zl0, zl1, zl2, zl3, zl4, zl5, zl6, zl7, zl8, zl9, zl10, zl11, zl12, zl20, zl24, zl31, zl36, zl40, zl42, zl44, zl48, zl49, zl50, zl55, zl57, zl60, zl97, zl99, zl100, zl102, zl104, zl109, zl113, zl114, zl119, zl126, zl255, zl400, zl1000, zl101, zl103, zl1001, zl1002, zl16, zl18, zl32, zl35, zl443, n_leT, n_leF, n_ltT, n_ltF, n_eqT, n_eqF, n_swT, n_swF, nI_add, n_sub, pk_mul, zd_n, c1, h1, ed]
  · rw [if_neg hq0]
    have m1 := w3 (by omega)
    have g0 := (w5 (m - 1) (by omega)).1
    have g1 := (h3 (m - 1) (by omega)).1
    have el := fun h => eC_longer n h (x := d (m - 1)) (c := c) (M := 99) (by omega) hc (by omega)
    by_cases a1 : c = 44
    · rw [if_neg (by omega), if_neg (by omega)]
      rw [if_neg hq0] at h1
      obtain ⟨qq, hqq, hqq2⟩ : ∃ qq, qq = (if q ≤ 2 then 1 else 2) ∧ 1 ≤ qq ∧ qq ≤ 2 := ⟨_, rfl, by split <;> omega, by split <;> omega⟩
      rw [← hqq] at h1
      by_cases a2 : m < 10
      · rw [if_pos ⟨a1, a2⟩]
        refine ⟨z2 F t 5 (nI 0), fun a j z => by rw [z2n (by omega)], Or.inr ⟨_, rfl, ?_, wRi_c hw a2, ?_, ?_, fun j hj => ?_⟩⟩
        · simp (disch := omega) only [F_X7_takes, F_X7_takes_J40, F_X7_takes_J57, zv, e_gi, e_gr, e_gl, e_si, e_sb, e_ai, e_ar, e_ti, e_ty, e_tz, e_cv, zc_some, zmo_some, zin_T, ↓reduceIte, zit_succ, zzr0, zzr1, true_and, and_true, and_self, or_false, false_or, or_true, true_or, not_true_eq_false, not_false_eq_true, zl0, zl1, zl2, zl3, zl4, zl5, zl6, zl7, zl8, zl9, zl10, zl11, zl12, zl20, zl24, zl31, zl36, zl40, zl42, zl44, zl48, zl49, zl50, zl55, zl57, zl60, zl97, zl99, zl100, zl102, zl104, zl109, zl113, zl114, zl119, zl126, zl255, zl400, zl1000, zl101, zl103, zl1001, zl1002, zl16, zl18, zl32, zl35, zl443, n_leT, n_leF, n_ltT, n_ltF, n_eqT, n_eqF, n_swT, n_swF, nI_add, n_sub, pk_mul, zd_n, z2_eq, z2n, c1, h1, h2, a1]
        · exact z2_eq _ _ _ _
        · rw [z2n (by omega)]
          exact h2
        · dsimp only at hj ⊢
          rw [z2n (by omega), z2n (by omega)]
          exact h3 j hj
      · rw [if_neg (by omega)]
        refine ⟨z2 F t 5 (nI qq), fun a j z => by rw [z2n (by omega)], Or.inl ⟨rfl, ?_⟩⟩
        simp (disch := omega) only [F_X7_takes, F_X7_takes_J40, F_X7_takes_J57, zv, e_gi, e_gr, e_gl, e_si, e_sb, e_ai, e_ar, e_ti, e_ty, e_tz, e_cv, zc_some, zmo_some, zin_T, ↓reduceIte, zit_succ, zzr0, zzr1, true_and, and_true, and_self, or_false, false_or, or_true, true_or, not_true_eq_false, not_false_eq_true, zl0, zl1, zl2, zl3, zl4, zl5, zl6, zl7, zl8, zl9, zl10, zl11, zl12, zl20, zl24, zl31, zl36, zl40, zl42, zl44, zl48, zl49, zl50, zl55, zl57, zl60, zl97, zl99, zl100, zl102, zl104, zl109, zl113, zl114, zl119, zl126, zl255, zl400, zl1000, zl101, zl103, zl1001, zl1002, zl16, zl18, zl32, zl35, zl443, n_leT, n_leF, n_ltT, n_ltF, n_eqT, n_eqF, n_swT, n_swF, nI_add, n_sub, pk_mul, zd_n, z2_eq, z2n, c1, h1, h2, a1]
    · by_cases hq3 : q = 3
      · subst hq3
        rw [if_neg (by omega), if_neg (by omega), if_neg (by omega)]
        rw [if_neg (by omega), if_neg (by omega)] at h1
        refine ⟨F, fun _ _ _ => rfl, Or.inl ⟨rfl, ?_⟩⟩
        simp (disch := omega) only [F_X7_takes, F_X7_takes_J85, F_X7_takes_J86, zv, e_gi, e_gr, e_gl, e_si, e_sb, e_ai, e_ar, e_ti, e_ty, e_tz, e_cv, zc_some, zmo_some, zin_T, ↓reduceIte, zit_succ, zzr0, zzr1, true_and, and_true, and_self, or_false, false_or, or_true, true_or, not_true_eq_false, not_false_eq_true, zl0, zl1, zl2, zl3, zl4, zl5, zl6, zl7, zl8, zl9, zl10, zl11, zl12, zl20, zl24, zl31, zl36, zl40, zl42, zl44, zl48, zl49, zl50, zl55, zl57, zl60, zl97, zl99, zl100, zl102, zl104, zl109, zl113, zl114, zl119, zl126, zl255, zl400, zl1000, zl101, zl103, zl1001, zl1002, zl16, zl18, zl32, zl35, zl443, n_leT, n_leF, n_ltT, n_ltF, n_eqT, n_eqF, n_swT, n_swF, nI_add, n_sub, pk_mul, zd_n, c1, h1]
      · rw [if_neg hq0, if_pos (by omega)] at h1
        by_cases a2 : c = 104
        · rw [if_neg (by omega), if_pos ⟨by omega, a2⟩]
          refine ⟨z2 (z2 F (t + 2) (m - 1) (nI 1)) t 5 (nI 2), fun a j z => by rw [z2n (by omega), z2n (by omega)], Or.inr ⟨_, rfl, ?_, wRi_h hw (by omega), ?_, ?_, fun j hj => ?_⟩⟩
          · subst a2
            simp (disch := omega) only [F_X7_takes, F_X7_takes_J86, F_X7_takesMore, zv, e_gi, e_gr, e_gl, e_si, e_sb, e_ai, e_ar, e_ti, e_ty, e_tz, e_cv, zc_some, zmo_some, zin_T, ↓reduceIte, zit_succ, zzr0, zzr1, true_and, and_true, and_self, or_false, false_or, or_true, true_or, not_true_eq_false, not_false_eq_true, zl0, zl1, zl2, zl3, zl4, zl5, zl6, zl7, zl8, zl9, zl10, zl11, zl12, zl20, zl24, zl31, zl36, zl40, zl42, zl44, zl48, zl49, zl50, zl55, zl57, zl60, zl97, zl99, zl100, zl102, zl104, zl109, zl113, zl114, zl119, zl126, zl255, zl400, zl1000, zl101, zl103, zl1001, zl1002, zl16, zl18, zl32, zl35, zl443, n_leT, n_leF, n_ltT, n_ltF, n_eqT, n_eqF, n_swT, n_swF, nI_add, n_sub, pk_mul, zd_n, z2_eq, z2n, c1, c3, c7, h1, h2, vz_1]
          · exact z2_eq _ _ _ _
          · rw [z2n (by omega), z2n (by omega)]
            exact h2
          · dsimp only at hj ⊢
            by_cases hj2 : j = m - 1
            · subst hj2
              rw [z1_eq]
              simp (disch := omega) only [z2_eq, z2n]
              exact ⟨(h3 _ hj).1, trivial⟩
            · rw [z1n hj2]
              simp (disch := omega) only [z2_eq, z2n]
              exact h3 j hj
        · by_cases a3 : q = 1 ∧ 48 ≤ c ∧ c ≤ 57
          · rw [if_pos a3]
            have g6 := w6 a3.1
            have el2 := fun h => (el h).trans (by rw [if_pos ⟨a3.2.1, a3.2.2, by omega, by omega⟩])
            refine ⟨z2 F (t + 1) (m - 1) (nI (10 * d (m - 1) + c - 48)), fun a j z => by rw [z2n (by omega)], Or.inr ⟨_, rfl, ?_, wRi_1 (by rw [← a3.1]; exact hw) a3.2, ?_, ?_, fun j hj => ?_⟩⟩
            · simp (disch := omega) only [F_X7_takes, F_X7_takes_J86, F_X7_takesMore, zv, e_gi, e_gr, e_gl, e_si, e_sb, e_ai, e_ar, e_ti, e_ty, e_tz, e_cv, zc_some, zmo_some, zin_T, ↓reduceIte, zit_succ, zzr0, zzr1, true_and, and_true, and_self, or_false, false_or, or_true, true_or, not_true_eq_false, not_false_eq_true, zl0, zl1, zl2, zl3, zl4, zl5, zl6, zl7, zl8, zl9, zl10, zl11, zl12, zl20, zl24, zl31, zl36, zl40, zl42, zl44, zl48, zl49, zl50, zl55, zl57, zl60, zl97, zl99, zl100, zl102, zl104, zl109, zl113, zl114, zl119, zl126, zl255, zl400, zl1000, zl101, zl103, zl1001, zl1002, zl16, zl18, zl32, zl35, zl443, n_leT, n_leF, n_ltT, n_ltF, n_eqT, n_eqF, n_swT, n_swF, nI_add, n_sub, pk_mul, zd_n, z2_eq, z2n, c1, c2, c6, h1, h2, g1, el2, n_m1]
            · rw [z2n (by omega)]
              exact h1
            · rw [z2n (by omega)]
              exact h2
            · dsimp only at hj ⊢
              by_cases hj2 : j = m - 1
              · subst hj2
                rw [z1_eq]
                simp (disch := omega) only [z2_eq, z2n]
                exact ⟨trivial, (h3 _ hj).2⟩
              · rw [z1n hj2]
                simp (disch := omega) only [z2_eq, z2n]
                exact h3 j hj
          · rw [if_neg a3, if_neg (fun z => a2 z.2), if_neg (fun z => a1 z.1)]
            have el2 := fun h => (el h).trans (by rw [if_neg (fun z => by
              have hq12 : q = 1 ∨ q = 2 := by omega
              rcases hq12 with hq | hq
              · exact a3 ⟨hq, z.1, z.2.1⟩
              · have := w7 hq; omega)])
            refine ⟨F, fun _ _ _ => rfl, Or.inl ⟨rfl, ?_⟩⟩
            simp (disch := omega) only [F_X7_takes, F_X7_takes_J85, F_X7_takes_J86, F_X7_takesMore, zv, e_gi, e_gr, e_gl, e_si, e_sb, e_ai, e_ar, e_ti, e_ty, e_tz, e_cv, zc_some, zmo_some, zin_T, ↓reduceIte, zit_succ, zzr0, zzr1, true_and, and_true, and_self, or_false, false_or, or_true, true_or, not_true_eq_false, not_false_eq_true, zl0, zl1, zl2, zl3, zl4, zl5, zl6, zl7, zl8, zl9, zl10, zl11, zl12, zl20, zl24, zl31, zl36, zl40, zl42, zl44, zl48, zl49, zl50, zl55, zl57, zl60, zl97, zl99, zl100, zl102, zl104, zl109, zl113, zl114, zl119, zl126, zl255, zl400, zl1000, zl101, zl103, zl1001, zl1002, zl16, zl18, zl32, zl35, zl443, n_leT, n_leF, n_ltT, n_ltF, n_eqT, n_eqF, n_swT, n_swF, nI_add, n_sub, pk_mul, zd_n, c1, c2, c6, h1, h2, g1, el2]
theorem eC_firstRiver (n : Nat) {S : zH} {f : Nat → Nat → Int32} {cd : Nat → Nat} {pl t k : Nat} {s : Nat × Nat × (Nat → Nat) × (Nat → Nat)} (hn : 513 < n) (hT : zRv S t) (ht2 : 2 < t) (h1 : zsh S 1 = some (5, 2)) (h2 : zsh S 2 = some (20, 50)) (r1 : zr S 1 0 = some 2) (hpl : pl ≤ 50) (hp : f 1 1 = nI pl) (hcd : ∀ i, i < pl → f 2 i = nI (cd i) ∧ cd i ≤ 126) (hk : k ≤ pl) (ht : tst sRi (0, 0, fun _ => 0, fun _ => 0) cd k = some s) (hs : k = pl ∨ (k < pl ∧ sRi s (cd k) = none)) :
    ∃ F, F_X5_firstWrong n (zwi S f) 1 t = some (nI k, zwi S F) ∧ (k = pl → iRi t k s F) ∧ ∀ a j, (a < t ∨ t + 4 < a) → F a j = f a j := by
  have hT' := hT
  have c1 := hT.1
  have n1 : ¬ ((7, 6) : Nat × Nat) = (1, 2) := by decide
  obtain ⟨F, e1, e2, e3⟩ := eC_run n (S := S) (f := f) (F0 := z2 (z2 f t 4 (nI 0)) t 5 (nI 0)) (cd := cd) (pl := pl) (t := t) (w := 4) (k := k) (s0 := (0, 0, fun _ => 0, fun _ => 0)) (s := s) sRi (iRi t) (fun h c => F_X7_takes n h t c) hn hpl ht2 h1 hp (fun i hi => (hcd i hi).1) (fun kc F i hi q1 q2 => by
    unfold F_X5_firstWrong_B6; simp (disch := omega) only [zwi_sh, zv, e_gi, e_gr, e_gl, e_si, e_sb, e_ai, e_ar, e_ti, e_ty, e_tz, e_cv, zc_some, zmo_some, zin_T, ↓reduceIte, zit_succ, zzr0, zzr1, true_and, and_true, and_self, or_false, false_or, or_true, true_or, not_true_eq_false, not_false_eq_true, zl0, zl1, zl2, zl3, zl4, zl5, zl6, zl7, zl8, zl9, zl10, zl11, zl12, zl20, zl24, zl31, zl36, zl40, zl42, zl44, zl48, zl49, zl50, zl55, zl57, zl60, zl97, zl99, zl100, zl102, zl104, zl109, zl113, zl114, zl119, zl126, zl255, zl400, zl1000, zl101, zl103, zl1001, zl1002, zl16, zl18, zl32, zl35, zl443, n_leT, n_leF, n_ltT, n_ltF, n_eqT, n_eqF, n_swT, n_swF, nI_add, n_sub, pk_mul, zd_n, h1, h2, r1, c1, q1, q2, Option.some.injEq, n1]) (fun i s F hi hI => eC_takesRiver n hT' (hcd i hi).2 hI) ⟨wRi_i, z2_eq _ _ _ _, by rw [z2n (by omega)]; exact z2_eq _ _ _ _, fun j hj => by dsimp only at hj; omega⟩ (fun a j q => by rw [z2n (by omega), z2n (by omega)]) hk ht hs
  refine ⟨F, ?_, e2, e3⟩
  unfold F_X5_firstWrong
  simp (disch := omega) only [zwi_sh, F_X5_firstWrong_J4, F_X7_begin, zv, e_gi, e_gr, e_gl, e_si, e_sb, e_ai, e_ar, e_ti, e_ty, e_tz, e_cv, zc_some, zmo_some, zin_T, ↓reduceIte, zit_succ, zzr0, zzr1, true_and, and_true, and_self, or_false, false_or, or_true, true_or, not_true_eq_false, not_false_eq_true, zl0, zl1, zl2, zl3, zl4, zl5, zl6, zl7, zl8, zl9, zl10, zl11, zl12, zl20, zl24, zl31, zl36, zl40, zl42, zl44, zl48, zl49, zl50, zl55, zl57, zl60, zl97, zl99, zl100, zl102, zl104, zl109, zl113, zl114, zl119, zl126, zl255, zl400, zl1000, zl101, zl103, zl1001, zl1002, zl16, zl18, zl32, zl35, zl443, n_leT, n_leF, n_ltT, n_ltF, n_eqT, n_eqF, n_swT, n_swF, nI_add, n_sub, pk_mul, zd_n, c1, e1, Option.some.injEq, n1]
theorem eC_readsRiver (n : Nat) {S : zH} {f : Nat → Nat → Int32} {cd : Nat → Nat} {pl t k : Nat} {s : Nat × Nat × (Nat → Nat) × (Nat → Nat)} (hn : 513 < n) (hT : zRv S t) (ht2 : 2 < t) (h1 : zsh S 1 = some (5, 2)) (h2 : zsh S 2 = some (20, 50)) (r1 : zr S 1 0 = some 2) (hpl : pl ≤ 50) (hp : f 1 1 = nI pl) (hcd : ∀ i, i < pl → f 2 i = nI (cd i) ∧ cd i ≤ 126) (hk : k ≤ pl) (ht : tst sRi (0, 0, fun _ => 0, fun _ => 0) cd k = some s) (hs : k = pl ∨ (k < pl ∧ sRi s (cd k) = none)) :
    ∃ F, F_X5_reads n (zwi S f) 1 t = some (if k = pl ∧ 1 ≤ s.1 ∧ 4 ≤ s.2.1 then nI 1 else nI 0, zwi S F) ∧ (k = pl → iRi t k s F) ∧ ∀ a j, (a < t ∨ t + 4 < a) → F a j = f a j := by
  obtain ⟨F, e1, e2, e3⟩ := eC_firstRiver n hn hT ht2 h1 h2 r1 hpl hp hcd hk ht hs
  refine ⟨F, ?_, e2, e3⟩
  have c1 := hT.1
  have n1 : ¬ ((7, 6) : Nat × Nat) = (1, 2) := by decide
  have q : F 1 1 = nI pl := (e3 1 1 (by omega)).trans hp
  by_cases hkp : k = pl
  · obtain ⟨y1, q2, q3, -⟩ := e2 hkp
    have m10 := y1.2.2.2.1
    subst hkp
    by_cases h10 : 1 ≤ s.1
    · rw [if_neg (by omega)] at q2
      obtain ⟨qq, hqq, hqq2⟩ : ∃ qq, qq = (if s.1 ≤ 2 then 1 else 2) ∧ 1 ≤ qq ∧ qq ≤ 2 := ⟨_, rfl, by split <;> omega, by split <;> omega⟩
      rw [← hqq] at q2
      by_cases h4 : 4 ≤ s.2.1
      · rw [if_pos ⟨rfl, h10, h4⟩]
        simp (disch := omega) only [zwi_sh, F_X5_reads, F_X5_reads_J16, F_X5_reads_J24, F_X7_isWhole, F_X7_isWhole_J20, zv, e_gi, e_gr, e_gl, e_si, e_sb, e_ai, e_ar, e_ti, e_ty, e_tz, e_cv, zc_some, zmo_some, zin_T, ↓reduceIte, zit_succ, zzr0, zzr1, true_and, and_true, and_self, or_false, false_or, or_true, true_or, not_true_eq_false, not_false_eq_true, zl0, zl1, zl2, zl3, zl4, zl5, zl6, zl7, zl8, zl9, zl10, zl11, zl12, zl20, zl24, zl31, zl36, zl40, zl42, zl44, zl48, zl49, zl50, zl55, zl57, zl60, zl97, zl99, zl100, zl102, zl104, zl109, zl113, zl114, zl119, zl126, zl255, zl400, zl1000, zl101, zl103, zl1001, zl1002, zl16, zl18, zl32, zl35, zl443, n_leT, n_leF, n_ltT, n_ltF, n_eqT, n_eqF, n_swT, n_swF, nI_add, n_sub, pk_mul, zd_n, h1, c1, e1, q, q2, q3, Option.some.injEq, n1]
      · rw [if_neg (fun z => h4 z.2.2)]
        simp (disch := omega) only [zwi_sh, F_X5_reads, F_X5_reads_J16, F_X5_reads_J23, F_X5_reads_J24, F_X7_isWhole, F_X7_isWhole_J19, F_X7_isWhole_J20, zv, e_gi, e_gr, e_gl, e_si, e_sb, e_ai, e_ar, e_ti, e_ty, e_tz, e_cv, zc_some, zmo_some, zin_T, ↓reduceIte, zit_succ, zzr0, zzr1, true_and, and_true, and_self, or_false, false_or, or_true, true_or, not_true_eq_false, not_false_eq_true, zl0, zl1, zl2, zl3, zl4, zl5, zl6, zl7, zl8, zl9, zl10, zl11, zl12, zl20, zl24, zl31, zl36, zl40, zl42, zl44, zl48, zl49, zl50, zl55, zl57, zl60, zl97, zl99, zl100, zl102, zl104, zl109, zl113, zl114, zl119, zl126, zl255, zl400, zl1000, zl101, zl103, zl1001, zl1002, zl16, zl18, zl32, zl35, zl443, n_leT, n_leF, n_ltT, n_ltF, n_eqT, n_eqF, n_swT, n_swF, nI_add, n_sub, pk_mul, zd_n, h1, c1, e1, q, q2, q3, Option.some.injEq, n1]
    · rw [if_neg (fun z => h10 z.2.1)]
      rw [if_pos (by omega)] at q2
      simp (disch := omega) only [zwi_sh, F_X5_reads, F_X5_reads_J16, F_X5_reads_J23, F_X5_reads_J24, F_X7_isWhole, F_X7_isWhole_J19, F_X7_isWhole_J20, zv, e_gi, e_gr, e_gl, e_si, e_sb, e_ai, e_ar, e_ti, e_ty, e_tz, e_cv, zc_some, zmo_some, zin_T, ↓reduceIte, zit_succ, zzr0, zzr1, true_and, and_true, and_self, or_false, false_or, or_true, true_or, not_true_eq_false, not_false_eq_true, zl0, zl1, zl2, zl3, zl4, zl5, zl6, zl7, zl8, zl9, zl10, zl11, zl12, zl20, zl24, zl31, zl36, zl40, zl42, zl44, zl48, zl49, zl50, zl55, zl57, zl60, zl97, zl99, zl100, zl102, zl104, zl109, zl113, zl114, zl119, zl126, zl255, zl400, zl1000, zl101, zl103, zl1001, zl1002, zl16, zl18, zl32, zl35, zl443, n_leT, n_leF, n_ltT, n_ltF, n_eqT, n_eqF, n_swT, n_swF, nI_add, n_sub, pk_mul, zd_n, h1, c1, e1, q, q2, Option.some.injEq, n1]
  · rw [if_neg (fun z => hkp z.1)]
    simp (disch := omega) only [zwi_sh, F_X5_reads, F_X5_reads_J23, F_X5_reads_J24, zv, e_gi, e_gr, e_gl, e_si, e_sb, e_ai, e_ar, e_ti, e_ty, e_tz, e_cv, zc_some, zmo_some, zin_T, ↓reduceIte, zit_succ, zzr0, zzr1, true_and, and_true, and_self, or_false, false_or, or_true, true_or, not_true_eq_false, not_false_eq_true, zl0, zl1, zl2, zl3, zl4, zl5, zl6, zl7, zl8, zl9, zl10, zl11, zl12, zl20, zl24, zl31, zl36, zl40, zl42, zl44, zl48, zl49, zl50, zl55, zl57, zl60, zl97, zl99, zl100, zl102, zl104, zl109, zl113, zl114, zl119, zl126, zl255, zl400, zl1000, zl101, zl103, zl1001, zl1002, zl16, zl18, zl32, zl35, zl443, n_leT, n_leF, n_ltT, n_ltF, n_eqT, n_eqF, n_swT, n_swF, nI_add, n_sub, pk_mul, zd_n, h1, c1, e1, q]
/-- the reference reads a river -/
def jRi (i : Nat) (s : Nat × Nat × (Nat → Nat) × (Nat → Nat)) (F : Nat → Nat → Int32) : Prop := wRi s.1 s.2.1 s.2.2.1 s.2.2.2 ∧ F 85 42 = nI s.2.1 ∧ ∀ j, j < s.2.1 → F 113 j = nI (s.2.2.1 j) ∧ F 114 j = nI (s.2.2.2 j)
theorem eM_riv140 (n : Nat) {S : zH} {F : Nat → Nat → Int32} {c m : Nat} (hM : zMo S) (hc : c ≤ 126) (hm : m ≤ 10) (h : F 85 42 = nI m) : F_X11_nextRiver_J140 n (zwi S F) 85 (nI c) = some (if c = 44 ∧ m < 10 then nI 0 else -nI 1, zwi S F) := by
  have s67 := mo_s85 hM
  by_cases a1 : c = 44
  · by_cases a2 : m < 10
    · rw [if_pos ⟨a1, a2⟩]
      simp (disch := omega) only [F_X11_nextRiver_J140, F_X11_nextRiver_J160, zv, e_gi, e_gr, e_gl, e_si, e_sb, e_ai, e_ar, e_ti, e_ty, e_tz, e_cv, zc_some, zmo_some, zin_T, ↓reduceIte, zit_succ, zzr0, zzr1, true_and, and_true, and_self, or_false, false_or, or_true, true_or, not_true_eq_false, not_false_eq_true, zl0, zl1, zl2, zl3, zl4, zl5, zl6, zl7, zl8, zl9, zl10, zl11, zl12, zl20, zl24, zl31, zl36, zl40, zl42, zl44, zl48, zl49, zl50, zl55, zl57, zl60, zl97, zl99, zl100, zl102, zl104, zl109, zl113, zl114, zl119, zl126, zl255, zl400, zl1000, zl101, zl103, zl1001, zl1002, zl16, zl18, zl32, zl35, zl443, n_leT, n_leF, n_ltT, n_ltF, n_eqT, n_eqF, n_swT, n_swF, nI_add, n_sub, pk_mul, zd_n, s67, h]
    · rw [if_neg (by omega)]
      simp (disch := omega) only [F_X11_nextRiver_J140, F_X11_nextRiver_J159, F_X11_nextRiver_J160, zv, e_gi, e_gr, e_gl, e_si, e_sb, e_ai, e_ar, e_ti, e_ty, e_tz, e_cv, zc_some, zmo_some, zin_T, ↓reduceIte, zit_succ, zzr0, zzr1, true_and, and_true, and_self, or_false, false_or, or_true, true_or, not_true_eq_false, not_false_eq_true, zl0, zl1, zl2, zl3, zl4, zl5, zl6, zl7, zl8, zl9, zl10, zl11, zl12, zl20, zl24, zl31, zl36, zl40, zl42, zl44, zl48, zl49, zl50, zl55, zl57, zl60, zl97, zl99, zl100, zl102, zl104, zl109, zl113, zl114, zl119, zl126, zl255, zl400, zl1000, zl101, zl103, zl1001, zl1002, zl16, zl18, zl32, zl35, zl443, n_leT, n_leF, n_ltT, n_ltF, n_eqT, n_eqF, n_swT, n_swF, nI_add, n_sub, pk_mul, zd_n, s67, h]
  · rw [if_neg (by omega)]
    simp (disch := omega) only [F_X11_nextRiver_J140, F_X11_nextRiver_J159, F_X11_nextRiver_J160, zv, e_gi, e_gr, e_gl, e_si, e_sb, e_ai, e_ar, e_ti, e_ty, e_tz, e_cv, zc_some, zmo_some, zin_T, ↓reduceIte, zit_succ, zzr0, zzr1, true_and, and_true, and_self, or_false, false_or, or_true, true_or, not_true_eq_false, not_false_eq_true, zl0, zl1, zl2, zl3, zl4, zl5, zl6, zl7, zl8, zl9, zl10, zl11, zl12, zl20, zl24, zl31, zl36, zl40, zl42, zl44, zl48, zl49, zl50, zl55, zl57, zl60, zl97, zl99, zl100, zl102, zl104, zl109, zl113, zl114, zl119, zl126, zl255, zl400, zl1000, zl101, zl103, zl1001, zl1002, zl16, zl18, zl32, zl35, zl443, n_leT, n_leF, n_ltT, n_ltF, n_eqT, n_eqF, n_swT, n_swF, nI_add, n_sub, pk_mul, zd_n]
theorem eM_nextRiver (n : Nat) {S : zH} {F : Nat → Nat → Int32} {c i : Nat} {s : Nat × Nat × (Nat → Nat) × (Nat → Nat)} (hM : zMo S) (hc : c ≤ 126) (h : jRi i s F) :
    ∃ F', (∀ a j, ¬ mScr a j → F' a j = F a j) ∧ ((sRi s c = none ∧ F_X11_nextRiver n (zwi S F) 85 (nI s.1) (nI c) = some (-nI 1, zwi S F')) ∨ ∃ s', sRi s c = some s' ∧ F_X11_nextRiver n (zwi S F) 85 (nI s.1) (nI c) = some (nI s'.1, zwi S F') ∧ jRi (i + 1) s' F') := by
  obtain ⟨q, m, d, e⟩ := s
  obtain ⟨hw, h2, h3⟩ := h
  dsimp only at hw h2 h3 ⊢
  have s67 := mo_s85 hM
  have r43 := mo_r43 hM
  have s95 := mo_s113 hM
  have r44 := mo_r44 hM
  have s96 := mo_s114 hM
  have hw' := hw
  obtain ⟨w1, w2, w3, w4, w5, w6, w7⟩ := hw'
  have m39 : ∀ a j, ¬ mScr a j → a ≠ 113 ∧ a ≠ 114 ∧ ¬ (a = 85 ∧ j = 42) := fun a j q => by unfold mScr at q; omega
  have sQ : sRi (q, m, d, e) c = if q = 0 then (if 48 ≤ c ∧ c ≤ 57 then some (if c = 48 then 2 else 1, m + 1, z1 d m (c - 48), z1 e m 0) else none) else if q = 1 ∧ 48 ≤ c ∧ c ≤ 57 then some (2, m, z1 d (m - 1) (10 * d (m - 1) + c - 48), e) else if q ≤ 2 ∧ c = 104 then some (3, m, d, z1 e (m - 1) 1) else if c = 44 ∧ m < 10 then some (0, m, d, e) else none := rfl
  have ed := fun h => eM_digit n h hc
  rw [sQ]
  by_cases hq0 : q = 0
  · subst hq0
    have m9 := w2 rfl
    rw [if_pos rfl]
    by_cases a1 : 48 ≤ c ∧ c ≤ 57
    · simp only [a1, and_self, ↓reduceIte] at ed
      rw [if_pos a1]
      refine ⟨z2 (z2 (z2 F 113 m (nI (c - 48))) 114 m (nI 0)) 85 42 (nI (m + 1)), fun a j z => by have := m39 a j z; rw [z2n (by omega), z2n (by omega), z2n (by omega)], Or.inr ⟨_, rfl, ?_, wRi_0 hw a1, z2_eq _ _ _ _, fun j hj => ?_⟩⟩
      · by_cases e48 : c = 48
        · subst e48
          rw [if_pos rfl]
          simp (disch := omega) only [F_X11_nextRiver, F_X11_nextRiver_J44, F_X11_nextRiver_J70, zv, e_gi, e_gr, e_gl, e_si, e_sb, e_ai, e_ar, e_ti, e_ty, e_tz, e_cv, zc_some, zmo_some, zin_T, ↓reduceIte, zit_succ, zzr0, zzr1, true_and, and_true, and_self, or_false, false_or, or_true, true_or, not_true_eq_false, not_false_eq_true, zl0, zl1, zl2, zl3, zl4, zl5, zl6, zl7, zl8, zl9, zl10, zl11, zl12, zl20, zl24, zl31, zl36, zl40, zl42, zl44, zl48, zl49, zl50, zl55, zl57, zl60, zl97, zl99, zl100, zl102, zl104, zl109, zl113, zl114, zl119, zl126, zl255, zl400, zl1000, zl101, zl103, zl1001, zl1002, zl16, zl18, zl32, zl35, zl443, n_leT, n_leF, n_ltT, n_ltF, n_eqT, n_eqF, n_swT, n_swF, nI_add, n_sub, pk_mul, zd_n, z2_eq, z2n, s67, r43, s95, r44, s96, h2, ed, vz_0]
        · rw [if_neg e48]
          simp (disch := omega) only [F_X11_nextRiver, F_X11_nextRiver_J44, F_X11_nextRiver_J70, zv, e_gi, e_gr, e_gl, e_si, e_sb, e_ai, e_ar, e_ti, e_ty, e_tz, e_cv, zc_some, zmo_some, zin_T, ↓reduceIte, zit_succ, zzr0, zzr1, true_and, and_true, and_self, or_false, false_or, or_true, true_or, not_true_eq_false, not_false_eq_true, zl0, zl1, zl2, zl3, zl4, zl5, zl6, zl7, zl8, zl9, zl10, zl11, zl12, zl20, zl24, zl31, zl36, zl40, zl42, zl44, zl48, zl49, zl50, zl55, zl57, zl60, zl97, zl99, zl100, zl102, zl104, zl109, zl113, zl114, zl119, zl126, zl255, zl400, zl1000, zl101, zl103, zl1001, zl1002, zl16, zl18, zl32, zl35, zl443, n_leT, n_leF, n_ltT, n_ltF, n_eqT, n_eqF, n_swT, n_swF, nI_add, n_sub, pk_mul, zd_n, z2_eq, z2n, s67, r43, s95, r44, s96, h2, ed, vz_0]
      · dsimp only at hj ⊢
        by_cases hj2 : j = m
        · subst hj2
          rw [z1_eq, z1_eq]
          simp (disch := omega) only [z2_eq, z2n]
          exact ⟨trivial, trivial⟩
        · rw [z1n hj2, z1n hj2]
          simp (disch := omega) only [z2_eq, z2n]
          exact h3 j (by omega)
    · simp only [a1, ↓reduceIte] at ed
      rw [if_neg a1]
      refine ⟨z2 (z2 (z2 F 113 m (nI c - nI 48)) 114 m (nI 0)) 85 42 (nI m), fun a j z => by have := m39 a j z; rw [z2n (by omega), z2n (by omega), z2n (by omega)], Or.inl ⟨rfl, ?_⟩⟩
      have e48 : c ≠ 48 := by omega
      by_cases a4 : 48 ≤ c
      · simp (disch := omega) only [F_X11_nextRiver, F_X11_nextRiver_J44, F_X11_nextRiver_J70, zv, e_gi, e_gr, e_gl, e_si, e_sb, e_ai, e_ar, e_ti, e_ty, e_tz, e_cv, zc_some, zmo_some, zin_T, ↓reduceIte, zit_succ, zzr0, zzr1, true_and, and_true, and_self, or_false, false_or, or_true, true_or, not_true_eq_false, not_false_eq_true, zl0, zl1, zl2, zl3, zl4, zl5, zl6, zl7, zl8, zl9, zl10, zl11, zl12, zl20, zl24, zl31, zl36, zl40, zl42, zl44, zl48, zl49, zl50, zl55, zl57, zl60, zl97, zl99, zl100, zl102, zl104, zl109, zl113, zl114, zl119, zl126, zl255, zl400, zl1000, zl101, zl103, zl1001, zl1002, zl16, zl18, zl32, zl35, zl443, n_leT, n_leF, n_ltT, n_ltF, n_eqT, n_eqF, n_swT, n_swF, nI_add, n_sub, pk_mul, zd_n, z2_eq, z2n, s67, r43, s95, r44, s96, h2, ed, vz_0, Nat.add_zero]
      · simp (disch := omega) only [F_X11_nextRiver, F_X11_nextRiver_J44, F_X11_nextRiver_J70, zv, e_gi, e_gr, e_gl, e_si, e_sb, e_ai, e_ar, e_ti, e_ty, e_tz, e_cv, zc_some, zmo_some, zin_T, ↓reduceIte, zit_succ, zzr0, zzr1, true_and, and_true, and_self, or_false, false_or, or_true, true_or, not_true_eq_false, not_false_eq_true, zl0, zl1, zl2, zl3, zl4, zl5, zl6, zl7, zl8, zl9, zl10, zl11, zl12, zl20, zl24, zl31, zl36, zl40, zl42, zl44, zl48, zl49, zl50, zl55, zl57, zl60, zl97, zl99, zl100, zl102, zl104, zl109, zl113, zl114, zl119, zl126, zl255, zl400, zl1000, zl101, zl103, zl1001, zl1002, zl16, zl18, zl32, zl35, zl443, n_leT, n_leF, n_ltT, n_ltF, n_eqT, n_eqF, n_swT, n_swF, nI_add, n_sub, pk_mul, zd_n, z2_eq, z2n, s67, r43, s95, r44, s96, h2, ed, vz_0, Nat.add_zero]
  · rw [if_neg hq0]
    have m1 := w3 (by omega)
    have g0 := (w5 (m - 1) (by omega)).1
    have g1 := (h3 (m - 1) (by omega)).1
    have eJ := eM_riv140 n hM hc w4 h2
    by_cases a2 : q = 1 ∧ 48 ≤ c ∧ c ≤ 57
    · obtain ⟨rfl, b1, b2⟩ := a2
      have g6 := w6 rfl
      rw [if_pos ⟨rfl, b1, b2⟩]
      have e9 : 48 ≤ c ∧ c ≤ 57 := ⟨b1, b2⟩
      simp only [e9, and_self, ↓reduceIte] at ed
      refine ⟨z2 F 113 (m - 1) (nI (10 * d (m - 1) + c - 48)), fun a j z => by have := m39 a j z; rw [z2n (by omega)], Or.inr ⟨_, rfl, ?_, wRi_1 hw ⟨b1, b2⟩, ?_, fun j hj => ?_⟩⟩
      · simp (disch := omega) only [F_X11_nextRiver, zv, e_gi, e_gr, e_gl, e_si, e_sb, e_ai, e_ar, e_ti, e_ty, e_tz, e_cv, zc_some, zmo_some, zin_T, ↓reduceIte, zit_succ, zzr0, zzr1, true_and, and_true, and_self, or_false, false_or, or_true, true_or, not_true_eq_false, not_false_eq_true, zl0, zl1, zl2, zl3, zl4, zl5, zl6, zl7, zl8, zl9, zl10, zl11, zl12, zl20, zl24, zl31, zl36, zl40, zl42, zl44, zl48, zl49, zl50, zl55, zl57, zl60, zl97, zl99, zl100, zl102, zl104, zl109, zl113, zl114, zl119, zl126, zl255, zl400, zl1000, zl101, zl103, zl1001, zl1002, zl16, zl18, zl32, zl35, zl443, n_leT, n_leF, n_ltT, n_ltF, n_eqT, n_eqF, n_swT, n_swF, nI_add, n_sub, pk_mul, zd_n, s67, r43, s95, h2, ed, g1]
      · dsimp only
        rw [z2n (by omega)]
        exact h2
      · dsimp only at hj ⊢
        by_cases hj2 : j = m - 1
        · subst hj2
          rw [z1_eq]
          simp (disch := omega) only [z2_eq, z2n]
          exact ⟨trivial, (h3 _ hj).2⟩
        · rw [z1n hj2]
          simp (disch := omega) only [z2_eq, z2n]
          exact h3 j hj
    · rw [if_neg a2]
      have key : F_X11_nextRiver n (zwi S F) 85 (nI q) (nI c) = F_X11_nextRiver_J115 n (zwi S F) 85 (nI q) (nI c) := by
        by_cases hq1 : q = 1
        · subst hq1
          have e9 : ¬ (48 ≤ c ∧ c ≤ 57) := fun z => a2 ⟨rfl, z⟩
          simp only [e9, ↓reduceIte] at ed
          simp (disch := omega) only [F_X11_nextRiver, zv, e_gi, e_gr, e_gl, e_si, e_sb, e_ai, e_ar, e_ti, e_ty, e_tz, e_cv, zc_some, zmo_some, zin_T, ↓reduceIte, zit_succ, zzr0, zzr1, true_and, and_true, and_self, or_false, false_or, or_true, true_or, not_true_eq_false, not_false_eq_true, zl0, zl1, zl2, zl3, zl4, zl5, zl6, zl7, zl8, zl9, zl10, zl11, zl12, zl20, zl24, zl31, zl36, zl40, zl42, zl44, zl48, zl49, zl50, zl55, zl57, zl60, zl97, zl99, zl100, zl102, zl104, zl109, zl113, zl114, zl119, zl126, zl255, zl400, zl1000, zl101, zl103, zl1001, zl1002, zl16, zl18, zl32, zl35, zl443, n_leT, n_leF, n_ltT, n_ltF, n_eqT, n_eqF, n_swT, n_swF, nI_add, n_sub, pk_mul, zd_n, ed]
        · simp (disch := omega) only [F_X11_nextRiver, zv, e_gi, e_gr, e_gl, e_si, e_sb, e_ai, e_ar, e_ti, e_ty, e_tz, e_cv, zc_some, zmo_some, zin_T, ↓reduceIte, zit_succ, zzr0, zzr1, true_and, and_true, and_self, or_false, false_or, or_true, true_or, not_true_eq_false, not_false_eq_true, zl0, zl1, zl2, zl3, zl4, zl5, zl6, zl7, zl8, zl9, zl10, zl11, zl12, zl20, zl24, zl31, zl36, zl40, zl42, zl44, zl48, zl49, zl50, zl55, zl57, zl60, zl97, zl99, zl100, zl102, zl104, zl109, zl113, zl114, zl119, zl126, zl255, zl400, zl1000, zl101, zl103, zl1001, zl1002, zl16, zl18, zl32, zl35, zl443, n_leT, n_leF, n_ltT, n_ltF, n_eqT, n_eqF, n_swT, n_swF, nI_add, n_sub, pk_mul, zd_n]
      rw [key]
      by_cases a3 : q ≤ 2 ∧ c = 104
      · rw [if_pos a3]
        obtain ⟨b1, rfl⟩ := a3
        refine ⟨z2 F 114 (m - 1) (nI 1), fun a j z => by have := m39 a j z; rw [z2n (by omega)], Or.inr ⟨_, rfl, ?_, wRi_h hw (by omega), ?_, fun j hj => ?_⟩⟩
        · simp (disch := omega) only [F_X11_nextRiver_J115, zv, e_gi, e_gr, e_gl, e_si, e_sb, e_ai, e_ar, e_ti, e_ty, e_tz, e_cv, zc_some, zmo_some, zin_T, ↓reduceIte, zit_succ, zzr0, zzr1, true_and, and_true, and_self, or_false, false_or, or_true, true_or, not_true_eq_false, not_false_eq_true, zl0, zl1, zl2, zl3, zl4, zl5, zl6, zl7, zl8, zl9, zl10, zl11, zl12, zl20, zl24, zl31, zl36, zl40, zl42, zl44, zl48, zl49, zl50, zl55, zl57, zl60, zl97, zl99, zl100, zl102, zl104, zl109, zl113, zl114, zl119, zl126, zl255, zl400, zl1000, zl101, zl103, zl1001, zl1002, zl16, zl18, zl32, zl35, zl443, n_leT, n_leF, n_ltT, n_ltF, n_eqT, n_eqF, n_swT, n_swF, nI_add, n_sub, pk_mul, zd_n, s67, r44, s96, h2, vz_1]
        · dsimp only
          rw [z2n (by omega)]
          exact h2
        · dsimp only at hj ⊢
          by_cases hj2 : j = m - 1
          · subst hj2
            rw [z1_eq]
            simp (disch := omega) only [z2_eq, z2n]
            exact ⟨(h3 _ hj).1, trivial⟩
          · rw [z1n hj2]
            simp (disch := omega) only [z2_eq, z2n]
            exact h3 j hj
      · rw [if_neg a3]
        have key2 : F_X11_nextRiver_J115 n (zwi S F) 85 (nI q) (nI c) = F_X11_nextRiver_J140 n (zwi S F) 85 (nI c) := by
          by_cases hq3 : q = 3
          · subst hq3
            simp (disch := omega) only [F_X11_nextRiver_J115, zv, e_gi, e_gr, e_gl, e_si, e_sb, e_ai, e_ar, e_ti, e_ty, e_tz, e_cv, zc_some, zmo_some, zin_T, ↓reduceIte, zit_succ, zzr0, zzr1, true_and, and_true, and_self, or_false, false_or, or_true, true_or, not_true_eq_false, not_false_eq_true, zl0, zl1, zl2, zl3, zl4, zl5, zl6, zl7, zl8, zl9, zl10, zl11, zl12, zl20, zl24, zl31, zl36, zl40, zl42, zl44, zl48, zl49, zl50, zl55, zl57, zl60, zl97, zl99, zl100, zl102, zl104, zl109, zl113, zl114, zl119, zl126, zl255, zl400, zl1000, zl101, zl103, zl1001, zl1002, zl16, zl18, zl32, zl35, zl443, n_leT, n_leF, n_ltT, n_ltF, n_eqT, n_eqF, n_swT, n_swF, nI_add, n_sub, pk_mul, zd_n]
          · have hc4 : c ≠ 104 := fun z => a3 ⟨by omega, z⟩
            simp (disch := omega) only [F_X11_nextRiver_J115, zv, e_gi, e_gr, e_gl, e_si, e_sb, e_ai, e_ar, e_ti, e_ty, e_tz, e_cv, zc_some, zmo_some, zin_T, ↓reduceIte, zit_succ, zzr0, zzr1, true_and, and_true, and_self, or_false, false_or, or_true, true_or, not_true_eq_false, not_false_eq_true, zl0, zl1, zl2, zl3, zl4, zl5, zl6, zl7, zl8, zl9, zl10, zl11, zl12, zl20, zl24, zl31, zl36, zl40, zl42, zl44, zl48, zl49, zl50, zl55, zl57, zl60, zl97, zl99, zl100, zl102, zl104, zl109, zl113, zl114, zl119, zl126, zl255, zl400, zl1000, zl101, zl103, zl1001, zl1002, zl16, zl18, zl32, zl35, zl443, n_leT, n_leF, n_ltT, n_ltF, n_eqT, n_eqF, n_swT, n_swF, nI_add, n_sub, pk_mul, zd_n]
        rw [key2, eJ]
        by_cases a1 : c = 44 ∧ m < 10
        · rw [if_pos a1, if_pos a1]
          exact ⟨F, fun _ _ _ => rfl, Or.inr ⟨_, rfl, rfl, wRi_c hw a1.2, h2, h3⟩⟩
        · rw [if_neg a1, if_neg a1]
          exact ⟨F, fun _ _ _ => rfl, Or.inl ⟨rfl, rfl⟩⟩
theorem eM_readRiver (n : Nat) {S : zH} {f : Nat → Nat → Int32} {cd : Nat → Nat} {pl k : Nat} {s : Nat × Nat × (Nat → Nat) × (Nat → Nat)} (hn : 513 < n) (hM : zMo S) (hpl : pl ≤ 50) (hp : f 85 27 = nI pl) (hcd : ∀ i, i < pl → f 105 i = nI (cd i) ∧ cd i ≤ 126) (hk : k ≤ pl) (ht : tst sRi (0, 0, fun _ => 0, fun _ => 0) cd k = some s) (hs : k = pl ∨ (k < pl ∧ sRi s (cd k) = none)) :
    ∃ F, F_X11_readPage n (zwi S f) 85 (nI 2) = some ((), zwi S F) ∧ F 85 36 = nI k ∧ F 85 37 = (if k = pl ∧ 1 ≤ s.1 ∧ 4 ≤ s.2.1 then nI 1 else nI 0) ∧ (k = pl → jRi k s F) ∧ ∀ a j, ¬ mScr a j → F a j = f a j := by
  have s67 := mo_s85 hM
  have r38 := mo_r38 hM
  have s92 := mo_s110 hM
  have m27 : ¬ mScr 85 27 := fun z => by unfold mScr at z; omega
  obtain ⟨F0, hF0⟩ : ∃ F0, F0 = z2 (z2 (z2 f 110 5 (nI 0)) 85 39 (nI 0)) 85 42 (nI 0) := ⟨_, rfl⟩
  have f0 : ∀ a j, ¬ mScr a j → F0 a j = f a j := fun a j q => by
    unfold mScr at q
    rw [hF0, z2n (by omega), z2n (by omega), z2n (by omega)]
  have f42 : F0 85 42 = nI 0 := by
    rw [hF0]
    exact z2_eq _ _ _ _
  obtain ⟨F, e1, e2, e3, e4⟩ := eM_run n (S := S) (f := f) (F0 := F0) (cd := cd) (pl := pl) (v := 2) (k := k) (s0 := (0, 0, fun _ => 0, fun _ => 0)) (s := s) sRi (fun i s F => jRi i s F ∧ True) (fun h x c => F_X11_nextRiver n h 85 x c) (fun s => s.1) hn hpl hM hp (fun i hi => (hcd i hi).1) (fun i s F hJ => by have := hJ.1.1.1; omega) (fun kc F x i hi q1 q2 => by unfold F_X11_readPage_B24; simp (disch := omega) only [zv, e_gi, e_gr, e_gl, e_si, e_sb, e_ai, e_ar, e_ti, e_ty, e_tz, e_cv, zc_some, zmo_some, zin_T, ↓reduceIte, zit_succ, zzr0, zzr1, true_and, and_true, and_self, or_false, false_or, or_true, true_or, not_true_eq_false, not_false_eq_true, zl0, zl1, zl2, zl3, zl4, zl5, zl6, zl7, zl8, zl9, zl10, zl11, zl12, zl20, zl24, zl31, zl36, zl40, zl42, zl44, zl48, zl49, zl50, zl55, zl57, zl60, zl97, zl99, zl100, zl102, zl104, zl109, zl113, zl114, zl119, zl126, zl255, zl400, zl1000, zl101, zl103, zl1001, zl1002, zl16, zl18, zl32, zl35, zl443, n_leT, n_leF, n_ltT, n_ltF, n_eqT, n_eqF, n_swT, n_swF, nI_add, n_sub, pk_mul, zd_n, s67, mo_r28 hM, mo_s105 hM, q1, q2]) (fun i s F hi hJ => by
    obtain ⟨F', g1, g2⟩ := eM_nextRiver n hM (hcd i hi).2 hJ.1
    refine ⟨F', g1, ?_⟩
    rcases g2 with g2 | ⟨s', g2, g3, g4⟩
    · exact Or.inl g2
    · exact Or.inr ⟨s', g2, g3, g4, trivial⟩) ⟨⟨wRi_i, f42, fun j hj => by dsimp only at hj; omega⟩, trivial⟩ f0 hk ht hs
  have main : F_X11_readPage n (zwi S f) 85 (nI 2) = F_X11_readPage_L24 n (zwi S F0) 85 (nI 2) (nI 0) (nI 0) (nI 1) := by
    unfold F_X11_readPage
    simp (disch := omega) only [zv, e_gi, e_gr, e_gl, e_si, e_sb, e_ai, e_ar, e_ti, e_ty, e_tz, e_cv, zc_some, zmo_some, zin_T, ↓reduceIte, zit_succ, zzr0, zzr1, true_and, and_true, and_self, or_false, false_or, or_true, true_or, not_true_eq_false, not_false_eq_true, zl0, zl1, zl2, zl3, zl4, zl5, zl6, zl7, zl8, zl9, zl10, zl11, zl12, zl20, zl24, zl31, zl36, zl40, zl42, zl44, zl48, zl49, zl50, zl55, zl57, zl60, zl97, zl99, zl100, zl102, zl104, zl109, zl113, zl114, zl119, zl126, zl255, zl400, zl1000, zl101, zl103, zl1001, zl1002, zl16, zl18, zl32, zl35, zl443, n_leT, n_leF, n_ltT, n_ltF, n_eqT, n_eqF, n_swT, n_swF, nI_add, n_sub, pk_mul, zd_n, s67, r38, s92]
    rw [← hF0]
  by_cases hkp : k = pl
  · obtain ⟨⟨j1, j2, j3⟩, -⟩ := e3 hkp
    have m10 := j1.2.2.2.1
    have ee := eM_end n (S := S) (F := F) (v := 2) (q := s.1) (k := k) (pl := pl) (mp := s.2.1) hM (by omega) e2 hk hpl ((e4 85 27 m27).trans hp) (fun z => ⟨j2, m10⟩)
    refine ⟨_, main.trans (e1.trans ee), ?_, ?_, fun hkp => ?_, fun a j q => ?_⟩
    · rw [z2n (by omega), z2n (by omega)]
      exact z2_eq _ _ _ _
    · rw [z2n (by omega), z2_eq]
      by_cases h : k = pl ∧ 1 ≤ s.1 ∧ 4 ≤ s.2.1
      · rw [if_pos h, if_pos ⟨h.1, Or.inr (Or.inr ⟨rfl, by omega, by omega⟩)⟩]
      · rw [if_neg h, if_neg (fun z => by omega)]
    · refine ⟨j1, ?_, fun j hj => ?_⟩
      · rw [z2n (by omega), z2n (by omega), z2n (by omega)]
        exact j2
      · rw [z2n (by omega), z2n (by omega), z2n (by omega), z2n (by omega), z2n (by omega), z2n (by omega)]
        exact j3 j hj
    · unfold mScr at q
      rw [z2n (by omega), z2n (by omega), z2n (by omega)]
      exact e4 a j (by unfold mScr; exact q)
  · have ee : F_X11_readPage_J128 n (zwi S F) 85 (nI 2) (nI s.1) (nI k) = some ((), zwi S (z2 (z2 (z2 F 85 36 (nI k)) 85 37 (nI 0)) 110 5 (nI 0))) := by
      have q27 := (e4 85 27 m27).trans hp
      have q11 : s.1 ≠ 11 := by
        have : s.1 ≤ 3 := (tst_inv (st := sRi) (s0 := (0, 0, fun _ => 0, fun _ => 0)) (cd := cd) (P := fun i s => s.1 ≤ 3) (by dsimp only; omega) (fun i a b hi ha hb => by
          unfold sRi at hb
          by_cases z1 : a.1 = 0
          · rw [if_pos z1] at hb
            by_cases z2 : 48 ≤ cd i ∧ cd i ≤ 57
            · rw [if_pos z2] at hb
              cases hb
              dsimp only
              split <;> omega
            · rw [if_neg z2] at hb
              cases hb
          · rw [if_neg z1] at hb
            by_cases z2 : a.1 = 1 ∧ 48 ≤ cd i ∧ cd i ≤ 57
            · rw [if_pos z2] at hb
              cases hb
              dsimp only
              omega
            · rw [if_neg z2] at hb
              by_cases z3 : a.1 ≤ 2 ∧ cd i = 104
              · rw [if_pos z3] at hb
                cases hb
                dsimp only
                omega
              · rw [if_neg z3] at hb
                by_cases z4 : cd i = 44 ∧ a.2.1 < 10
                · rw [if_pos z4] at hb
                  cases hb
                  dsimp only
                  omega
                · rw [if_neg z4] at hb
                  cases hb) ht)
        omega
      simp (disch := omega) only [F_X11_readPage_J128, F_X11_readPage_J184, F_X11_readPage_J185, F_X11_readPage_J204, zv, e_gi, e_gr, e_gl, e_si, e_sb, e_ai, e_ar, e_ti, e_ty, e_tz, e_cv, zc_some, zmo_some, zin_T, ↓reduceIte, zit_succ, zzr0, zzr1, true_and, and_true, and_self, or_false, false_or, or_true, true_or, not_true_eq_false, not_false_eq_true, zl0, zl1, zl2, zl3, zl4, zl5, zl6, zl7, zl8, zl9, zl10, zl11, zl12, zl20, zl24, zl31, zl36, zl40, zl42, zl44, zl48, zl49, zl50, zl55, zl57, zl60, zl97, zl99, zl100, zl102, zl104, zl109, zl113, zl114, zl119, zl126, zl255, zl400, zl1000, zl101, zl103, zl1001, zl1002, zl16, zl18, zl32, zl35, zl443, n_leT, n_leF, n_ltT, n_ltF, n_eqT, n_eqF, n_swT, n_swF, nI_add, n_sub, pk_mul, zd_n, z2_eq, z2n, s67, r38, s92, q27]
    refine ⟨_, main.trans (e1.trans ee), ?_, ?_, fun z => absurd z hkp, fun a j q => ?_⟩
    · rw [z2n (by omega), z2n (by omega)]
      exact z2_eq _ _ _ _
    · rw [z2n (by omega), z2_eq, if_neg (fun z => hkp z.1)]
    · unfold mScr at q
      rw [z2n (by omega), z2n (by omega), z2n (by omega)]
      exact e4 a j (by unfold mScr; exact q)
