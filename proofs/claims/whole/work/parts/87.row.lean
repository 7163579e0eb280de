/-! ===== the text of a row: at, items, doings, ticks ===== -/
theorem z1n {α : Type} {f : Nat → α} {k : Nat} {v : α} {j : Nat} (h : j ≠ k) : z1 f k v j = f j := if_neg h
def sRo (s : Nat × Nat × (Nat → Nat) × (Nat → Nat)) (c : Nat) : Option (Nat × Nat × (Nat → Nat) × (Nat → Nat)) :=
  if s.1 = 0 then (if 48 ≤ c ∧ c ≤ 55 then some (1, s.2.1, z1 s.2.2.1 s.2.1 (c - 48), s.2.2.2) else none)
  else if s.1 = 1 then (if c = 42 then some (2, s.2.1, s.2.2.1, s.2.2.2) else none)
  else if s.1 = 2 then (if 49 ≤ c ∧ c ≤ 57 then some (3, s.2.1 + 1, s.2.2.1, z1 s.2.2.2 s.2.1 (c - 48)) else none)
  else if s.1 = 3 ∧ 48 ≤ c ∧ c ≤ 57 ∧ 10 * s.2.2.2 (s.2.1 - 1) + c - 48 ≤ 60 then some (4, s.2.1, s.2.2.1, z1 s.2.2.2 (s.2.1 - 1) (10 * s.2.2.2 (s.2.1 - 1) + c - 48))
  else if c = 44 ∧ s.2.1 < 6 then some (0, s.2.1, s.2.2.1, s.2.2.2) else none
def wRo (q m : Nat) (d e : Nat → Nat) : Prop := q ≤ 4 ∧ (q ≤ 2 → m ≤ 5) ∧ (3 ≤ q → 1 ≤ m) ∧ m ≤ 6 ∧ (∀ j, j < m → d j < 8 ∧ e j ≤ 60) ∧ (q = 1 ∨ q = 2 → d m < 8) ∧ (q = 3 → 1 ≤ e (m - 1) ∧ e (m - 1) ≤ 9) ∧ (q = 4 → 10 ≤ e (m - 1))
def iRo (t i : Nat) (s : Nat × Nat × (Nat → Nat) × (Nat → Nat)) (F : Nat → Nat → Int32) : Prop := wRo s.1 s.2.1 s.2.2.1 s.2.2.2 ∧ F t 3 = nI (if s.1 ≤ 3 then s.1 else 3) ∧ F t 2 = nI (if s.1 = 1 ∨ s.1 = 2 then s.2.1 + 1 else s.2.1) ∧ (∀ j, j < s.2.1 → F (t + 1) j = nI (s.2.2.1 j) ∧ F (t + 2) j = nI (s.2.2.2 j)) ∧ (s.1 = 1 ∨ s.1 = 2 → F (t + 1) s.2.1 = nI (s.2.2.1 s.2.1))
theorem wRo_i : wRo 0 0 (fun _ => 0) (fun _ => 0) := ⟨by omega, fun _ => by omega, fun z => by omega, by omega, fun j hj => by omega, fun z => by omega, fun z => by omega, fun z => by omega⟩
theorem wRo_0 {m c : Nat} {d e : Nat → Nat} (h : wRo 0 m d e) (hc : 48 ≤ c ∧ c ≤ 55) : wRo 1 m (z1 d m (c - 48)) e := by
  obtain ⟨h1, h2, h3, h4, h5, h6, h7, h8⟩ := h
  refine ⟨by omega, fun _ => h2 (by omega), fun z => by omega, h4, fun j hj => ?_, fun _ => ?_, fun z => by omega, fun z => by omega⟩
  · rw [z1n (by omega)]
    exact h5 j hj
  · rw [z1_eq]
    omega
theorem wRo_1 {m : Nat} {d e : Nat → Nat} (h : wRo 1 m d e) : wRo 2 m d e := by
  obtain ⟨h1, h2, h3, h4, h5, h6, h7, h8⟩ := h
  exact ⟨by omega, fun _ => h2 (by omega), fun z => by omega, h4, h5, fun _ => h6 (Or.inl rfl), fun z => by omega, fun z => by omega⟩
theorem wRo_2 {m c : Nat} {d e : Nat → Nat} (h : wRo 2 m d e) (hc : 49 ≤ c ∧ c ≤ 57) : wRo 3 (m + 1) d (z1 e m (c - 48)) := by
  obtain ⟨h1, h2, h3, h4, h5, h6, h7, h8⟩ := h
  have := h2 (by omega)
  refine ⟨by omega, fun z => by omega, fun z => by omega, by omega, fun j hj => ?_, fun z => by omega, fun _ => ?_, fun z => by omega⟩
  · by_cases hj2 : j = m
    · subst hj2
      rw [z1_eq]
      have := h6 (Or.inr rfl)
      omega
    · rw [z1n hj2]
      exact h5 j (by omega)
  · rw [Nat.add_sub_cancel, z1_eq]
    omega
theorem wRo_3 {m c : Nat} {d e : Nat → Nat} (h : wRo 3 m d e) (hc : 48 ≤ c ∧ c ≤ 57 ∧ 10 * e (m - 1) + c - 48 ≤ 60) : wRo 4 m d (z1 e (m - 1) (10 * e (m - 1) + c - 48)) := by
  obtain ⟨h1, h2, h3, h4, h5, h6, h7, h8⟩ := h
  have g3 := h3 (by omega)
  have g7 := h7 rfl
  refine ⟨by omega, fun z => by omega, fun _ => g3, h4, fun j hj => ?_, fun z => by omega, fun z => by omega, fun _ => ?_⟩
  · by_cases hj2 : j = m - 1
    · subst hj2
      rw [z1_eq]
      have := (h5 (m - 1) (by omega)).1
      omega
    · rw [z1n hj2]
      exact h5 j hj
  · rw [z1_eq]
    omega
theorem wRo_c {q m : Nat} {d e : Nat → Nat} (h : wRo q m d e) (hm : m < 6) : wRo 0 m d e := by
  obtain ⟨h1, h2, h3, h4, h5, h6, h7, h8⟩ := h
  exact ⟨by omega, fun _ => by omega, fun z => by omega, h4, h5, fun z => by omega, fun z => by omega, fun z => by omega⟩
theorem eC_longer (n : Nat) (h : zH) {x c M : Nat} (hx : x ≤ 99) (hc : c ≤ 126) (hM : M ≤ 99) : F_X9_longer n h (nI x) (nI c) (nI M) = some (if 48 ≤ c ∧ c ≤ 57 ∧ x ≠ 0 ∧ 10 * x + c - 48 ≤ M then nI (10 * x + c - 48) else -nI 1, h) := by
  have ed := eC_digitOf n h hc
  unfold F_X9_longer
  by_cases h1 : 48 ≤ c ∧ c ≤ 57
  · rw [if_pos h1] at ed
    by_cases h2 : x = 0
    · subst h2
      rw [if_neg (fun z => z.2.2.1 rfl)]
      simp (disch := omega) only [F_X9_longer_J24, zv, e_gi, e_gr, e_gl, e_si, e_sb, e_ai, e_ar, e_ti, e_ty, e_tz, e_cv, zc_some, zmo_some, zin_T, ↓reduceIte, zit_succ, zzr0, zzr1, true_and, and_true, and_self, or_false, false_or, or_true, true_or, not_true_eq_false, not_false_eq_true, zl0, zl1, zl2, zl3, zl4, zl5, zl6, zl7, zl8, zl9, zl10, zl11, zl12, zl20, zl24, zl31, zl36, zl40, zl42, zl44, zl48, zl49, zl50, zl55, zl57, zl60, zl97, zl99, zl100, zl102, zl104, zl109, zl113, zl114, zl119, zl126, zl255, zl400, zl1000, zl101, zl103, zl1001, zl1002, zl16, zl18, zl32, zl35, zl443, n_leT, n_leF, n_ltT, n_ltF, n_eqT, n_eqF, n_swT, n_swF, nI_add, n_sub, pk_mul, zd_n, ed, n_m1]
    · have e : x * 10 + (c - 48) = 10 * x + c - 48 := by omega
      by_cases h3 : 10 * x + c - 48 ≤ M
      · rw [if_pos ⟨h1.1, h1.2, h2, h3⟩]
        simp (disch := omega) only [zv, e_gi, e_gr, e_gl, e_si, e_sb, e_ai, e_ar, e_ti, e_ty, e_tz, e_cv, zc_some, zmo_some, zin_T, ↓reduceIte, zit_succ, zzr0, zzr1, true_and, and_true, and_self, or_false, false_or, or_true, true_or, not_true_eq_false, not_false_eq_true, zl0, zl1, zl2, zl3, zl4, zl5, zl6, zl7, zl8, zl9, zl10, zl11, zl12, zl20, zl24, zl31, zl36, zl40, zl42, zl44, zl48, zl49, zl50, zl55, zl57, zl60, zl97, zl99, zl100, zl102, zl104, zl109, zl113, zl114, zl119, zl126, zl255, zl400, zl1000, zl101, zl103, zl1001, zl1002, zl16, zl18, zl32, zl35, zl443, n_leT, n_leF, n_ltT, n_ltF, n_eqT, n_eqF, n_swT, n_swF, nI_add, n_sub, pk_mul, zd_n, ed, n_m1, e]
      · rw [if_neg (fun z => h3 z.2.2.2)]
        simp (disch := omega) only [F_X9_longer_J24, zv, e_gi, e_gr, e_gl, e_si, e_sb, e_ai, e_ar, e_ti, e_ty, e_tz, e_cv, zc_some, zmo_some, zin_T, ↓reduceIte, zit_succ, zzr0, zzr1, true_and, and_true, and_self, or_false, false_or, or_true, true_or, not_true_eq_false, not_false_eq_true, zl0, zl1, zl2, zl3, zl4, zl5, zl6, zl7, zl8, zl9, zl10, zl11, zl12, zl20, zl24, zl31, zl36, zl40, zl42, zl44, zl48, zl49, zl50, zl55, zl57, zl60, zl97, zl99, zl100, zl102, zl104, zl109, zl113, zl114, zl119, zl126, zl255, zl400, zl1000, zl101, zl103, zl1001, zl1002, zl16, zl18, zl32, zl35, zl443, n_leT, n_leF, n_ltT, n_ltF, n_eqT, n_eqF, n_swT, n_swF, nI_add, n_sub, pk_mul, zd_n, ed, n_m1, e]
  · rw [if_neg h1] at ed
    rw [if_neg (fun z => h1 ⟨z.1, z.2.1⟩)]
    simp (disch := omega) only [F_X9_longer_J24, zv, e_gi, e_gr, e_gl, e_si, e_sb, e_ai, e_ar, e_ti, e_ty, e_tz, e_cv, zc_some, zmo_some, zin_T, ↓reduceIte, zit_succ, zzr0, zzr1, true_and, and_true, and_self, or_false, false_or, or_true, true_or, not_true_eq_false, not_false_eq_true, zl0, zl1, zl2, zl3, zl4, zl5, zl6, zl7, zl8, zl9, zl10, zl11, zl12, zl20, zl24, zl31, zl36, zl40, zl42, zl44, zl48, zl49, zl50, zl55, zl57, zl60, zl97, zl99, zl100, zl102, zl104, zl109, zl113, zl114, zl119, zl126, zl255, zl400, zl1000, zl101, zl103, zl1001, zl1002, zl16, zl18, zl32, zl35, zl443, n_leT, n_leF, n_ltT, n_ltF, n_eqT, n_eqF, n_swT, n_swF, nI_add, n_sub, pk_mul, zd_n, ed]
theorem eC_takesRow (n : Nat) {S : zH} {F : Nat → Nat → Int32} {c t i : Nat} {s : Nat × Nat × (Nat → Nat) × (Nat → Nat)} (hT : zRw S t) (hc : c ≤ 126) (h : iRo t i s F) :
    ∃ F', (∀ a j, (a < t ∨ t + 2 < a) → F' a j = F a j) ∧ ((sRo s c = none ∧ F_X8_takes n (zwi S F) t (nI c) = some (nI 0, zwi S F')) ∨ ∃ s', sRo s c = some s' ∧ F_X8_takes n (zwi S F) t (nI c) = some (nI 1, zwi S F') ∧ iRo t (i + 1) s' F') := by
  obtain ⟨q, m, d, e⟩ := s
  obtain ⟨hw, h1, h2, h3, h4⟩ := h
  dsimp only at hw h1 h2 h3 h4
  obtain ⟨c1, c2, c3, c4, c5⟩ := hT
  have ed := fun h => eC_digitOf n h hc
  have hw' := hw
  obtain ⟨w1, w2, w3, w4, w5, w6, w7, w8⟩ := hw'
  have hq5 : q = 0 ∨ q = 1 ∨ q = 2 ∨ q = 3 ∨ q = 4 := by omega
  rcases hq5 with rfl | rfl | rfl | hq
  · have m5 := w2 (by omega)
    rw [if_pos (by omega)] at h1
    rw [if_neg (by omega)] at h2
    by_cases a1 : 48 ≤ c ∧ c ≤ 55
    · have e9 : 48 ≤ c ∧ c ≤ 57 := by omega
      simp only [e9, and_self, ↓reduceIte] at ed
      refine ⟨z2 (z2 (z2 (z2 F (t + 1) m (nI (c - 48))) (t + 2) m (nI 0)) t 2 (nI (m + 1))) t 3 (nI 1), fun a j z => by rw [z2n (by omega), z2n (by omega), z2n (by omega), z2n (by omega)], Or.inr ⟨(1, m, z1 d m (c - 48), e), by unfold sRo; rw [if_pos rfl, if_pos a1], ?_, wRo_0 hw a1, ?_, ?_, fun j hj => ?_, fun _ => ?_⟩⟩
      · simp (disch := omega) only [F_X8_takes, F_X8_takesDoing, zv, e_gi, e_gr, e_gl, e_si, e_sb, e_ai, e_ar, e_ti, e_ty, e_tz, e_cv, zc_some, zmo_some, zin_T, ↓reduceIte, zit_succ, zzr0, zzr1, true_and, and_true, and_self, or_false, false_or, or_true, true_or, not_true_eq_false, not_false_eq_true, zl0, zl1, zl2, zl3, zl4, zl5, zl6, zl7, zl8, zl9, zl10, zl11, zl12, zl20, zl24, zl31, zl36, zl40, zl42, zl44, zl48, zl49, zl50, zl55, zl57, zl60, zl97, zl99, zl100, zl102, zl104, zl109, zl113, zl114, zl119, zl126, zl255, zl400, zl1000, zl101, zl103, zl1001, zl1002, zl16, zl18, zl32, zl35, zl443, n_leT, n_leF, n_ltT, n_ltF, n_eqT, n_eqF, n_swT, n_swF, nI_add, n_sub, pk_mul, zd_n, z2_eq, z2n, c1, c2, c3, c4, c5, h1, h2, ed]
      · exact z2_eq _ _ _ _
      · rw [z2n (by omega)]
        exact z2_eq _ _ _ _
      · dsimp only at hj ⊢
        rw [z1n (by omega)]
        simp (disch := omega) only [z2_eq, z2n]
        exact h3 j hj
      · dsimp only
        rw [z1_eq]
        simp (disch := omega) only [z2_eq, z2n]
    · refine ⟨F, fun _ _ _ => rfl, Or.inl ⟨by unfold sRo; rw [if_pos rfl, if_neg a1], ?_⟩⟩
      by_cases e9 : 48 ≤ c ∧ c ≤ 57
      · simp only [e9, and_self, ↓reduceIte] at ed
        simp (disch := omega) only [F_X8_takes, F_X8_takesDoing, F_X8_takesDoing_J19, zv, e_gi, e_gr, e_gl, e_si, e_sb, e_ai, e_ar, e_ti, e_ty, e_tz, e_cv, zc_some, zmo_some, zin_T, ↓reduceIte, zit_succ, zzr0, zzr1, true_and, and_true, and_self, or_false, false_or, or_true, true_or, not_true_eq_false, not_false_eq_true, zl0, zl1, zl2, zl3, zl4, zl5, zl6, zl7, zl8, zl9, zl10, zl11, zl12, zl20, zl24, zl31, zl36, zl40, zl42, zl44, zl48, zl49, zl50, zl55, zl57, zl60, zl97, zl99, zl100, zl102, zl104, zl109, zl113, zl114, zl119, zl126, zl255, zl400, zl1000, zl101, zl103, zl1001, zl1002, zl16, zl18, zl32, zl35, zl443, n_leT, n_leF, n_ltT, n_ltF, n_eqT, n_eqF, n_swT, n_swF, nI_add, n_sub, pk_mul, zd_n, c1, h1, h2, ed]
      · simp only [e9, ↓reduceIte] at ed
        simp (disch := omega) only [F_X8_takes, F_X8_takesDoing, F_X8_takesDoing_J19, zv, e_gi, e_gr, e_gl, e_si, e_sb, e_ai, e_ar, e_ti, e_ty, e_tz, e_cv, zc_some, zmo_some, zin_T, ↓reduceIte, zit_succ, zzr0, zzr1, true_and, and_true, and_self, or_false, false_or, or_true, true_or, not_true_eq_false, not_false_eq_true, zl0, zl1, zl2, zl3, zl4, zl5, zl6, zl7, zl8, zl9, zl10, zl11, zl12, zl20, zl24, zl31, zl36, zl40, zl42, zl44, zl48, zl49, zl50, zl55, zl57, zl60, zl97, zl99, zl100, zl102, zl104, zl109, zl113, zl114, zl119, zl126, zl255, zl400, zl1000, zl101, zl103, zl1001, zl1002, zl16, zl18, zl32, zl35, zl443, n_leT, n_leF, n_ltT, n_ltF, n_eqT, n_eqF, n_swT, n_swF, nI_add, n_sub, pk_mul, zd_n, c1, h1, h2, ed, n_ltm1]
  · have m5 := w2 (by omega)
    rw [if_pos (by omega)] at h1
    rw [if_pos (by omega)] at h2
    by_cases a1 : c = 42
    · refine ⟨z2 F t 3 (nI 2), fun a j z => by rw [z2n (by omega)], Or.inr ⟨(2, m, d, e), by unfold sRo; rw [if_neg (by dsimp only; omega), if_pos rfl, if_pos a1], ?_, wRo_1 hw, ?_, ?_, fun j hj => ?_, fun _ => ?_⟩⟩
      · simp (disch := omega) only [F_X8_takes, F_X8_takes_J53, F_X8_takes_J67, zv, e_gi, e_gr, e_gl, e_si, e_sb, e_ai, e_ar, e_ti, e_ty, e_tz, e_cv, zc_some, zmo_some, zin_T, ↓reduceIte, zit_succ, zzr0, zzr1, true_and, and_true, and_self, or_false, false_or, or_true, true_or, not_true_eq_false, not_false_eq_true, zl0, zl1, zl2, zl3, zl4, zl5, zl6, zl7, zl8, zl9, zl10, zl11, zl12, zl20, zl24, zl31, zl36, zl40, zl42, zl44, zl48, zl49, zl50, zl55, zl57, zl60, zl97, zl99, zl100, zl102, zl104, zl109, zl113, zl114, zl119, zl126, zl255, zl400, zl1000, zl101, zl103, zl1001, zl1002, zl16, zl18, zl32, zl35, zl443, n_leT, n_leF, n_ltT, n_ltF, n_eqT, n_eqF, n_swT, n_swF, nI_add, n_sub, pk_mul, zd_n, zl42, c1, h1, a1]
      · exact z2_eq _ _ _ _
      · rw [z2n (by omega), if_pos (Or.inr rfl)]
        exact h2
      · dsimp only at hj ⊢
        rw [z2n (by omega), z2n (by omega)]
        exact h3 j hj
      · dsimp only
        rw [z2n (by omega)]
        exact h4 (Or.inl rfl)
    · refine ⟨z2 F t 3 (nI 1), fun a j z => by rw [z2n (by omega)], Or.inl ⟨by unfold sRo; rw [if_neg (by dsimp only; omega), if_pos rfl, if_neg a1], ?_⟩⟩
      simp (disch := omega) only [F_X8_takes, F_X8_takes_J53, F_X8_takes_J67, zv, e_gi, e_gr, e_gl, e_si, e_sb, e_ai, e_ar, e_ti, e_ty, e_tz, e_cv, zc_some, zmo_some, zin_T, ↓reduceIte, zit_succ, zzr0, zzr1, true_and, and_true, and_self, or_false, false_or, or_true, true_or, not_true_eq_false, not_false_eq_true, zl0, zl1, zl2, zl3, zl4, zl5, zl6, zl7, zl8, zl9, zl10, zl11, zl12, zl20, zl24, zl31, zl36, zl40, zl42, zl44, zl48, zl49, zl50, zl55, zl57, zl60, zl97, zl99, zl100, zl102, zl104, zl109, zl113, zl114, zl119, zl126, zl255, zl400, zl1000, zl101, zl103, zl1001, zl1002, zl16, zl18, zl32, zl35, zl443, n_leT, n_leF, n_ltT, n_ltF, n_eqT, n_eqF, n_swT, n_swF, nI_add, n_sub, pk_mul, zd_n, zl42, c1, h1]
  · have m5 := w2 (by omega)
    rw [if_pos (by omega)] at h1
    rw [if_pos (by omega)] at h2
    by_cases a1 : 49 ≤ c ∧ c ≤ 57
    · have e9 : 48 ≤ c ∧ c ≤ 57 := by omega
      simp only [e9, and_self, ↓reduceIte] at ed
      refine ⟨z2 (z2 F (t + 2) m (nI (c - 48))) t 3 (nI 3), fun a j z => by rw [z2n (by omega), z2n (by omega)], Or.inr ⟨(3, m + 1, d, z1 e m (c - 48)), by unfold sRo; rw [if_neg (by dsimp only; omega), if_neg (by dsimp only; omega), if_pos rfl, if_pos a1], ?_, wRo_2 hw a1, ?_, ?_, fun j hj => ?_, fun z => by dsimp only at z; omega⟩⟩
      · simp (disch := omega) only [F_X8_takes, F_X8_takesFirstDigit, zv, e_gi, e_gr, e_gl, e_si, e_sb, e_ai, e_ar, e_ti, e_ty, e_tz, e_cv, zc_some, zmo_some, zin_T, ↓reduceIte, zit_succ, zzr0, zzr1, true_and, and_true, and_self, or_false, false_or, or_true, true_or, not_true_eq_false, not_false_eq_true, zl0, zl1, zl2, zl3, zl4, zl5, zl6, zl7, zl8, zl9, zl10, zl11, zl12, zl20, zl24, zl31, zl36, zl40, zl42, zl44, zl48, zl49, zl50, zl55, zl57, zl60, zl97, zl99, zl100, zl102, zl104, zl109, zl113, zl114, zl119, zl126, zl255, zl400, zl1000, zl101, zl103, zl1001, zl1002, zl16, zl18, zl32, zl35, zl443, n_leT, n_leF, n_ltT, n_ltF, n_eqT, n_eqF, n_swT, n_swF, nI_add, n_sub, pk_mul, zd_n, z2_eq, z2n, c1, c2, c3, c4, c5, h1, h2, ed, Nat.add_sub_cancel]
      · exact z2_eq _ _ _ _
      · rw [z2n (by omega), z2n (by omega), if_neg (by dsimp only; omega)]
        exact h2
      · dsimp only at hj ⊢
        by_cases hj2 : j = m
        · subst hj2
          rw [z1_eq]
          simp (disch := omega) only [z2_eq, z2n]
          exact ⟨h4 (Or.inr rfl), trivial⟩
        · rw [z1n hj2]
          simp (disch := omega) only [z2_eq, z2n]
          exact h3 j (by omega)
    · refine ⟨F, fun _ _ _ => rfl, Or.inl ⟨by unfold sRo; rw [if_neg (by dsimp only; omega), if_neg (by dsimp only; omega), if_pos rfl, if_neg a1], ?_⟩⟩
      by_cases e9 : 48 ≤ c ∧ c ≤ 57
      · simp only [e9, and_self, ↓reduceIte] at ed
        simp (disch := omega) only [F_X8_takes, F_X8_takesFirstDigit, F_X8_takesFirstDigit_J13, zv, e_gi, e_gr, e_gl, e_si, e_sb, e_ai, e_ar, e_ti, e_ty, e_tz, e_cv, zc_some, zmo_some, zin_T, ↓reduceIte, zit_succ, zzr0, zzr1, true_and, and_true, and_self, or_false, false_or, or_true, true_or, not_true_eq_false, not_false_eq_true, zl0, zl1, zl2, zl3, zl4, zl5, zl6, zl7, zl8, zl9, zl10, zl11, zl12, zl20, zl24, zl31, zl36, zl40, zl42, zl44, zl48, zl49, zl50, zl55, zl57, zl60, zl97, zl99, zl100, zl102, zl104, zl109, zl113, zl114, zl119, zl126, zl255, zl400, zl1000, zl101, zl103, zl1001, zl1002, zl16, zl18, zl32, zl35, zl443, n_leT, n_leF, n_ltT, n_ltF, n_eqT, n_eqF, n_swT, n_swF, nI_add, n_sub, pk_mul, zd_n, c1, h1, h2, ed]
      · simp only [e9, ↓reduceIte] at ed
        simp (disch := omega) only [F_X8_takes, F_X8_takesFirstDigit, F_X8_takesFirstDigit_J13, zv, e_gi, e_gr, e_gl, e_si, e_sb, e_ai, e_ar, e_ti, e_ty, e_tz, e_cv, zc_some, zmo_some, zin_T, ↓reduceIte, zit_succ, zzr0, zzr1, true_and, and_true, and_self, or_false, false_or, or_true, true_or, not_true_eq_false, not_false_eq_true, zl0, zl1, zl2, zl3, zl4, zl5, zl6, zl7, zl8, zl9, zl10, zl11, zl12, zl20, zl24, zl31, zl36, zl40, zl42, zl44, zl48, zl49, zl50, zl55, zl57, zl60, zl97, zl99, zl100, zl102, zl104, zl109, zl113, zl114, zl119, zl126, zl255, zl400, zl1000, zl101, zl103, zl1001, zl1002, zl16, zl18, zl32, zl35, zl443, n_leT, n_leF, n_ltT, n_ltF, n_eqT, n_eqF, n_swT, n_swF, nI_add, n_sub, pk_mul, zd_n, c1, h1, h2, ed, n_ltm1]
  · have h1' : F t 3 = nI 3 := by
      rcases hq with rfl | rfl
      · exact h1
      · exact h1
    rw [if_neg (by omega)] at h2
    have m1 := w3 (by omega)
    have g0 := (w5 (m - 1) (by omega)).2
    have g1 := (h3 (m - 1) (by omega)).2
    have el := fun h => eC_longer n h (x := e (m - 1)) (c := c) (M := 60) (by omega) hc (by omega)
    have sQ : sRo (q, m, d, e) c = if q = 3 ∧ 48 ≤ c ∧ c ≤ 57 ∧ 10 * e (m - 1) + c - 48 ≤ 60 then some (4, m, d, z1 e (m - 1) (10 * e (m - 1) + c - 48)) else if c = 44 ∧ m < 6 then some (0, m, d, e) else none := by
      unfold sRo
      rw [if_neg (by dsimp only; omega), if_neg (by dsimp only; omega), if_neg (by dsimp only; omega)]
    rw [sQ]
    by_cases a1 : c = 44
    · rw [if_neg (by omega)]
      by_cases a2 : m < 6
      · rw [if_pos ⟨a1, a2⟩]
        refine ⟨z2 F t 3 (nI 0), fun a j z => by rw [z2n (by omega)], Or.inr ⟨_, rfl, ?_, wRo_c hw a2, ?_, ?_, fun j hj => ?_, fun z => by dsimp only at z; omega⟩⟩
        · simp (disch := omega) only [F_X8_takes, F_X8_takesMore, F_X8_takesMore_J31, F_X8_takesMore_J48, zv, e_gi, e_gr, e_gl, e_si, e_sb, e_ai, e_ar, e_ti, e_ty, e_tz, e_cv, zc_some, zmo_some, zin_T, ↓reduceIte, zit_succ, zzr0, zzr1, true_and, and_true, and_self, or_false, false_or, or_true, true_or, not_true_eq_false, not_false_eq_true, zl0, zl1, zl2, zl3, zl4, zl5, zl6, zl7, zl8, zl9, zl10, zl11, zl12, zl20, zl24, zl31, zl36, zl40, zl42, zl44, zl48, zl49, zl50, zl55, zl57, zl60, zl97, zl99, zl100, zl102, zl104, zl109, zl113, zl114, zl119, zl126, zl255, zl400, zl1000, zl101, zl103, zl1001, zl1002, zl16, zl18, zl32, zl35, zl443, n_leT, n_leF, n_ltT, n_ltF, n_eqT, n_eqF, n_swT, n_swF, nI_add, n_sub, pk_mul, zd_n, z2_eq, z2n, c1, h1', h2, a1]
        · exact z2_eq _ _ _ _
        · rw [z2n (by omega), if_neg (by dsimp only; omega)]
          exact h2
        · dsimp only at hj ⊢
          rw [z2n (by omega), z2n (by omega)]
          exact h3 j hj
      · rw [if_neg (by omega)]
        refine ⟨z2 F t 3 (nI 3), fun a j z => by rw [z2n (by omega)], Or.inl ⟨rfl, ?_⟩⟩
        simp (disch := omega) only [F_X8_takes, F_X8_takesMore, F_X8_takesMore_J31, F_X8_takesMore_J48, zv, e_gi, e_gr, e_gl, e_si, e_sb, e_ai, e_ar, e_ti, e_ty, e_tz, e_cv, zc_some, zmo_some, zin_T, ↓reduceIte, zit_succ, zzr0, zzr1, true_and, and_true, and_self, or_false, false_or, or_true, true_or, not_true_eq_false, not_false_eq_true, zl0, zl1, zl2, zl3, zl4, zl5, zl6, zl7, zl8, zl9, zl10, zl11, zl12, zl20, zl24, zl31, zl36, zl40, zl42, zl44, zl48, zl49, zl50, zl55, zl57, zl60, zl97, zl99, zl100, zl102, zl104, zl109, zl113, zl114, zl119, zl126, zl255, zl400, zl1000, zl101, zl103, zl1001, zl1002, zl16, zl18, zl32, zl35, zl443, n_leT, n_leF, n_ltT, n_ltF, n_eqT, n_eqF, n_swT, n_swF, nI_add, n_sub, pk_mul, zd_n, z2_eq, z2n, c1, h1', h2, a1]
    · by_cases a2 : q = 3 ∧ 48 ≤ c ∧ c ≤ 57 ∧ 10 * e (m - 1) + c - 48 ≤ 60
      · have g7 := w7 a2.1
        rw [if_pos a2]
        have el2 := fun h => (el h).trans (by rw [if_pos ⟨a2.2.1, a2.2.2.1, by omega, a2.2.2.2⟩])
        refine ⟨z2 F (t + 2) (m - 1) (nI (10 * e (m - 1) + c - 48)), fun a j z => by rw [z2n (by omega)], Or.inr ⟨_, rfl, ?_, wRo_3 (by rw [← a2.1]; exact hw) a2.2, ?_, ?_, fun j hj => ?_, fun z => by dsimp only at z; omega⟩⟩
        · simp (disch := omega) only [F_X8_takes, F_X8_takesMore, zv, e_gi, e_gr, e_gl, e_si, e_sb, e_ai, e_ar, e_ti, e_ty, e_tz, e_cv, zc_some, zmo_some, zin_T, ↓reduceIte, zit_succ, zzr0, zzr1, true_and, and_true, and_self, or_false, false_or, or_true, true_or, not_true_eq_false, not_false_eq_true, zl0, zl1, zl2, zl3, zl4, zl5, zl6, zl7, zl8, zl9, zl10, zl11, zl12, zl20, zl24, zl31, zl36, zl40, zl42, zl44, zl48, zl49, zl50, zl55, zl57, zl60, zl97, zl99, zl100, zl102, zl104, zl109, zl113, zl114, zl119, zl126, zl255, zl400, zl1000, zl101, zl103, zl1001, zl1002, zl16, zl18, zl32, zl35, zl443, n_leT, n_leF, n_ltT, n_ltF, n_eqT, n_eqF, n_swT, n_swF, nI_add, n_sub, pk_mul, zd_n, c1, c3, c5, h1', h2, g1, el2, n_m1]
        · rw [z2n (by omega), if_neg (by dsimp only; omega)]
          exact h1'
        · rw [z2n (by omega), if_neg (by dsimp only; omega)]
          exact h2
        · dsimp only at hj ⊢
          by_cases hj2 : j = m - 1
          · subst hj2
            rw [z1_eq]
            simp (disch := omega) only [z2_eq, z2n]
            exact ⟨(h3 _ hj).1, trivial⟩
          · rw [z1n hj2]
            simp (disch := omega) only [z2_eq, z2n]
            exact h3 j hj
      · rw [if_neg a2, if_neg (fun z => a1 z.1)]
        have el2 := fun h => (el h).trans (by rw [if_neg (fun z => by
          rcases hq with hq | hq
          · exact a2 ⟨hq, z.1, z.2.1, z.2.2.2⟩
          · have := w8 hq; omega)])
        refine ⟨F, fun _ _ _ => rfl, Or.inl ⟨rfl, ?_⟩⟩
        simp (disch := omega) only [F_X8_takes, F_X8_takesMore, zv, e_gi, e_gr, e_gl, e_si, e_sb, e_ai, e_ar, e_ti, e_ty, e_tz, e_cv, zc_some, zmo_some, zin_T, ↓reduceIte, zit_succ, zzr0, zzr1, true_and, and_true, and_self, or_false, false_or, or_true, true_or, not_true_eq_false, not_false_eq_true, zl0, zl1, zl2, zl3, zl4, zl5, zl6, zl7, zl8, zl9, zl10, zl11, zl12, zl20, zl24, zl31, zl36, zl40, zl42, zl44, zl48, zl49, zl50, zl55, zl57, zl60, zl97, zl99, zl100, zl102, zl104, zl109, zl113, zl114, zl119, zl126, zl255, zl400, zl1000, zl101, zl103, zl1001, zl1002, zl16, zl18, zl32, zl35, zl443, n_leT, n_leF, n_ltT, n_ltF, n_eqT, n_eqF, n_swT, n_swF, nI_add, n_sub, pk_mul, zd_n, c1, c3, c5, h1', h2, g1, el2]
theorem eC_firstRow (n : Nat) {S : zH} {f : Nat → Nat → Int32} {cd : Nat → Nat} {pl t k : Nat} {s : Nat × Nat × (Nat → Nat) × (Nat → Nat)} (hn : 513 < n) (hT : zRw S t) (ht2 : 2 < t) (h1 : zsh S 1 = some (5, 2)) (h2 : zsh S 2 = some (20, 50)) (r1 : zr S 1 0 = some 2) (hpl : pl ≤ 50) (hp : f 1 1 = nI pl) (hcd : ∀ i, i < pl → f 2 i = nI (cd i) ∧ cd i ≤ 126) (hk : k ≤ pl) (ht : tst sRo (0, 0, fun _ => 0, fun _ => 0) cd k = some s) (hs : k = pl ∨ (k < pl ∧ sRo s (cd k) = none)) :
    ∃ F, F_X5_firstWrong n (zwi S f) 1 t = some (nI k, zwi S F) ∧ (k = pl → iRo t k s F) ∧ ∀ a j, (a < t ∨ t + 2 < a) → F a j = f a j := by
  have hT' := hT
  obtain ⟨c1, c2, c3, c4, c5⟩ := hT
  obtain ⟨F, e1, e2, e3⟩ := eC_run n (S := S) (f := f) (F0 := z2 (z2 f t 2 (nI 0)) t 3 (nI 0)) (cd := cd) (pl := pl) (t := t) (w := 2) (k := k) (s0 := (0, 0, fun _ => 0, fun _ => 0)) (s := s) sRo (iRo t) (fun h c => F_X8_takes n h t c) hn hpl ht2 h1 hp (fun i hi => (hcd i hi).1) (fun kc F i hi q1 q2 => by
    have n1 : ¬ ((8, 4) : Nat × Nat) = (1, 2) := by decide
    have n2 : ¬ ((8, 4) : Nat × Nat) = (7, 6) := by decide
    unfold F_X5_firstWrong_B6; simp (disch := omega) only [zwi_sh, zv, e_gi, e_gr, e_gl, e_si, e_sb, e_ai, e_ar, e_ti, e_ty, e_tz, e_cv, zc_some, zmo_some, zin_T, ↓reduceIte, zit_succ, zzr0, zzr1, true_and, and_true, and_self, or_false, false_or, or_true, true_or, not_true_eq_false, not_false_eq_true, zl0, zl1, zl2, zl3, zl4, zl5, zl6, zl7, zl8, zl9, zl10, zl11, zl12, zl20, zl24, zl31, zl36, zl40, zl42, zl44, zl48, zl49, zl50, zl55, zl57, zl60, zl97, zl99, zl100, zl102, zl104, zl109, zl113, zl114, zl119, zl126, zl255, zl400, zl1000, zl101, zl103, zl1001, zl1002, zl16, zl18, zl32, zl35, zl443, n_leT, n_leF, n_ltT, n_ltF, n_eqT, n_eqF, n_swT, n_swF, nI_add, n_sub, pk_mul, zd_n, h1, h2, r1, c1, q1, q2, Option.some.injEq, n1, n2]) (fun i s F hi hI => eC_takesRow n hT' (hcd i hi).2 hI) ⟨wRo_i, z2_eq _ _ _ _, by rw [z2n (by omega)]; exact z2_eq _ _ _ _, fun j hj => by dsimp only at hj; omega, fun z => by dsimp only at z; omega⟩ (fun a j q => by rw [z2n (by omega), z2n (by omega)]) hk ht hs
  refine ⟨F, ?_, e2, e3⟩
  have n1 : ¬ ((8, 4) : Nat × Nat) = (1, 2) := by decide
  have n2 : ¬ ((8, 4) : Nat × Nat) = (7, 6) := by decide
  unfold F_X5_firstWrong
  simp (disch := omega) only [zwi_sh, F_X5_firstWrong_J4, F_X8_begin, zv, e_gi, e_gr, e_gl, e_si, e_sb, e_ai, e_ar, e_ti, e_ty, e_tz, e_cv, zc_some, zmo_some, zin_T, ↓reduceIte, zit_succ, zzr0, zzr1, true_and, and_true, and_self, or_false, false_or, or_true, true_or, not_true_eq_false, not_false_eq_true, zl0, zl1, zl2, zl3, zl4, zl5, zl6, zl7, zl8, zl9, zl10, zl11, zl12, zl20, zl24, zl31, zl36, zl40, zl42, zl44, zl48, zl49, zl50, zl55, zl57, zl60, zl97, zl99, zl100, zl102, zl104, zl109, zl113, zl114, zl119, zl126, zl255, zl400, zl1000, zl101, zl103, zl1001, zl1002, zl16, zl18, zl32, zl35, zl443, n_leT, n_leF, n_ltT, n_ltF, n_eqT, n_eqF, n_swT, n_swF, nI_add, n_sub, pk_mul, zd_n, c1, e1, Option.some.injEq, n1, n2]
theorem eC_readsRow (n : Nat) {S : zH} {f : Nat → Nat → Int32} {cd : Nat → Nat} {pl t k : Nat} {s : Nat × Nat × (Nat → Nat) × (Nat → Nat)} (hn : 513 < n) (hT : zRw S t) (ht2 : 2 < t) (h1 : zsh S 1 = some (5, 2)) (h2 : zsh S 2 = some (20, 50)) (r1 : zr S 1 0 = some 2) (hpl : pl ≤ 50) (hp : f 1 1 = nI pl) (hcd : ∀ i, i < pl → f 2 i = nI (cd i) ∧ cd i ≤ 126) (hk : k ≤ pl) (ht : tst sRo (0, 0, fun _ => 0, fun _ => 0) cd k = some s) (hs : k = pl ∨ (k < pl ∧ sRo s (cd k) = none)) :
    ∃ F, F_X5_reads n (zwi S f) 1 t = some (if k = pl ∧ 3 ≤ s.1 then nI 1 else nI 0, zwi S F) ∧ (k = pl → iRo t k s F) ∧ ∀ a j, (a < t ∨ t + 2 < a) → F a j = f a j := by
  obtain ⟨F, e1, e2, e3⟩ := eC_firstRow n hn hT ht2 h1 h2 r1 hpl hp hcd hk ht hs
  refine ⟨F, ?_, e2, e3⟩
  have c1 := hT.1
  have n1 : ¬ ((8, 4) : Nat × Nat) = (1, 2) := by decide
  have n2 : ¬ ((8, 4) : Nat × Nat) = (7, 6) := by decide
  have q : F 1 1 = nI pl := (e3 1 1 (by omega)).trans hp
  by_cases hkp : k = pl
  · have q2 := (e2 hkp).2.1
    subst hkp
    by_cases h10 : 3 ≤ s.1
    · rw [if_pos ⟨rfl, h10⟩]
      have q3 : F t 3 = nI 3 := by
        rw [q2]
        congr 1
        split <;> omega
      simp (disch := omega) only [zwi_sh, F_X5_reads, F_X5_reads_J16, F_X5_reads_J24, F_X8_isWhole, F_X8_isWhole_J13, zv, e_gi, e_gr, e_gl, e_si, e_sb, e_ai, e_ar, e_ti, e_ty, e_tz, e_cv, zc_some, zmo_some, zin_T, ↓reduceIte, zit_succ, zzr0, zzr1, true_and, and_true, and_self, or_false, false_or, or_true, true_or, not_true_eq_false, not_false_eq_true, zl0, zl1, zl2, zl3, zl4, zl5, zl6, zl7, zl8, zl9, zl10, zl11, zl12, zl20, zl24, zl31, zl36, zl40, zl42, zl44, zl48, zl49, zl50, zl55, zl57, zl60, zl97, zl99, zl100, zl102, zl104, zl109, zl113, zl114, zl119, zl126, zl255, zl400, zl1000, zl101, zl103, zl1001, zl1002, zl16, zl18, zl32, zl35, zl443, n_leT, n_leF, n_ltT, n_ltF, n_eqT, n_eqF, n_swT, n_swF, nI_add, n_sub, pk_mul, zd_n, h1, c1, e1, q, q3, Option.some.injEq, n1, n2]
    · rw [if_neg (fun z => h10 z.2)]
      rw [if_pos (by omega)] at q2
      simp (disch := omega) only [zwi_sh, F_X5_reads, F_X5_reads_J16, F_X5_reads_J23, F_X5_reads_J24, F_X8_isWhole, F_X8_isWhole_J13, zv, e_gi, e_gr, e_gl, e_si, e_sb, e_ai, e_ar, e_ti, e_ty, e_tz, e_cv, zc_some, zmo_some, zin_T, ↓reduceIte, zit_succ, zzr0, zzr1, true_and, and_true, and_self, or_false, false_or, or_true, true_or, not_true_eq_false, not_false_eq_true, zl0, zl1, zl2, zl3, zl4, zl5, zl6, zl7, zl8, zl9, zl10, zl11, zl12, zl20, zl24, zl31, zl36, zl40, zl42, zl44, zl48, zl49, zl50, zl55, zl57, zl60, zl97, zl99, zl100, zl102, zl104, zl109, zl113, zl114, zl119, zl126, zl255, zl400, zl1000, zl101, zl103, zl1001, zl1002, zl16, zl18, zl32, zl35, zl443, n_leT, n_leF, n_ltT, n_ltF, n_eqT, n_eqF, n_swT, n_swF, nI_add, n_sub, pk_mul, zd_n, h1, c1, e1, q, q2, Option.some.injEq, n1, n2]
  · rw [if_neg (fun z => hkp z.1)]
    simp (disch := omega) only [zwi_sh, F_X5_reads, F_X5_reads_J23, F_X5_reads_J24, zv, e_gi, e_gr, e_gl, e_si, e_sb, e_ai, e_ar, e_ti, e_ty, e_tz, e_cv, zc_some, zmo_some, zin_T, ↓reduceIte, zit_succ, zzr0, zzr1, true_and, and_true, and_self, or_false, false_or, or_true, true_or, not_true_eq_false, not_false_eq_true, zl0, zl1, zl2, zl3, zl4, zl5, zl6, zl7, zl8, zl9, zl10, zl11, zl12, zl20, zl24, zl31, zl36, zl40, zl42, zl44, zl48, zl49, zl50, zl55, zl57, zl60, zl97, zl99, zl100, zl102, zl104, zl109, zl113, zl114, zl119, zl126, zl255, zl400, zl1000, zl101, zl103, zl1001, zl1002, zl16, zl18, zl32, zl35, zl443, n_leT, n_leF, n_ltT, n_ltF, n_eqT, n_eqF, n_swT, n_swF, nI_add, n_sub, pk_mul, zd_n, h1, c1, e1, q]
/-- the reference reads a row -/
def jRo (i : Nat) (s : Nat × Nat × (Nat → Nat) × (Nat → Nat)) (F : Nat → Nat → Int32) : Prop := wRo s.1 s.2.1 s.2.2.1 s.2.2.2 ∧ F 85 39 = nI s.2.1 ∧ (∀ j, j < s.2.1 → F 111 j = nI (s.2.2.1 j) ∧ F 112 j = nI (s.2.2.2 j)) ∧ (s.1 = 1 ∨ s.1 = 2 → F 111 s.2.1 = nI (s.2.2.1 s.2.1))
theorem eM_row193 (n : Nat) {S : zH} {F : Nat → Nat → Int32} {c m : Nat} (hM : zMo S) (hc : c ≤ 126) (hm : m ≤ 6) (h : F 85 39 = nI m) : F_X11_nextRow_J193 n (zwi S F) 85 (nI c) = some (if c = 44 ∧ m < 6 then nI 0 else -nI 1, zwi S F) := by
  have s67 := mo_s85 hM
  by_cases a1 : c = 44
  · by_cases a2 : m < 6
    · rw [if_pos ⟨a1, a2⟩]
      simp (disch := omega) only [F_X11_nextRow_J193, F_X11_nextRow_J213, zv, e_gi, e_gr, e_gl, e_si, e_sb, e_ai, e_ar, e_ti, e_ty, e_tz, e_cv, zc_some, zmo_some, zin_T, ↓reduceIte, zit_succ, zzr0, zzr1, true_and, and_true, and_self, or_false, false_or, or_true, true_or, not_true_eq_false, not_false_eq_true, zl0, zl1, zl2, zl3, zl4, zl5, zl6, zl7, zl8, zl9, zl10, zl11, zl12, zl20, zl24, zl31, zl36, zl40, zl42, zl44, zl48, zl49, zl50, zl55, zl57, zl60, zl97, zl99, zl100, zl102, zl104, zl109, zl113, zl114, zl119, zl126, zl255, zl400, zl1000, zl101, zl103, zl1001, zl1002, zl16, zl18, zl32, zl35, zl443, n_leT, n_leF, n_ltT, n_ltF, n_eqT, n_eqF, n_swT, n_swF, nI_add, n_sub, pk_mul, zd_n, s67, h]
    · rw [if_neg (by omega)]
      simp (disch := omega) only [F_X11_nextRow_J193, F_X11_nextRow_J212, F_X11_nextRow_J213, zv, e_gi, e_gr, e_gl, e_si, e_sb, e_ai, e_ar, e_ti, e_ty, e_tz, e_cv, zc_some, zmo_some, zin_T, ↓reduceIte, zit_succ, zzr0, zzr1, true_and, and_true, and_self, or_false, false_or, or_true, true_or, not_true_eq_false, not_false_eq_true, zl0, zl1, zl2, zl3, zl4, zl5, zl6, zl7, zl8, zl9, zl10, zl11, zl12, zl20, zl24, zl31, zl36, zl40, zl42, zl44, zl48, zl49, zl50, zl55, zl57, zl60, zl97, zl99, zl100, zl102, zl104, zl109, zl113, zl114, zl119, zl126, zl255, zl400, zl1000, zl101, zl103, zl1001, zl1002, zl16, zl18, zl32, zl35, zl443, n_leT, n_leF, n_ltT, n_ltF, n_eqT, n_eqF, n_swT, n_swF, nI_add, n_sub, pk_mul, zd_n, s67, h]
  · rw [if_neg (by omega)]
    simp (disch := omega) only [F_X11_nextRow_J193, F_X11_nextRow_J212, F_X11_nextRow_J213, zv, e_gi, e_gr, e_gl, e_si, e_sb, e_ai, e_ar, e_ti, e_ty, e_tz, e_cv, zc_some, zmo_some, zin_T, ↓reduceIte, zit_succ, zzr0, zzr1, true_and, and_true, and_self, or_false, false_or, or_true, true_or, not_true_eq_false, not_false_eq_true, zl0, zl1, zl2, zl3, zl4, zl5, zl6, zl7, zl8, zl9, zl10, zl11, zl12, zl20, zl24, zl31, zl36, zl40, zl42, zl44, zl48, zl49, zl50, zl55, zl57, zl60, zl97, zl99, zl100, zl102, zl104, zl109, zl113, zl114, zl119, zl126, zl255, zl400, zl1000, zl101, zl103, zl1001, zl1002, zl16, zl18, zl32, zl35, zl443, n_leT, n_leF, n_ltT, n_ltF, n_eqT, n_eqF, n_swT, n_swF, nI_add, n_sub, pk_mul, zd_n]
theorem eM_nextRow (n : Nat) {S : zH} {F : Nat → Nat → Int32} {c i : Nat} {s : Nat × Nat × (Nat → Nat) × (Nat → Nat)} (hM : zMo S) (hc : c ≤ 126) (h : jRo i s F) :
    ∃ F', (∀ a j, ¬ mScr a j → F' a j = F a j) ∧ ((sRo s c = none ∧ F_X11_nextRow n (zwi S F) 85 (nI s.1) (nI c) = some (-nI 1, zwi S F')) ∨ ∃ s', sRo s c = some s' ∧ F_X11_nextRow n (zwi S F) 85 (nI s.1) (nI c) = some (nI s'.1, zwi S F') ∧ jRo (i + 1) s' F') := by
  obtain ⟨q, m, d, e⟩ := s
  obtain ⟨hw, h2, h3, h4⟩ := h
  dsimp only at hw h2 h3 h4 ⊢
  have s67 := mo_s85 hM
  have r40 := mo_r40 hM
  have s93 := mo_s111 hM
  have r41 := mo_r41 hM
  have s94 := mo_s112 hM
  have hw' := hw
  obtain ⟨w1, w2, w3, w4, w5, w6, w7, w8⟩ := hw'
  have m39 : ∀ a j, ¬ mScr a j → a ≠ 111 ∧ a ≠ 112 ∧ ¬ (a = 85 ∧ j = 39) := fun a j q => by unfold mScr at q; omega
  have hq5 : q = 0 ∨ q = 1 ∨ q = 2 ∨ q = 3 ∨ q = 4 := by omega
  rcases hq5 with rfl | rfl | rfl | hq
  · have m5 := w2 (by omega)
    by_cases a1 : 48 ≤ c ∧ c ≤ 55
    · refine ⟨z2 F 111 m (nI (c - 48)), fun a j z => by have := m39 a j z; rw [z2n (by omega)], Or.inr ⟨(1, m, z1 d m (c - 48), e), by unfold sRo; rw [if_pos rfl, if_pos a1], ?_, wRo_0 hw a1, ?_, fun j hj => ?_, fun _ => ?_⟩⟩
      · simp (disch := omega) only [F_X11_nextRow, F_X11_nextRow_J57, zv, e_gi, e_gr, e_gl, e_si, e_sb, e_ai, e_ar, e_ti, e_ty, e_tz, e_cv, zc_some, zmo_some, zin_T, ↓reduceIte, zit_succ, zzr0, zzr1, true_and, and_true, and_self, or_false, false_or, or_true, true_or, not_true_eq_false, not_false_eq_true, zl0, zl1, zl2, zl3, zl4, zl5, zl6, zl7, zl8, zl9, zl10, zl11, zl12, zl20, zl24, zl31, zl36, zl40, zl42, zl44, zl48, zl49, zl50, zl55, zl57, zl60, zl97, zl99, zl100, zl102, zl104, zl109, zl113, zl114, zl119, zl126, zl255, zl400, zl1000, zl101, zl103, zl1001, zl1002, zl16, zl18, zl32, zl35, zl443, n_leT, n_leF, n_ltT, n_ltF, n_eqT, n_eqF, n_swT, n_swF, nI_add, n_sub, pk_mul, zd_n, s67, r40, s93, h2, eM_in, qIn_N, a1]
      · dsimp only
        rw [z2n (by omega)]
        exact h2
      · dsimp only at hj ⊢
        rw [z1n (by omega), z2n (by omega), z2n (by omega)]
        exact h3 j hj
      · dsimp only
        rw [z1_eq, z2_eq]
    · refine ⟨z2 F 111 m (nI c - nI 48), fun a j z => by have := m39 a j z; rw [z2n (by omega)], Or.inl ⟨by unfold sRo; rw [if_pos rfl, if_neg a1], ?_⟩⟩
      by_cases a4 : 48 ≤ c
      · simp (disch := omega) only [F_X11_nextRow, F_X11_nextRow_J57, zv, e_gi, e_gr, e_gl, e_si, e_sb, e_ai, e_ar, e_ti, e_ty, e_tz, e_cv, zc_some, zmo_some, zin_T, ↓reduceIte, zit_succ, zzr0, zzr1, true_and, and_true, and_self, or_false, false_or, or_true, true_or, not_true_eq_false, not_false_eq_true, zl0, zl1, zl2, zl3, zl4, zl5, zl6, zl7, zl8, zl9, zl10, zl11, zl12, zl20, zl24, zl31, zl36, zl40, zl42, zl44, zl48, zl49, zl50, zl55, zl57, zl60, zl97, zl99, zl100, zl102, zl104, zl109, zl113, zl114, zl119, zl126, zl255, zl400, zl1000, zl101, zl103, zl1001, zl1002, zl16, zl18, zl32, zl35, zl443, n_leT, n_leF, n_ltT, n_ltF, n_eqT, n_eqF, n_swT, n_swF, nI_add, n_sub, pk_mul, zd_n, s67, r40, s93, h2, eM_in, qIn_N, a1]
      · simp (disch := omega) only [F_X11_nextRow, F_X11_nextRow_J57, zv, e_gi, e_gr, e_gl, e_si, e_sb, e_ai, e_ar, e_ti, e_ty, e_tz, e_cv, zc_some, zmo_some, zin_T, ↓reduceIte, zit_succ, zzr0, zzr1, true_and, and_true, and_self, or_false, false_or, or_true, true_or, not_true_eq_false, not_false_eq_true, zl0, zl1, zl2, zl3, zl4, zl5, zl6, zl7, zl8, zl9, zl10, zl11, zl12, zl20, zl24, zl31, zl36, zl40, zl42, zl44, zl48, zl49, zl50, zl55, zl57, zl60, zl97, zl99, zl100, zl102, zl104, zl109, zl113, zl114, zl119, zl126, zl255, zl400, zl1000, zl101, zl103, zl1001, zl1002, zl16, zl18, zl32, zl35, zl443, n_leT, n_leF, n_ltT, n_ltF, n_eqT, n_eqF, n_swT, n_swF, nI_add, n_sub, pk_mul, zd_n, s67, r40, s93, h2, eM_in, qIn_N, a1]
  · have m5 := w2 (by omega)
    by_cases a1 : c = 42
    · refine ⟨F, fun _ _ _ => rfl, Or.inr ⟨(2, m, d, e), by unfold sRo; rw [if_neg (by dsimp only; omega), if_pos rfl, if_pos a1], ?_, wRo_1 hw, h2, h3, fun _ => h4 (Or.inl rfl)⟩⟩
      simp (disch := omega) only [F_X11_nextRow, F_X11_nextRow_J69, zv, e_gi, e_gr, e_gl, e_si, e_sb, e_ai, e_ar, e_ti, e_ty, e_tz, e_cv, zc_some, zmo_some, zin_T, ↓reduceIte, zit_succ, zzr0, zzr1, true_and, and_true, and_self, or_false, false_or, or_true, true_or, not_true_eq_false, not_false_eq_true, zl0, zl1, zl2, zl3, zl4, zl5, zl6, zl7, zl8, zl9, zl10, zl11, zl12, zl20, zl24, zl31, zl36, zl40, zl42, zl44, zl48, zl49, zl50, zl55, zl57, zl60, zl97, zl99, zl100, zl102, zl104, zl109, zl113, zl114, zl119, zl126, zl255, zl400, zl1000, zl101, zl103, zl1001, zl1002, zl16, zl18, zl32, zl35, zl443, n_leT, n_leF, n_ltT, n_ltF, n_eqT, n_eqF, n_swT, n_swF, nI_add, n_sub, pk_mul, zd_n, zl42, a1]
    · refine ⟨F, fun _ _ _ => rfl, Or.inl ⟨by unfold sRo; rw [if_neg (by dsimp only; omega), if_pos rfl, if_neg a1], ?_⟩⟩
      simp (disch := omega) only [F_X11_nextRow, F_X11_nextRow_J69, zv, e_gi, e_gr, e_gl, e_si, e_sb, e_ai, e_ar, e_ti, e_ty, e_tz, e_cv, zc_some, zmo_some, zin_T, ↓reduceIte, zit_succ, zzr0, zzr1, true_and, and_true, and_self, or_false, false_or, or_true, true_or, not_true_eq_false, not_false_eq_true, zl0, zl1, zl2, zl3, zl4, zl5, zl6, zl7, zl8, zl9, zl10, zl11, zl12, zl20, zl24, zl31, zl36, zl40, zl42, zl44, zl48, zl49, zl50, zl55, zl57, zl60, zl97, zl99, zl100, zl102, zl104, zl109, zl113, zl114, zl119, zl126, zl255, zl400, zl1000, zl101, zl103, zl1001, zl1002, zl16, zl18, zl32, zl35, zl443, n_leT, n_leF, n_ltT, n_ltF, n_eqT, n_eqF, n_swT, n_swF, nI_add, n_sub, pk_mul, zd_n, zl42]
  · have m5 := w2 (by omega)
    by_cases a1 : 49 ≤ c ∧ c ≤ 57
    · refine ⟨z2 (z2 F 112 m (nI (c - 48))) 85 39 (nI (m + 1)), fun a j z => by have := m39 a j z; rw [z2n (by omega), z2n (by omega)], Or.inr ⟨(3, m + 1, d, z1 e m (c - 48)), by unfold sRo; rw [if_neg (by dsimp only; omega), if_neg (by dsimp only; omega), if_pos rfl, if_pos a1], ?_, wRo_2 hw a1, ?_, fun j hj => ?_, fun z => by dsimp only at z; omega⟩⟩
      · simp (disch := omega) only [F_X11_nextRow, F_X11_nextRow_J104, F_X11_nextRow_J124, zv, e_gi, e_gr, e_gl, e_si, e_sb, e_ai, e_ar, e_ti, e_ty, e_tz, e_cv, zc_some, zmo_some, zin_T, ↓reduceIte, zit_succ, zzr0, zzr1, true_and, and_true, and_self, or_false, false_or, or_true, true_or, not_true_eq_false, not_false_eq_true, zl0, zl1, zl2, zl3, zl4, zl5, zl6, zl7, zl8, zl9, zl10, zl11, zl12, zl20, zl24, zl31, zl36, zl40, zl42, zl44, zl48, zl49, zl50, zl55, zl57, zl60, zl97, zl99, zl100, zl102, zl104, zl109, zl113, zl114, zl119, zl126, zl255, zl400, zl1000, zl101, zl103, zl1001, zl1002, zl16, zl18, zl32, zl35, zl443, n_leT, n_leF, n_ltT, n_ltF, n_eqT, n_eqF, n_swT, n_swF, nI_add, n_sub, pk_mul, zd_n, z2_eq, z2n, s67, r41, s94, h2, eM_in, qIn_N, a1]
      · exact z2_eq _ _ _ _
      · dsimp only at hj ⊢
        by_cases hj2 : j = m
        · subst hj2
          rw [z1_eq]
          simp (disch := omega) only [z2_eq, z2n]
          exact ⟨h4 (Or.inr rfl), trivial⟩
        · rw [z1n hj2]
          simp (disch := omega) only [z2_eq, z2n]
          exact h3 j (by omega)
    · refine ⟨z2 (z2 F 112 m (nI c - nI 48)) 85 39 (nI m), fun a j z => by have := m39 a j z; rw [z2n (by omega), z2n (by omega)], Or.inl ⟨by unfold sRo; rw [if_neg (by dsimp only; omega), if_neg (by dsimp only; omega), if_pos rfl, if_neg a1], ?_⟩⟩
      by_cases a4 : 48 ≤ c
      · simp (disch := omega) only [F_X11_nextRow, F_X11_nextRow_J104, F_X11_nextRow_J124, zv, e_gi, e_gr, e_gl, e_si, e_sb, e_ai, e_ar, e_ti, e_ty, e_tz, e_cv, zc_some, zmo_some, zin_T, ↓reduceIte, zit_succ, zzr0, zzr1, true_and, and_true, and_self, or_false, false_or, or_true, true_or, not_true_eq_false, not_false_eq_true, zl0, zl1, zl2, zl3, zl4, zl5, zl6, zl7, zl8, zl9, zl10, zl11, zl12, zl20, zl24, zl31, zl36, zl40, zl42, zl44, zl48, zl49, zl50, zl55, zl57, zl60, zl97, zl99, zl100, zl102, zl104, zl109, zl113, zl114, zl119, zl126, zl255, zl400, zl1000, zl101, zl103, zl1001, zl1002, zl16, zl18, zl32, zl35, zl443, n_leT, n_leF, n_ltT, n_ltF, n_eqT, n_eqF, n_swT, n_swF, nI_add, n_sub, pk_mul, zd_n, z2_eq, z2n, s67, r41, s94, h2, eM_in, qIn_N, a1, Nat.add_zero]
      · simp (disch := omega) only [F_X11_nextRow, F_X11_nextRow_J104, F_X11_nextRow_J124, zv, e_gi, e_gr, e_gl, e_si, e_sb, e_ai, e_ar, e_ti, e_ty, e_tz, e_cv, zc_some, zmo_some, zin_T, ↓reduceIte, zit_succ, zzr0, zzr1, true_and, and_true, and_self, or_false, false_or, or_true, true_or, not_true_eq_false, not_false_eq_true, zl0, zl1, zl2, zl3, zl4, zl5, zl6, zl7, zl8, zl9, zl10, zl11, zl12, zl20, zl24, zl31, zl36, zl40, zl42, zl44, zl48, zl49, zl50, zl55, zl57, zl60, zl97, zl99, zl100, zl102, zl104, zl109, zl113, zl114, zl119, zl126, zl255, zl400, zl1000, zl101, zl103, zl1001, zl1002, zl16, zl18, zl32, zl35, zl443, n_leT, n_leF, n_ltT, n_ltF, n_eqT, n_eqF, n_swT, n_swF, nI_add, n_sub, pk_mul, zd_n, z2_eq, z2n, s67, r41, s94, h2, eM_in, qIn_N, a1, Nat.add_zero]
  · have m1 := w3 (by omega)
    have g0 := (w5 (m - 1) (by omega)).2
    have g1 := (h3 (m - 1) (by omega)).2
    have eJ := eM_row193 n hM hc w4 h2
    have ed := fun h => eM_digit n h hc
    have sQ : sRo (q, m, d, e) c = if q = 3 ∧ 48 ≤ c ∧ c ≤ 57 ∧ 10 * e (m - 1) + c - 48 ≤ 60 then some (4, m, d, z1 e (m - 1) (10 * e (m - 1) + c - 48)) else if c = 44 ∧ m < 6 then some (0, m, d, e) else none := by
      unfold sRo
      rw [if_neg (by dsimp only; omega), if_neg (by dsimp only; omega), if_neg (by dsimp only; omega)]
    rw [sQ]
    by_cases a2 : q = 3 ∧ 48 ≤ c ∧ c ≤ 57 ∧ 10 * e (m - 1) + c - 48 ≤ 60
    · obtain ⟨rfl, b1, b2, b3⟩ := a2
      have g7 := w7 rfl
      rw [if_pos ⟨rfl, b1, b2, b3⟩]
      have e9 : 48 ≤ c ∧ c ≤ 57 := ⟨b1, b2⟩
      simp only [e9, and_self, ↓reduceIte] at ed
      refine ⟨z2 F 112 (m - 1) (nI (10 * e (m - 1) + c - 48)), fun a j z => by have := m39 a j z; rw [z2n (by omega)], Or.inr ⟨_, rfl, ?_, wRo_3 hw ⟨b1, b2, b3⟩, ?_, fun j hj => ?_, fun z => by dsimp only at z; omega⟩⟩
      · simp (disch := omega) only [F_X11_nextRow, zv, e_gi, e_gr, e_gl, e_si, e_sb, e_ai, e_ar, e_ti, e_ty, e_tz, e_cv, zc_some, zmo_some, zin_T, ↓reduceIte, zit_succ, zzr0, zzr1, true_and, and_true, and_self, or_false, false_or, or_true, true_or, not_true_eq_false, not_false_eq_true, zl0, zl1, zl2, zl3, zl4, zl5, zl6, zl7, zl8, zl9, zl10, zl11, zl12, zl20, zl24, zl31, zl36, zl40, zl42, zl44, zl48, zl49, zl50, zl55, zl57, zl60, zl97, zl99, zl100, zl102, zl104, zl109, zl113, zl114, zl119, zl126, zl255, zl400, zl1000, zl101, zl103, zl1001, zl1002, zl16, zl18, zl32, zl35, zl443, n_leT, n_leF, n_ltT, n_ltF, n_eqT, n_eqF, n_swT, n_swF, nI_add, n_sub, pk_mul, zd_n, s67, r41, s94, h2, ed, g1]
      · dsimp only
        rw [z2n (by omega)]
        exact h2
      · dsimp only at hj ⊢
        by_cases hj2 : j = m - 1
        · subst hj2
          rw [z1_eq]
          simp (disch := omega) only [z2_eq, z2n]
          exact ⟨(h3 _ hj).1, trivial⟩
        · rw [z1n hj2]
          simp (disch := omega) only [z2_eq, z2n]
          exact h3 j hj
    · rw [if_neg a2]
      have key : F_X11_nextRow n (zwi S F) 85 (nI q) (nI c) = F_X11_nextRow_J193 n (zwi S F) 85 (nI c) := by
        rcases hq with rfl | rfl
        · by_cases e9 : 48 ≤ c ∧ c ≤ 57
          · simp only [e9, and_self, ↓reduceIte] at ed
            have g7 := w7 rfl
            simp (disch := omega) only [F_X11_nextRow, zv, e_gi, e_gr, e_gl, e_si, e_sb, e_ai, e_ar, e_ti, e_ty, e_tz, e_cv, zc_some, zmo_some, zin_T, ↓reduceIte, zit_succ, zzr0, zzr1, true_and, and_true, and_self, or_false, false_or, or_true, true_or, not_true_eq_false, not_false_eq_true, zl0, zl1, zl2, zl3, zl4, zl5, zl6, zl7, zl8, zl9, zl10, zl11, zl12, zl20, zl24, zl31, zl36, zl40, zl42, zl44, zl48, zl49, zl50, zl55, zl57, zl60, zl97, zl99, zl100, zl102, zl104, zl109, zl113, zl114, zl119, zl126, zl255, zl400, zl1000, zl101, zl103, zl1001, zl1002, zl16, zl18, zl32, zl35, zl443, n_leT, n_leF, n_ltT, n_ltF, n_eqT, n_eqF, n_swT, n_swF, nI_add, n_sub, pk_mul, zd_n, s67, r41, s94, h2, ed, g1]
          · simp only [e9, ↓reduceIte] at ed
            simp (disch := omega) only [F_X11_nextRow, zv, e_gi, e_gr, e_gl, e_si, e_sb, e_ai, e_ar, e_ti, e_ty, e_tz, e_cv, zc_some, zmo_some, zin_T, ↓reduceIte, zit_succ, zzr0, zzr1, true_and, and_true, and_self, or_false, false_or, or_true, true_or, not_true_eq_false, not_false_eq_true, zl0, zl1, zl2, zl3, zl4, zl5, zl6, zl7, zl8, zl9, zl10, zl11, zl12, zl20, zl24, zl31, zl36, zl40, zl42, zl44, zl48, zl49, zl50, zl55, zl57, zl60, zl97, zl99, zl100, zl102, zl104, zl109, zl113, zl114, zl119, zl126, zl255, zl400, zl1000, zl101, zl103, zl1001, zl1002, zl16, zl18, zl32, zl35, zl443, n_leT, n_leF, n_ltT, n_ltF, n_eqT, n_eqF, n_swT, n_swF, nI_add, n_sub, pk_mul, zd_n, s67, r41, s94, h2, ed]
        · simp (disch := omega) only [F_X11_nextRow, zv, e_gi, e_gr, e_gl, e_si, e_sb, e_ai, e_ar, e_ti, e_ty, e_tz, e_cv, zc_some, zmo_some, zin_T, ↓reduceIte, zit_succ, zzr0, zzr1, true_and, and_true, and_self, or_false, false_or, or_true, true_or, not_true_eq_false, not_false_eq_true, zl0, zl1, zl2, zl3, zl4, zl5, zl6, zl7, zl8, zl9, zl10, zl11, zl12, zl20, zl24, zl31, zl36, zl40, zl42, zl44, zl48, zl49, zl50, zl55, zl57, zl60, zl97, zl99, zl100, zl102, zl104, zl109, zl113, zl114, zl119, zl126, zl255, zl400, zl1000, zl101, zl103, zl1001, zl1002, zl16, zl18, zl32, zl35, zl443, n_leT, n_leF, n_ltT, n_ltF, n_eqT, n_eqF, n_swT, n_swF, nI_add, n_sub, pk_mul, zd_n]
      rw [key, eJ]
      by_cases a1 : c = 44 ∧ m < 6
      · rw [if_pos a1, if_pos a1]
        exact ⟨F, fun _ _ _ => rfl, Or.inr ⟨_, rfl, rfl, wRo_c hw a1.2, h2, h3, fun z => by dsimp only at z; omega⟩⟩
      · rw [if_neg a1, if_neg a1]
        exact ⟨F, fun _ _ _ => rfl, Or.inl ⟨rfl, rfl⟩⟩
theorem eM_readRow (n : Nat) {S : zH} {f : Nat → Nat → Int32} {cd : Nat → Nat} {pl k : Nat} {s : Nat × Nat × (Nat → Nat) × (Nat → Nat)} (hn : 513 < n) (hM : zMo S) (hpl : pl ≤ 50) (hp : f 85 27 = nI pl) (hcd : ∀ i, i < pl → f 105 i = nI (cd i) ∧ cd i ≤ 126) (hk : k ≤ pl) (ht : tst sRo (0, 0, fun _ => 0, fun _ => 0) cd k = some s) (hs : k = pl ∨ (k < pl ∧ sRo s (cd k) = none)) :
    ∃ F, F_X11_readPage n (zwi S f) 85 (nI 1) = some ((), zwi S F) ∧ F 85 36 = nI k ∧ F 85 37 = (if k = pl ∧ 3 ≤ s.1 then nI 1 else nI 0) ∧ (k = pl → jRo k s F) ∧ ∀ a j, ¬ mScr a j → F a j = f a j := by
  have s67 := mo_s85 hM
  have r38 := mo_r38 hM
  have s92 := mo_s110 hM
  have m27 : ¬ mScr 85 27 := fun z => by unfold mScr at z; omega
  obtain ⟨F0, hF0⟩ : ∃ F0, F0 = z2 (z2 (z2 f 110 5 (nI 0)) 85 39 (nI 0)) 85 42 (nI 0) := ⟨_, rfl⟩
  have f0 : ∀ a j, ¬ mScr a j → F0 a j = f a j := fun a j q => by
    unfold mScr at q
    rw [hF0, z2n (by omega), z2n (by omega), z2n (by omega)]
  have f39 : F0 85 39 = nI 0 := by
    rw [hF0, z2n (by omega)]
    exact z2_eq _ _ _ _
  obtain ⟨F, e1, e2, e3, e4⟩ := eM_run n (S := S) (f := f) (F0 := F0) (cd := cd) (pl := pl) (v := 1) (k := k) (s0 := (0, 0, fun _ => 0, fun _ => 0)) (s := s) sRo jRo (fun h x c => F_X11_nextRow n h 85 x c) (fun s => s.1) hn hpl hM hp (fun i hi => (hcd i hi).1) (fun i s F hJ => by have := hJ.1.1; omega) (fun kc F x i hi q1 q2 => by unfold F_X11_readPage_B24; simp (disch := omega) only [zv, e_gi, e_gr, e_gl, e_si, e_sb, e_ai, e_ar, e_ti, e_ty, e_tz, e_cv, zc_some, zmo_some, zin_T, ↓reduceIte, zit_succ, zzr0, zzr1, true_and, and_true, and_self, or_false, false_or, or_true, true_or, not_true_eq_false, not_false_eq_true, zl0, zl1, zl2, zl3, zl4, zl5, zl6, zl7, zl8, zl9, zl10, zl11, zl12, zl20, zl24, zl31, zl36, zl40, zl42, zl44, zl48, zl49, zl50, zl55, zl57, zl60, zl97, zl99, zl100, zl102, zl104, zl109, zl113, zl114, zl119, zl126, zl255, zl400, zl1000, zl101, zl103, zl1001, zl1002, zl16, zl18, zl32, zl35, zl443, n_leT, n_leF, n_ltT, n_ltF, n_eqT, n_eqF, n_swT, n_swF, nI_add, n_sub, pk_mul, zd_n, s67, mo_r28 hM, mo_s105 hM, q1, q2]) (fun i s F hi hJ => eM_nextRow n hM (hcd i hi).2 hJ) ⟨wRo_i, f39, fun j hj => by dsimp only at hj; omega, fun z => by dsimp only at z; omega⟩ f0 hk ht hs
  have ee := eM_end n (S := S) (F := F) (v := 1) (q := s.1) (k := k) (pl := pl) (mp := 0) hM (by omega) e2 hk hpl ((e4 85 27 m27).trans hp) (fun z => by omega)
  have main : F_X11_readPage n (zwi S f) 85 (nI 1) = F_X11_readPage_L24 n (zwi S F0) 85 (nI 1) (nI 0) (nI 0) (nI 1) := by
    unfold F_X11_readPage
    simp (disch := omega) only [zv, e_gi, e_gr, e_gl, e_si, e_sb, e_ai, e_ar, e_ti, e_ty, e_tz, e_cv, zc_some, zmo_some, zin_T, ↓reduceIte, zit_succ, zzr0, zzr1, true_and, and_true, and_self, or_false, false_or, or_true, true_or, not_true_eq_false, not_false_eq_true, zl0, zl1, zl2, zl3, zl4, zl5, zl6, zl7, zl8, zl9, zl10, zl11, zl12, zl20, zl24, zl31, zl36, zl40, zl42, zl44, zl48, zl49, zl50, zl55, zl57, zl60, zl97, zl99, zl100, zl102, zl104, zl109, zl113, zl114, zl119, zl126, zl255, zl400, zl1000, zl101, zl103, zl1001, zl1002, zl16, zl18, zl32, zl35, zl443, n_leT, n_leF, n_ltT, n_ltF, n_eqT, n_eqF, n_swT, n_swF, nI_add, n_sub, pk_mul, zd_n, s67, r38, s92]
    rw [← hF0]
  refine ⟨_, main.trans (e1.trans ee), ?_, ?_, fun hkp => ?_, fun a j q => ?_⟩
  · rw [z2n (by omega), z2n (by omega)]
    exact z2_eq _ _ _ _
  · rw [z2n (by omega), z2_eq]
    by_cases h : k = pl ∧ 3 ≤ s.1
    · rw [if_pos h, if_pos ⟨h.1, Or.inr (Or.inl ⟨rfl, by omega⟩)⟩]
    · rw [if_neg h, if_neg (fun z => by omega)]
  · obtain ⟨j1, j2, j3, j4⟩ := e3 hkp
    refine ⟨j1, ?_, fun j hj => ?_, fun z => ?_⟩
    · rw [z2n (by omega), z2n (by omega), z2n (by omega)]
      exact j2
    · rw [z2n (by omega), z2n (by omega), z2n (by omega), z2n (by omega), z2n (by omega), z2n (by omega)]
      exact j3 j hj
    · rw [z2n (by omega), z2n (by omega), z2n (by omega)]
      exact j4 z
  · unfold mScr at q
    rw [z2n (by omega), z2n (by omega), z2n (by omega)]
    exact e4 a j (by unfold mScr; exact q)
