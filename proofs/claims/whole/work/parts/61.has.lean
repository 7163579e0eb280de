/-! ===== the small questions ===== -/
def zOk {α : Type} (g : Nat) (F : Option (α × zH)) (G : zH → Option (α × zH)) : Prop := ∃ x h1 h2, F = some (x, h1) ∧ G h1 = some (x, h2) ∧ zInv (g + 1) h2 ∧ zsh h1 85 = some (10, 51)
theorem zI_ok {S : zH} {f f1 : Nat → Nat → Int32} {g c c' r r' tr pl nd R H cu nl nr np pt fi : Nat} {da ra : Nat → Nat} (h : zI S f g c c' r r' tr pl nd da R H cu nl nr ra np pt fi) : zInv g (zwi S f) ∧ zsh (zwi S f1) 85 = some (10, 51) := ⟨zI_inv h, mo_s85 (cl_M h.1)⟩
def qIn (p a b : Int32) : Int32 := if p < a then nI 0 else if b < p then nI 0 else nI 1
def qHas (p : Int32) (k : Nat) : Int32 := if p < nI 0 then nI 0 else if nI k ≤ p then nI 0 else nI 1
theorem i_cases (p : Int32) : p < nI 0 ∨ ∃ m, m < 2147483648 ∧ p = nI m := by
  by_cases h : p < nI 0
  · exact Or.inl h
  · exact Or.inr (nI_of h)
theorem qIn_c (p a b : Int32) : (qIn p a b = nI 0 ∧ (p < a ∨ b < p)) ∨ (qIn p a b = nI 1 ∧ ¬ p < a ∧ ¬ b < p) := by
  unfold qIn
  by_cases h1 : p < a
  · exact Or.inl ⟨if_pos h1, Or.inl h1⟩
  · by_cases h2 : b < p
    · exact Or.inl ⟨by rw [if_neg h1, if_pos h2], Or.inr h2⟩
    · exact Or.inr ⟨by rw [if_neg h1, if_neg h2], h1, h2⟩
theorem qIn_n {p : Int32} {a b : Nat} (hb : b < 2147483648) (h : ¬ p < nI a ∧ ¬ nI b < p) (ha : a < 2147483648) : ∃ m, a ≤ m ∧ m ≤ b ∧ p = nI m := by
  obtain ⟨h1, h2⟩ := h
  have h3 := i_nlt h1
  have h4 := i_nlt h2
  rw [n_int ha] at h3
  rw [n_int hb] at h4
  rcases i_cases p with h | ⟨m, hm, rfl⟩
  · have := i_lt h
    have e : (nI 0).toInt = 0 := by decide
    omega
  · rw [n_int hm] at h3 h4
    exact ⟨m, by omega, by omega, rfl⟩
theorem qHas_c (p : Int32) {k : Nat} (hk : k < 2147483648) : qHas p k = nI 0 ∨ ∃ m, m < k ∧ p = nI m ∧ qHas p k = nI 1 := by
  unfold qHas
  rcases i_cases p with h | ⟨m, hm, rfl⟩
  · exact Or.inl (if_pos h)
  · rw [if_neg (nI_nlt (Nat.zero_le m) hm)]
    by_cases h : k ≤ m
    · exact Or.inl (if_pos (nI_le h hm))
    · exact Or.inr ⟨m, by omega, rfl, if_neg (nI_ge (by omega) hk)⟩
theorem qHas_n {m k : Nat} (h : m < k ∧ k < 2147483648) : qHas (nI m) k = nI 1 := by
  unfold qHas
  rw [if_neg (nI_nlt (Nat.zero_le m) (by omega)), if_neg (nI_ge h.1 h.2)]
theorem qHas_0 {m k : Nat} (h : k ≤ m ∧ m < 2147483648) : qHas (nI m) k = nI 0 := by
  unfold qHas
  rw [if_neg (nI_nlt (Nat.zero_le m) (by omega)), if_pos (nI_le h.1 h.2)]
theorem qIn_has (p : Int32) {k : Nat} (hk : k < 2147483648) : qIn p (nI 0) (nI k - nI 1) = qHas p k := by
  unfold qIn qHas
  rcases i_cases p with h | ⟨m, hm, rfl⟩
  · rw [if_pos h, if_pos h]
  · have h0 : ¬ nI m < nI 0 := nI_nlt (Nat.zero_le m) hm
    rw [if_neg h0, if_neg h0]
    rcases Nat.eq_zero_or_pos k with hk0 | hk0
    · subst hk0
      have h1 : nI 0 - nI 1 < nI m := Int32.lt_iff_toInt_lt.mpr (by rw [n_int hm]; have : (nI 0 - nI 1).toInt = -1 := by decide
                                                                    omega)
      rw [if_pos h1, if_pos (nI_le (Nat.zero_le m) hm)]
    · rw [n_sub hk0]
      by_cases h : k ≤ m
      · rw [if_pos (nI_lt (by omega) hm), if_pos (nI_le h hm)]
      · rw [if_neg (nI_nlt (by omega) (by omega)), if_neg (nI_ge (by omega) hk)]
theorem zzr_In {α : Type} (p a b : Int32) (r : Option α) : zzr (qIn p a b) r = r := by
  rcases qIn_c p a b with h | h
  · rw [h.1]; rfl
  · rw [h.1]; rfl
theorem zzr_Has {α : Type} (p : Int32) (k : Nat) (r : Option α) : zzr (qHas p k) r = r := by
  unfold qHas
  by_cases h1 : p < nI 0
  · rw [if_pos h1]; rfl
  · by_cases h2 : nI k ≤ p
    · rw [if_neg h1, if_pos h2]; rfl
    · rw [if_neg h1, if_neg h2]; rfl
theorem eC_in (n : Nat) (h : zH) (p a b : Int32) : F_X10_isWithin n h p a b = some (qIn p a b, h) := by
  unfold F_X10_isWithin F_X10_isWithin_J14 F_X10_isWithin_J15 qIn
  by_cases h1 : p < a
  · simp only [h1, ↓reduceIte]; rfl
  · by_cases h2 : b < p
    · simp only [h1, h2, ↓reduceIte]; rfl
    · simp only [h1, h2, ↓reduceIte]; rfl
theorem eM_in (n : Nat) (h : zH) (p a b : Int32) : F_X11_within n h p a b = some (qIn p a b, h) := by
  unfold F_X11_within F_X11_within_J14 F_X11_within_J15 qIn
  by_cases h1 : p < a
  · simp only [h1, ↓reduceIte]; rfl
  · by_cases h2 : b < p
    · simp only [h1, h2, ↓reduceIte]; rfl
    · simp only [h1, h2, ↓reduceIte]; rfl
theorem eC_hasDoing (n : Nat) {S : zH} {f : Nat → Nat → Int32} {k : Nat} (p : Int32) (hh : zsh S 0 = some (9, 20)) (hf : f 0 3 = nI k) : F_X10_hasDoing n (zwi S f) 0 p = some (qHas p k, zwi S f) := by
  unfold F_X10_hasDoing F_X10_hasDoing_J16 F_X10_hasDoing_J17
  unfold qHas
  by_cases h1 : p < nI 0
  · simp (disch := omega) only [zv, e_gi, e_gr, e_gl, e_si, e_sb, e_ai, e_ar, e_ti, e_ty, e_tz, e_cv, zc_some, zmo_some, zin_T, ↓reduceIte, zit_succ, zzr0, zzr1, true_and, and_true, and_self, or_false, false_or, or_true, true_or, not_true_eq_false, not_false_eq_true, zl0, zl1, zl2, zl3, zl4, zl5, zl6, zl7, zl8, zl9, zl10, zl11, zl12, zl20, zl24, zl31, zl36, zl40, zl42, zl44, zl48, zl49, zl50, zl55, zl57, zl60, zl97, zl99, zl100, zl102, zl104, zl109, zl113, zl114, zl119, zl126, zl255, zl400, zl1000, zl101, zl103, zl1001, zl1002, zl16, zl18, zl32, zl35, zl443, n_leT, n_leF, n_ltT, n_ltF, n_eqT, n_eqF, n_swT, n_swF, nI_add, n_sub, pk_mul, zd_n, h1, hh, hf]
  · by_cases h2 : nI k ≤ p
    · simp (disch := omega) only [zv, e_gi, e_gr, e_gl, e_si, e_sb, e_ai, e_ar, e_ti, e_ty, e_tz, e_cv, zc_some, zmo_some, zin_T, ↓reduceIte, zit_succ, zzr0, zzr1, true_and, and_true, and_self, or_false, false_or, or_true, true_or, not_true_eq_false, not_false_eq_true, zl0, zl1, zl2, zl3, zl4, zl5, zl6, zl7, zl8, zl9, zl10, zl11, zl12, zl20, zl24, zl31, zl36, zl40, zl42, zl44, zl48, zl49, zl50, zl55, zl57, zl60, zl97, zl99, zl100, zl102, zl104, zl109, zl113, zl114, zl119, zl126, zl255, zl400, zl1000, zl101, zl103, zl1001, zl1002, zl16, zl18, zl32, zl35, zl443, n_leT, n_leF, n_ltT, n_ltF, n_eqT, n_eqF, n_swT, n_swF, nI_add, n_sub, pk_mul, zd_n, h1, h2, hh, hf]
    · simp (disch := omega) only [zv, e_gi, e_gr, e_gl, e_si, e_sb, e_ai, e_ar, e_ti, e_ty, e_tz, e_cv, zc_some, zmo_some, zin_T, ↓reduceIte, zit_succ, zzr0, zzr1, true_and, and_true, and_self, or_false, false_or, or_true, true_or, not_true_eq_false, not_false_eq_true, zl0, zl1, zl2, zl3, zl4, zl5, zl6, zl7, zl8, zl9, zl10, zl11, zl12, zl20, zl24, zl31, zl36, zl40, zl42, zl44, zl48, zl49, zl50, zl55, zl57, zl60, zl97, zl99, zl100, zl102, zl104, zl109, zl113, zl114, zl119, zl126, zl255, zl400, zl1000, zl101, zl103, zl1001, zl1002, zl16, zl18, zl32, zl35, zl443, n_leT, n_leF, n_ltT, n_ltF, n_eqT, n_eqF, n_swT, n_swF, nI_add, n_sub, pk_mul, zd_n, h1, h2, hh, hf]
theorem eC_hasRow (n : Nat) {S : zH} {f : Nat → Nat → Int32} {k : Nat} (p : Int32) (hh : zsh S 0 = some (9, 20)) (hf : f 0 11 = nI k) : F_X10_hasRow n (zwi S f) 0 p = some (qHas p k, zwi S f) := by
  unfold F_X10_hasRow F_X10_hasRow_J16 F_X10_hasRow_J17
  unfold qHas
  by_cases h1 : p < nI 0
  · simp (disch := omega) only [zv, e_gi, e_gr, e_gl, e_si, e_sb, e_ai, e_ar, e_ti, e_ty, e_tz, e_cv, zc_some, zmo_some, zin_T, ↓reduceIte, zit_succ, zzr0, zzr1, true_and, and_true, and_self, or_false, false_or, or_true, true_or, not_true_eq_false, not_false_eq_true, zl0, zl1, zl2, zl3, zl4, zl5, zl6, zl7, zl8, zl9, zl10, zl11, zl12, zl20, zl24, zl31, zl36, zl40, zl42, zl44, zl48, zl49, zl50, zl55, zl57, zl60, zl97, zl99, zl100, zl102, zl104, zl109, zl113, zl114, zl119, zl126, zl255, zl400, zl1000, zl101, zl103, zl1001, zl1002, zl16, zl18, zl32, zl35, zl443, n_leT, n_leF, n_ltT, n_ltF, n_eqT, n_eqF, n_swT, n_swF, nI_add, n_sub, pk_mul, zd_n, h1, hh, hf]
  · by_cases h2 : nI k ≤ p
    · simp (disch := omega) only [zv, e_gi, e_gr, e_gl, e_si, e_sb, e_ai, e_ar, e_ti, e_ty, e_tz, e_cv, zc_some, zmo_some, zin_T, ↓reduceIte, zit_succ, zzr0, zzr1, true_and, and_true, and_self, or_false, false_or, or_true, true_or, not_true_eq_false, not_false_eq_true, zl0, zl1, zl2, zl3, zl4, zl5, zl6, zl7, zl8, zl9, zl10, zl11, zl12, zl20, zl24, zl31, zl36, zl40, zl42, zl44, zl48, zl49, zl50, zl55, zl57, zl60, zl97, zl99, zl100, zl102, zl104, zl109, zl113, zl114, zl119, zl126, zl255, zl400, zl1000, zl101, zl103, zl1001, zl1002, zl16, zl18, zl32, zl35, zl443, n_leT, n_leF, n_ltT, n_ltF, n_eqT, n_eqF, n_swT, n_swF, nI_add, n_sub, pk_mul, zd_n, h1, h2, hh, hf]
    · simp (disch := omega) only [zv, e_gi, e_gr, e_gl, e_si, e_sb, e_ai, e_ar, e_ti, e_ty, e_tz, e_cv, zc_some, zmo_some, zin_T, ↓reduceIte, zit_succ, zzr0, zzr1, true_and, and_true, and_self, or_false, false_or, or_true, true_or, not_true_eq_false, not_false_eq_true, zl0, zl1, zl2, zl3, zl4, zl5, zl6, zl7, zl8, zl9, zl10, zl11, zl12, zl20, zl24, zl31, zl36, zl40, zl42, zl44, zl48, zl49, zl50, zl55, zl57, zl60, zl97, zl99, zl100, zl102, zl104, zl109, zl113, zl114, zl119, zl126, zl255, zl400, zl1000, zl101, zl103, zl1001, zl1002, zl16, zl18, zl32, zl35, zl443, n_leT, n_leF, n_ltT, n_ltF, n_eqT, n_eqF, n_swT, n_swF, nI_add, n_sub, pk_mul, zd_n, h1, h2, hh, hf]
theorem eC_hasLeaf (n : Nat) {S : zH} {f : Nat → Nat → Int32} {k v : Nat} (p : Int32) (hh : zsh S v = some (4, 5)) (hf : f v 4 = nI k) : F_X4_has n (zwi S f) v p = some (qHas p k, zwi S f) := by
  unfold F_X4_has F_X4_has_J16 F_X4_has_J17
  unfold qHas
  by_cases h1 : p < nI 0
  · simp (disch := omega) only [zv, e_gi, e_gr, e_gl, e_si, e_sb, e_ai, e_ar, e_ti, e_ty, e_tz, e_cv, zc_some, zmo_some, zin_T, ↓reduceIte, zit_succ, zzr0, zzr1, true_and, and_true, and_self, or_false, false_or, or_true, true_or, not_true_eq_false, not_false_eq_true, zl0, zl1, zl2, zl3, zl4, zl5, zl6, zl7, zl8, zl9, zl10, zl11, zl12, zl20, zl24, zl31, zl36, zl40, zl42, zl44, zl48, zl49, zl50, zl55, zl57, zl60, zl97, zl99, zl100, zl102, zl104, zl109, zl113, zl114, zl119, zl126, zl255, zl400, zl1000, zl101, zl103, zl1001, zl1002, zl16, zl18, zl32, zl35, zl443, n_leT, n_leF, n_ltT, n_ltF, n_eqT, n_eqF, n_swT, n_swF, nI_add, n_sub, pk_mul, zd_n, h1, hh, hf]
  · by_cases h2 : nI k ≤ p
    · simp (disch := omega) only [zv, e_gi, e_gr, e_gl, e_si, e_sb, e_ai, e_ar, e_ti, e_ty, e_tz, e_cv, zc_some, zmo_some, zin_T, ↓reduceIte, zit_succ, zzr0, zzr1, true_and, and_true, and_self, or_false, false_or, or_true, true_or, not_true_eq_false, not_false_eq_true, zl0, zl1, zl2, zl3, zl4, zl5, zl6, zl7, zl8, zl9, zl10, zl11, zl12, zl20, zl24, zl31, zl36, zl40, zl42, zl44, zl48, zl49, zl50, zl55, zl57, zl60, zl97, zl99, zl100, zl102, zl104, zl109, zl113, zl114, zl119, zl126, zl255, zl400, zl1000, zl101, zl103, zl1001, zl1002, zl16, zl18, zl32, zl35, zl443, n_leT, n_leF, n_ltT, n_ltF, n_eqT, n_eqF, n_swT, n_swF, nI_add, n_sub, pk_mul, zd_n, h1, h2, hh, hf]
    · simp (disch := omega) only [zv, e_gi, e_gr, e_gl, e_si, e_sb, e_ai, e_ar, e_ti, e_ty, e_tz, e_cv, zc_some, zmo_some, zin_T, ↓reduceIte, zit_succ, zzr0, zzr1, true_and, and_true, and_self, or_false, false_or, or_true, true_or, not_true_eq_false, not_false_eq_true, zl0, zl1, zl2, zl3, zl4, zl5, zl6, zl7, zl8, zl9, zl10, zl11, zl12, zl20, zl24, zl31, zl36, zl40, zl42, zl44, zl48, zl49, zl50, zl55, zl57, zl60, zl97, zl99, zl100, zl102, zl104, zl109, zl113, zl114, zl119, zl126, zl255, zl400, zl1000, zl101, zl103, zl1001, zl1002, zl16, zl18, zl32, zl35, zl443, n_leT, n_leF, n_ltT, n_ltF, n_eqT, n_eqF, n_swT, n_swF, nI_add, n_sub, pk_mul, zd_n, h1, h2, hh, hf]
theorem eC_hasPoint (n : Nat) {S : zH} {f : Nat → Nat → Int32} {k v : Nat} (p : Int32) (hh : zsh S v = some (7, 6)) (hf : f v 4 = nI k) : F_X7_has n (zwi S f) v p = some (qHas p k, zwi S f) := by
  unfold F_X7_has F_X7_has_J16 F_X7_has_J17
  unfold qHas
  by_cases h1 : p < nI 0
  · simp (disch := omega) only [zv, e_gi, e_gr, e_gl, e_si, e_sb, e_ai, e_ar, e_ti, e_ty, e_tz, e_cv, zc_some, zmo_some, zin_T, ↓reduceIte, zit_succ, zzr0, zzr1, true_and, and_true, and_self, or_false, false_or, or_true, true_or, not_true_eq_false, not_false_eq_true, zl0, zl1, zl2, zl3, zl4, zl5, zl6, zl7, zl8, zl9, zl10, zl11, zl12, zl20, zl24, zl31, zl36, zl40, zl42, zl44, zl48, zl49, zl50, zl55, zl57, zl60, zl97, zl99, zl100, zl102, zl104, zl109, zl113, zl114, zl119, zl126, zl255, zl400, zl1000, zl101, zl103, zl1001, zl1002, zl16, zl18, zl32, zl35, zl443, n_leT, n_leF, n_ltT, n_ltF, n_eqT, n_eqF, n_swT, n_swF, nI_add, n_sub, pk_mul, zd_n, h1, hh, hf]
  · by_cases h2 : nI k ≤ p
    · simp (disch := omega) only [zv, e_gi, e_gr, e_gl, e_si, e_sb, e_ai, e_ar, e_ti, e_ty, e_tz, e_cv, zc_some, zmo_some, zin_T, ↓reduceIte, zit_succ, zzr0, zzr1, true_and, and_true, and_self, or_false, false_or, or_true, true_or, not_true_eq_false, not_false_eq_true, zl0, zl1, zl2, zl3, zl4, zl5, zl6, zl7, zl8, zl9, zl10, zl11, zl12, zl20, zl24, zl31, zl36, zl40, zl42, zl44, zl48, zl49, zl50, zl55, zl57, zl60, zl97, zl99, zl100, zl102, zl104, zl109, zl113, zl114, zl119, zl126, zl255, zl400, zl1000, zl101, zl103, zl1001, zl1002, zl16, zl18, zl32, zl35, zl443, n_leT, n_leF, n_ltT, n_ltF, n_eqT, n_eqF, n_swT, n_swF, nI_add, n_sub, pk_mul, zd_n, h1, h2, hh, hf]
    · simp (disch := omega) only [zv, e_gi, e_gr, e_gl, e_si, e_sb, e_ai, e_ar, e_ti, e_ty, e_tz, e_cv, zc_some, zmo_some, zin_T, ↓reduceIte, zit_succ, zzr0, zzr1, true_and, and_true, and_self, or_false, false_or, or_true, true_or, not_true_eq_false, not_false_eq_true, zl0, zl1, zl2, zl3, zl4, zl5, zl6, zl7, zl8, zl9, zl10, zl11, zl12, zl20, zl24, zl31, zl36, zl40, zl42, zl44, zl48, zl49, zl50, zl55, zl57, zl60, zl97, zl99, zl100, zl102, zl104, zl109, zl113, zl114, zl119, zl126, zl255, zl400, zl1000, zl101, zl103, zl1001, zl1002, zl16, zl18, zl32, zl35, zl443, n_leT, n_leF, n_ltT, n_ltF, n_eqT, n_eqF, n_swT, n_swF, nI_add, n_sub, pk_mul, zd_n, h1, h2, hh, hf]
theorem eC_hasRing (n : Nat) {S : zH} {f : Nat → Nat → Int32} {c k : Nat} (p : Int32) (hC : zCu S c) (hf : f (c + 1) 0 = nI k) : F_X1_hasRing n (zwi S f) c p = some (qHas p k, zwi S f) := by
  obtain ⟨c1, c2, c3⟩ := hC
  unfold F_X1_hasRing F_X1_hasRing_J18 F_X1_hasRing_J19
  unfold qHas
  by_cases h1 : p < nI 0
  · simp (disch := omega) only [zv, e_gi, e_gr, e_gl, e_si, e_sb, e_ai, e_ar, e_ti, e_ty, e_tz, e_cv, zc_some, zmo_some, zin_T, ↓reduceIte, zit_succ, zzr0, zzr1, true_and, and_true, and_self, or_false, false_or, or_true, true_or, not_true_eq_false, not_false_eq_true, zl0, zl1, zl2, zl3, zl4, zl5, zl6, zl7, zl8, zl9, zl10, zl11, zl12, zl20, zl24, zl31, zl36, zl40, zl42, zl44, zl48, zl49, zl50, zl55, zl57, zl60, zl97, zl99, zl100, zl102, zl104, zl109, zl113, zl114, zl119, zl126, zl255, zl400, zl1000, zl101, zl103, zl1001, zl1002, zl16, zl18, zl32, zl35, zl443, n_leT, n_leF, n_ltT, n_ltF, n_eqT, n_eqF, n_swT, n_swF, nI_add, n_sub, pk_mul, zd_n, h1, c1, c2, c3, hf]
  · by_cases h2 : nI k ≤ p
    · simp (disch := omega) only [zv, e_gi, e_gr, e_gl, e_si, e_sb, e_ai, e_ar, e_ti, e_ty, e_tz, e_cv, zc_some, zmo_some, zin_T, ↓reduceIte, zit_succ, zzr0, zzr1, true_and, and_true, and_self, or_false, false_or, or_true, true_or, not_true_eq_false, not_false_eq_true, zl0, zl1, zl2, zl3, zl4, zl5, zl6, zl7, zl8, zl9, zl10, zl11, zl12, zl20, zl24, zl31, zl36, zl40, zl42, zl44, zl48, zl49, zl50, zl55, zl57, zl60, zl97, zl99, zl100, zl102, zl104, zl109, zl113, zl114, zl119, zl126, zl255, zl400, zl1000, zl101, zl103, zl1001, zl1002, zl16, zl18, zl32, zl35, zl443, n_leT, n_leF, n_ltT, n_ltF, n_eqT, n_eqF, n_swT, n_swF, nI_add, n_sub, pk_mul, zd_n, h1, h2, c1, c2, c3, hf]
    · simp (disch := omega) only [zv, e_gi, e_gr, e_gl, e_si, e_sb, e_ai, e_ar, e_ti, e_ty, e_tz, e_cv, zc_some, zmo_some, zin_T, ↓reduceIte, zit_succ, zzr0, zzr1, true_and, and_true, and_self, or_false, false_or, or_true, true_or, not_true_eq_false, not_false_eq_true, zl0, zl1, zl2, zl3, zl4, zl5, zl6, zl7, zl8, zl9, zl10, zl11, zl12, zl20, zl24, zl31, zl36, zl40, zl42, zl44, zl48, zl49, zl50, zl55, zl57, zl60, zl97, zl99, zl100, zl102, zl104, zl109, zl113, zl114, zl119, zl126, zl255, zl400, zl1000, zl101, zl103, zl1001, zl1002, zl16, zl18, zl32, zl35, zl443, n_leT, n_leF, n_ltT, n_ltF, n_eqT, n_eqF, n_swT, n_swF, nI_add, n_sub, pk_mul, zd_n, h1, h2, c1, c2, c3, hf]
theorem eC_hasHeight (n : Nat) {S : zH} {f : Nat → Nat → Int32} {c k : Nat} (p : Int32) (hC : zCu S c) (hf : f (c + 1) 1 = nI k) : F_X1_hasHeight n (zwi S f) c p = some (qHas p k, zwi S f) := by
  obtain ⟨c1, c2, c3⟩ := hC
  unfold F_X1_hasHeight F_X1_hasHeight_J18 F_X1_hasHeight_J19
  unfold qHas
  by_cases h1 : p < nI 0
  · simp (disch := omega) only [zv, e_gi, e_gr, e_gl, e_si, e_sb, e_ai, e_ar, e_ti, e_ty, e_tz, e_cv, zc_some, zmo_some, zin_T, ↓reduceIte, zit_succ, zzr0, zzr1, true_and, and_true, and_self, or_false, false_or, or_true, true_or, not_true_eq_false, not_false_eq_true, zl0, zl1, zl2, zl3, zl4, zl5, zl6, zl7, zl8, zl9, zl10, zl11, zl12, zl20, zl24, zl31, zl36, zl40, zl42, zl44, zl48, zl49, zl50, zl55, zl57, zl60, zl97, zl99, zl100, zl102, zl104, zl109, zl113, zl114, zl119, zl126, zl255, zl400, zl1000, zl101, zl103, zl1001, zl1002, zl16, zl18, zl32, zl35, zl443, n_leT, n_leF, n_ltT, n_ltF, n_eqT, n_eqF, n_swT, n_swF, nI_add, n_sub, pk_mul, zd_n, h1, c1, c2, c3, hf]
  · by_cases h2 : nI k ≤ p
    · simp (disch := omega) only [zv, e_gi, e_gr, e_gl, e_si, e_sb, e_ai, e_ar, e_ti, e_ty, e_tz, e_cv, zc_some, zmo_some, zin_T, ↓reduceIte, zit_succ, zzr0, zzr1, true_and, and_true, and_self, or_false, false_or, or_true, true_or, not_true_eq_false, not_false_eq_true, zl0, zl1, zl2, zl3, zl4, zl5, zl6, zl7, zl8, zl9, zl10, zl11, zl12, zl20, zl24, zl31, zl36, zl40, zl42, zl44, zl48, zl49, zl50, zl55, zl57, zl60, zl97, zl99, zl100, zl102, zl104, zl109, zl113, zl114, zl119, zl126, zl255, zl400, zl1000, zl101, zl103, zl1001, zl1002, zl16, zl18, zl32, zl35, zl443, n_leT, n_leF, n_ltT, n_ltF, n_eqT, n_eqF, n_swT, n_swF, nI_add, n_sub, pk_mul, zd_n, h1, h2, c1, c2, c3, hf]
    · simp (disch := omega) only [zv, e_gi, e_gr, e_gl, e_si, e_sb, e_ai, e_ar, e_ti, e_ty, e_tz, e_cv, zc_some, zmo_some, zin_T, ↓reduceIte, zit_succ, zzr0, zzr1, true_and, and_true, and_self, or_false, false_or, or_true, true_or, not_true_eq_false, not_false_eq_true, zl0, zl1, zl2, zl3, zl4, zl5, zl6, zl7, zl8, zl9, zl10, zl11, zl12, zl20, zl24, zl31, zl36, zl40, zl42, zl44, zl48, zl49, zl50, zl55, zl57, zl60, zl97, zl99, zl100, zl102, zl104, zl109, zl113, zl114, zl119, zl126, zl255, zl400, zl1000, zl101, zl103, zl1001, zl1002, zl16, zl18, zl32, zl35, zl443, n_leT, n_leF, n_ltT, n_ltF, n_eqT, n_eqF, n_swT, n_swF, nI_add, n_sub, pk_mul, zd_n, h1, h2, c1, c2, c3, hf]
theorem eC_hasCup (n : Nat) {S : zH} {f : Nat → Nat → Int32} {c k : Nat} (hh : zsh S 0 = some (9, 20)) (hr : zr S 0 4 = some c) (hC : zCu S c) (hf : f (c + 1) 0 = nI k) (hk : k ≤ 6) : F_X10_hasCup n (zwi S f) 0 = some (if k = 0 then nI 0 else nI 1, zwi S f) := by
  have c1 := hC.1
  unfold F_X10_hasCup F_X10_hasCup_J15
  by_cases h1 : k = 0
  · subst h1
    simp (disch := omega) only [zv, e_gi, e_gr, e_gl, e_si, e_sb, e_ai, e_ar, e_ti, e_ty, e_tz, e_cv, zc_some, zmo_some, zin_T, ↓reduceIte, zit_succ, zzr0, zzr1, true_and, and_true, and_self, or_false, false_or, or_true, true_or, not_true_eq_false, not_false_eq_true, zl0, zl1, zl2, zl3, zl4, zl5, zl6, zl7, zl8, zl9, zl10, zl11, zl12, zl20, zl24, zl31, zl36, zl40, zl42, zl44, zl48, zl49, zl50, zl55, zl57, zl60, zl97, zl99, zl100, zl102, zl104, zl109, zl113, zl114, zl119, zl126, zl255, zl400, zl1000, zl101, zl103, zl1001, zl1002, zl16, zl18, zl32, zl35, zl443, n_leT, n_leF, n_ltT, n_ltF, n_eqT, n_eqF, n_swT, n_swF, nI_add, n_sub, pk_mul, zd_n, eX1_rings n hC, c1, hh, hr, hf]
  · simp (disch := omega) only [zv, e_gi, e_gr, e_gl, e_si, e_sb, e_ai, e_ar, e_ti, e_ty, e_tz, e_cv, zc_some, zmo_some, zin_T, ↓reduceIte, zit_succ, zzr0, zzr1, true_and, and_true, and_self, or_false, false_or, or_true, true_or, not_true_eq_false, not_false_eq_true, zl0, zl1, zl2, zl3, zl4, zl5, zl6, zl7, zl8, zl9, zl10, zl11, zl12, zl20, zl24, zl31, zl36, zl40, zl42, zl44, zl48, zl49, zl50, zl55, zl57, zl60, zl97, zl99, zl100, zl102, zl104, zl109, zl113, zl114, zl119, zl126, zl255, zl400, zl1000, zl101, zl103, zl1001, zl1002, zl16, zl18, zl32, zl35, zl443, n_leT, n_leF, n_ltT, n_ltF, n_eqT, n_eqF, n_swT, n_swF, nI_add, n_sub, pk_mul, zd_n, eX1_rings n hC, c1, hh, hr, hf, h1]
theorem eC_hasRiver (n : Nat) {S : zH} {f : Nat → Nat → Int32} {r k : Nat} (hh : zsh S 0 = some (9, 20)) (hr : zr S 0 7 = some r) (hR : zRv S r) (hf : f r 4 = nI k) (hk : k ≤ 10) : F_X10_hasRiver n (zwi S f) 0 = some (if k = 0 then nI 0 else nI 1, zwi S f) := by
  have c1 := hR.1
  unfold F_X10_hasRiver F_X10_hasRiver_J15
  by_cases h1 : k = 0
  · subst h1
    simp (disch := omega) only [zv, e_gi, e_gr, e_gl, e_si, e_sb, e_ai, e_ar, e_ti, e_ty, e_tz, e_cv, zc_some, zmo_some, zin_T, ↓reduceIte, zit_succ, zzr0, zzr1, true_and, and_true, and_self, or_false, false_or, or_true, true_or, not_true_eq_false, not_false_eq_true, zl0, zl1, zl2, zl3, zl4, zl5, zl6, zl7, zl8, zl9, zl10, zl11, zl12, zl20, zl24, zl31, zl36, zl40, zl42, zl44, zl48, zl49, zl50, zl55, zl57, zl60, zl97, zl99, zl100, zl102, zl104, zl109, zl113, zl114, zl119, zl126, zl255, zl400, zl1000, zl101, zl103, zl1001, zl1002, zl16, zl18, zl32, zl35, zl443, n_leT, n_leF, n_ltT, n_ltF, n_eqT, n_eqF, n_swT, n_swF, nI_add, n_sub, pk_mul, zd_n, c1, hh, hr, hf]
  · simp (disch := omega) only [zv, e_gi, e_gr, e_gl, e_si, e_sb, e_ai, e_ar, e_ti, e_ty, e_tz, e_cv, zc_some, zmo_some, zin_T, ↓reduceIte, zit_succ, zzr0, zzr1, true_and, and_true, and_self, or_false, false_or, or_true, true_or, not_true_eq_false, not_false_eq_true, zl0, zl1, zl2, zl3, zl4, zl5, zl6, zl7, zl8, zl9, zl10, zl11, zl12, zl20, zl24, zl31, zl36, zl40, zl42, zl44, zl48, zl49, zl50, zl55, zl57, zl60, zl97, zl99, zl100, zl102, zl104, zl109, zl113, zl114, zl119, zl126, zl255, zl400, zl1000, zl101, zl103, zl1001, zl1002, zl16, zl18, zl32, zl35, zl443, n_leT, n_leF, n_ltT, n_ltF, n_eqT, n_eqF, n_swT, n_swF, nI_add, n_sub, pk_mul, zd_n, c1, hh, hr, hf, h1]
theorem eC_years (n : Nat) (h : zH) (p : Int32) : F_X10_isYears n h p = some (qIn p (nI 0) (nI 99), h) := by
  unfold F_X10_isYears
  simp only [eC_in, zc_some, zl0, zl99, zzr_In]
def qFlow (a b : Int32) : Int32 := if qIn a (nI 0) (nI 9) = nI 0 then nI 0 else qIn b (nI 1) (nI 99)
theorem eC_flow (n : Nat) (h : zH) (p q : Int32) : F_X10_isFlow n h p q = some (qFlow p q, h) := by
  unfold F_X10_isFlow F_X10_isFlow_J24 F_X10_isFlow_J25 qFlow
  rcases qIn_c p (nI 0) (nI 9) with h1 | h1
  · simp (disch := omega) only [eC_in, zc_some, zl0, zl1, zl2, zl3, zl4, zl5, zl6, zl7, zl8, zl9, zl10, zl11, zl12, zl20, zl24, zl31, zl36, zl40, zl42, zl44, zl48, zl49, zl50, zl55, zl57, zl60, zl97, zl99, zl100, zl102, zl104, zl109, zl113, zl114, zl119, zl126, zl255, zl400, zl1000, zl101, zl103, zl1001, zl1002, zl16, zl18, zl32, zl35, zl443, n_leT, n_leF, n_ltT, n_ltF, n_eqT, n_eqF, n_swT, n_swF, nI_add, n_sub, pk_mul, zd_n, zzr_In, h1.1, zzr0, ↓reduceIte]
  · rcases qIn_c q (nI 1) (nI 99) with h2 | h2
    · simp (disch := omega) only [eC_in, zc_some, zl0, zl1, zl2, zl3, zl4, zl5, zl6, zl7, zl8, zl9, zl10, zl11, zl12, zl20, zl24, zl31, zl36, zl40, zl42, zl44, zl48, zl49, zl50, zl55, zl57, zl60, zl97, zl99, zl100, zl102, zl104, zl109, zl113, zl114, zl119, zl126, zl255, zl400, zl1000, zl101, zl103, zl1001, zl1002, zl16, zl18, zl32, zl35, zl443, n_leT, n_leF, n_ltT, n_ltF, n_eqT, n_eqF, n_swT, n_swF, nI_add, n_sub, pk_mul, zd_n, zzr_In, h1.1, h2.1, zzr0, ↓reduceIte]
    · simp (disch := omega) only [eC_in, zc_some, zl0, zl1, zl2, zl3, zl4, zl5, zl6, zl7, zl8, zl9, zl10, zl11, zl12, zl20, zl24, zl31, zl36, zl40, zl42, zl44, zl48, zl49, zl50, zl55, zl57, zl60, zl97, zl99, zl100, zl102, zl104, zl109, zl113, zl114, zl119, zl126, zl255, zl400, zl1000, zl101, zl103, zl1001, zl1002, zl16, zl18, zl32, zl35, zl443, n_leT, n_leF, n_ltT, n_ltF, n_eqT, n_eqF, n_swT, n_swF, nI_add, n_sub, pk_mul, zd_n, zzr_In, h1.1, h2.1, zzr1, ↓reduceIte]
theorem eM_years (n : Nat) (h : zH) (y p q : Int32) : F_X11_areYears n h y p q = some (if qIn y (nI 0) (nI 99) = nI 0 then nI 0 else qFlow p q, h) := by
  unfold F_X11_areYears F_X11_areYears_J34 F_X11_areYears_J35 qFlow
  rcases qIn_c y (nI 0) (nI 99) with h0 | h0
  · simp (disch := omega) only [eM_in, zc_some, zl0, zl1, zl2, zl3, zl4, zl5, zl6, zl7, zl8, zl9, zl10, zl11, zl12, zl20, zl24, zl31, zl36, zl40, zl42, zl44, zl48, zl49, zl50, zl55, zl57, zl60, zl97, zl99, zl100, zl102, zl104, zl109, zl113, zl114, zl119, zl126, zl255, zl400, zl1000, zl101, zl103, zl1001, zl1002, zl16, zl18, zl32, zl35, zl443, n_leT, n_leF, n_ltT, n_ltF, n_eqT, n_eqF, n_swT, n_swF, nI_add, n_sub, pk_mul, zd_n, zzr_In, h0.1, zzr0, ↓reduceIte]
  · rcases qIn_c p (nI 0) (nI 9) with h1 | h1
    · simp (disch := omega) only [eM_in, zc_some, zl0, zl1, zl2, zl3, zl4, zl5, zl6, zl7, zl8, zl9, zl10, zl11, zl12, zl20, zl24, zl31, zl36, zl40, zl42, zl44, zl48, zl49, zl50, zl55, zl57, zl60, zl97, zl99, zl100, zl102, zl104, zl109, zl113, zl114, zl119, zl126, zl255, zl400, zl1000, zl101, zl103, zl1001, zl1002, zl16, zl18, zl32, zl35, zl443, n_leT, n_leF, n_ltT, n_ltF, n_eqT, n_eqF, n_swT, n_swF, nI_add, n_sub, pk_mul, zd_n, zzr_In, h0.1, h1.1, zzr0, ↓reduceIte]
    · rcases qIn_c q (nI 1) (nI 99) with h2 | h2
      · simp (disch := omega) only [eM_in, zc_some, zl0, zl1, zl2, zl3, zl4, zl5, zl6, zl7, zl8, zl9, zl10, zl11, zl12, zl20, zl24, zl31, zl36, zl40, zl42, zl44, zl48, zl49, zl50, zl55, zl57, zl60, zl97, zl99, zl100, zl102, zl104, zl109, zl113, zl114, zl119, zl126, zl255, zl400, zl1000, zl101, zl103, zl1001, zl1002, zl16, zl18, zl32, zl35, zl443, n_leT, n_leF, n_ltT, n_ltF, n_eqT, n_eqF, n_swT, n_swF, nI_add, n_sub, pk_mul, zd_n, zzr_In, h0.1, h1.1, h2.1, zzr0, ↓reduceIte]
      · simp (disch := omega) only [eM_in, zc_some, zl0, zl1, zl2, zl3, zl4, zl5, zl6, zl7, zl8, zl9, zl10, zl11, zl12, zl20, zl24, zl31, zl36, zl40, zl42, zl44, zl48, zl49, zl50, zl55, zl57, zl60, zl97, zl99, zl100, zl102, zl104, zl109, zl113, zl114, zl119, zl126, zl255, zl400, zl1000, zl101, zl103, zl1001, zl1002, zl16, zl18, zl32, zl35, zl443, n_leT, n_leF, n_ltT, n_ltF, n_eqT, n_eqF, n_swT, n_swF, nI_add, n_sub, pk_mul, zd_n, zzr_In, h0.1, h1.1, h2.1, zzr1, ↓reduceIte]
theorem eM_isDoing (n : Nat) {S : zH} {f : Nat → Nat → Int32} {k : Nat} (p : Int32) (hM : zMo S) (hf : f 85 5 = nI k) (hk : k ≤ 8) : F_X11_isDoing n (zwi S f) 85 p = some (qHas p k, zwi S f) := by
  unfold F_X11_isDoing
  simp only [zv, e_gi, e_gr, e_gl, e_si, e_sb, e_ai, e_ar, e_ti, e_ty, e_tz, e_cv, zc_some, zmo_some, zin_T, ↓reduceIte, zit_succ, zzr0, zzr1, true_and, and_true, and_self, or_false, false_or, or_true, true_or, not_true_eq_false, not_false_eq_true, eM_in, mo_s85 hM, hf, zl0, zl1, qIn_has p (k := k) (by omega), zzr_Has]
theorem eM_isRow (n : Nat) {S : zH} {f : Nat → Nat → Int32} {k : Nat} (p : Int32) (hM : zMo S) (hf : f 85 16 = nI k) (hk : k ≤ 8) : F_X11_isRow n (zwi S f) 85 p = some (qHas p k, zwi S f) := by
  unfold F_X11_isRow
  simp only [zv, e_gi, e_gr, e_gl, e_si, e_sb, e_ai, e_ar, e_ti, e_ty, e_tz, e_cv, zc_some, zmo_some, zin_T, ↓reduceIte, zit_succ, zzr0, zzr1, true_and, and_true, and_self, or_false, false_or, or_true, true_or, not_true_eq_false, not_false_eq_true, eM_in, mo_s85 hM, hf, zl0, zl1, qIn_has p (k := k) (by omega), zzr_Has]
theorem eM_isLeaf (n : Nat) {S : zH} {f : Nat → Nat → Int32} {k : Nat} (p : Int32) (hM : zMo S) (hf : f 85 8 = nI k) (hk : k ≤ 8) : F_X11_isLeaf n (zwi S f) 85 p = some (qHas p k, zwi S f) := by
  unfold F_X11_isLeaf
  simp only [zv, e_gi, e_gr, e_gl, e_si, e_sb, e_ai, e_ar, e_ti, e_ty, e_tz, e_cv, zc_some, zmo_some, zin_T, ↓reduceIte, zit_succ, zzr0, zzr1, true_and, and_true, and_self, or_false, false_or, or_true, true_or, not_true_eq_false, not_false_eq_true, eM_in, mo_s85 hM, hf, zl0, zl1, qIn_has p (k := k) (by omega), zzr_Has]
theorem eM_isRing (n : Nat) {S : zH} {f : Nat → Nat → Int32} {R : Nat} (p : Int32) (hM : zMo S) (hf : f 86 0 = nI R) (hk : (R = 0 ∧ f 85 1 = nI 0) ∨ (1 ≤ R ∧ R ≤ 6 ∧ f 85 1 = nI 1)) : F_X11_isRing n (zwi S f) 85 p = some (qHas p R, zwi S f) := by
  unfold F_X11_isRing F_X11_isRing_J27 F_X11_isRing_J28
  rcases hk with ⟨h0, h1⟩ | ⟨h0, h2, h1⟩
  · subst h0
    have e : qHas p 0 = nI 0 := by
      rcases qHas_c p (k := 0) (by omega) with h | ⟨m, hm, -⟩
      · exact h
      · omega
    simp (disch := omega) only [zv, e_gi, e_gr, e_gl, e_si, e_sb, e_ai, e_ar, e_ti, e_ty, e_tz, e_cv, zc_some, zmo_some, zin_T, ↓reduceIte, zit_succ, zzr0, zzr1, true_and, and_true, and_self, or_false, false_or, or_true, true_or, not_true_eq_false, not_false_eq_true, zl0, zl1, zl2, zl3, zl4, zl5, zl6, zl7, zl8, zl9, zl10, zl11, zl12, zl20, zl24, zl31, zl36, zl40, zl42, zl44, zl48, zl49, zl50, zl55, zl57, zl60, zl97, zl99, zl100, zl102, zl104, zl109, zl113, zl114, zl119, zl126, zl255, zl400, zl1000, zl101, zl103, zl1001, zl1002, zl16, zl18, zl32, zl35, zl443, n_leT, n_leF, n_ltT, n_ltF, n_eqT, n_eqF, n_swT, n_swF, nI_add, n_sub, pk_mul, zd_n, mo_s85 hM, mo_r0 hM, mo_s86 hM, mo_r3 hM, mo_s87 hM, mo_r4 hM, mo_s88 hM, mo_r6 hM, mo_s89 hM, mo_r7 hM, mo_s90 hM, mo_r9 hM, mo_s91 hM, mo_r10 hM, mo_s92 hM, mo_r11 hM, mo_s93 hM, mo_r12 hM, mo_s94 hM, mo_r13 hM, mo_s95 hM, mo_r14 hM, mo_s96 hM, mo_r15 hM, mo_s97 hM, mo_r17 hM, mo_s98 hM, mo_r18 hM, mo_s99 hM, mo_r19 hM, mo_s100 hM, mo_r21 hM, mo_s101 hM, mo_r22 hM, mo_s102 hM, mo_r24 hM, mo_s103 hM, mo_r25 hM, mo_s104 hM, mo_r28 hM, mo_s105 hM, mo_r32 hM, mo_s106 hM, mo_r33 hM, mo_s107 hM, mo_r34 hM, mo_s108 hM, mo_r35 hM, mo_s109 hM, mo_r38 hM, mo_s110 hM, mo_r40 hM, mo_s111 hM, mo_r41 hM, mo_s112 hM, mo_r43 hM, mo_s113 hM, mo_r44 hM, mo_s114 hM, mo_r45 hM, mo_s115 hM, mo_r46 hM, mo_s116 hM, h1, e]
  · have e := qIn_has p (k := R) (by omega)
    have e1 : zsh S 86 = some (20, 6) := mo_s86 hM
    rcases qHas_c p (k := R) (by omega) with h | ⟨m, hm, hp, h⟩
    · simp only [zv, e_gi, e_gr, e_gl, e_si, e_sb, e_ai, e_ar, e_ti, e_ty, e_tz, e_cv, zc_some, zmo_some, zin_T, ↓reduceIte, zit_succ, zzr0, zzr1, true_and, and_true, and_self, or_false, false_or, or_true, true_or, not_true_eq_false, not_false_eq_true, zl0, zl1, e_ai S f 86 20 0 _ (by omega), eM_in, mo_s85 hM, mo_r0 hM, e1, zin_T (show 0 < 6 by omega), h1, hf, e, h, n_eqF (show 1 ≠ 0 ∧ 1 < 2147483648 ∧ 0 < 2147483648 by omega)]
    · simp only [zv, e_gi, e_gr, e_gl, e_si, e_sb, e_ai, e_ar, e_ti, e_ty, e_tz, e_cv, zc_some, zmo_some, zin_T, ↓reduceIte, zit_succ, zzr0, zzr1, true_and, and_true, and_self, or_false, false_or, or_true, true_or, not_true_eq_false, not_false_eq_true, zl0, zl1, e_ai S f 86 20 0 _ (by omega), eM_in, mo_s85 hM, mo_r0 hM, e1, zin_T (show 0 < 6 by omega), h1, hf, e, h, n_eqF (show 1 ≠ 0 ∧ 1 < 2147483648 ∧ 0 < 2147483648 by omega)]
