/-- letters ahead of the first 0, so far: place, letters -/
def sLt (s : Nat × Nat) (c : Nat) : Option (Nat × Nat) := if 126 < c then none else if c = 0 then some (s.1 + 1, s.2) else if s.1 ≤ s.2 then some (s.1 + 1, s.2 + 1) else none
theorem sLt_inv {cd : Nat → Nat} {k : Nat} {s : Nat × Nat} (h : tst sLt (0, 0) cd k = some s) : s.1 = k ∧ s.2 ≤ k ∧ ∀ j, j < k → cd j ≤ 126 := by
  refine tst_inv (P := fun i s => s.1 = i ∧ s.2 ≤ i ∧ ∀ j, j < i → cd j ≤ 126) ⟨rfl, Nat.le_refl _, fun j hj => by omega⟩ (fun i a b hi ha hb => ?_) h
  obtain ⟨a1, a2, a3⟩ := ha
  unfold sLt at hb
  by_cases h1 : 126 < cd i
  · rw [if_pos h1] at hb
    cases hb
  · rw [if_neg h1] at hb
    have a4 : ∀ j, j < i + 1 → cd j ≤ 126 := fun j hj => by
      by_cases e : j = i
      · subst e; omega
      · exact a3 j (by omega)
    by_cases h2 : cd i = 0
    · rw [if_pos h2] at hb
      cases hb
      exact ⟨by omega, by omega, a4⟩
    · rw [if_neg h2] at hb
      by_cases h3 : a.1 ≤ a.2
      · rw [if_pos h3] at hb
        cases hb
        exact ⟨by omega, by omega, a4⟩
      · rw [if_neg h3] at hb
        cases hb
theorem eC_byteOf (n : Nat) (h : zH) {m k : Nat} (hm : m < 2 ^ 64) (hk : k < 8) : F_X5_byteOf n h (lN m) (nI k) = some (nI (wB m k), h) := by
  unfold F_X5_byteOf
  simp only [zv, zl8, pk_mul]
  rw [wb_u hm hk, wb_i _ (wB_lt m k)]
theorem eC_lettersIn (n : Nat) {S : zH} {f : Nat → Nat → Int32} {m k : Nat} {s : Nat × Nat} (hn : 513 < n) (hm : m < 2 ^ 64) (hk : k ≤ 8) (ht : tst sLt (0, 0) (wB m) k = some s) (hs : k = 8 ∨ (k < 8 ∧ sLt s (wB m k) = none)) : F_X5_lettersIn n (zwi S f) (lN m) = some (if k = 8 then nI s.2 else -nI 1, zwi S f) := by
  unfold F_X5_lettersIn F_X5_lettersIn_L4
  have key9 := zforE (body := fun kc x => F_X5_lettersIn_B4 n kc x.1 (lN m) x.2.1 x.2.2) (fun i x => ∃ L, tst sLt (0, 0) (wB m) i = some (i, L) ∧ x = (zwi S f, nI L, nI i)) k (Q := fun r => r = some (if k = 8 then nI s.2 else -nI 1, zwi S f)) (fun i x hi hx => ?_) (fun x hx => ?_) (n := n) (by omega) (x := (zwi S f, (0 : Int32), (0 : Int32))) ⟨0, rfl, rfl⟩
  · obtain ⟨r, e1, e2⟩ := key9
    rw [e2, e1]
  · obtain ⟨L, h1, rfl⟩ := hx
    obtain ⟨s', h2, h3⟩ := tst_step ht hi h1
    have hL := (sLt_inv h1).2.1
    have eb := eC_byteOf n (zwi S f) hm (show i < 8 by omega)
    have hc := wB_lt m i
    generalize wB m i = c at eb hc h2
    unfold sLt at h2
    by_cases a1 : 126 < c
    · rw [if_pos a1] at h2
      cases h2
    · rw [if_neg a1] at h2
      by_cases a2 : c = 0
      · rw [if_pos a2] at h2
        cases h2
        subst a2
        exact ⟨_, ⟨L, h3, rfl⟩, fun kc => by simp (disch := omega) only [F_X5_lettersIn_B4, F_X5_lettersIn_J36, F_X5_lettersIn_J44, zv, e_gi, e_gr, e_gl, e_si, e_sb, e_ai, e_ar, e_ti, e_ty, e_tz, e_cv, zc_some, zmo_some, zin_T, ↓reduceIte, zit_succ, zzr0, zzr1, true_and, and_true, and_self, or_false, false_or, or_true, true_or, not_true_eq_false, not_false_eq_true, zl0, zl1, zl2, zl3, zl4, zl5, zl6, zl7, zl8, zl9, zl10, zl11, zl12, zl20, zl24, zl31, zl36, zl40, zl42, zl44, zl48, zl49, zl50, zl55, zl57, zl60, zl97, zl99, zl100, zl102, zl104, zl109, zl113, zl114, zl119, zl126, zl255, zl400, zl1000, zl101, zl103, zl1001, zl1002, zl16, zl18, zl32, zl35, zl443, n_leT, n_leF, n_ltT, n_ltF, n_eqT, n_eqF, n_swT, n_swF, nI_add, n_sub, pk_mul, zd_n, eb]⟩
      · rw [if_neg a2] at h2
        by_cases a3 : i ≤ L
        · rw [if_pos a3] at h2
          cases h2
          exact ⟨_, ⟨L + 1, h3, rfl⟩, fun kc => by simp (disch := omega) only [F_X5_lettersIn_B4, F_X5_lettersIn_J36, F_X5_lettersIn_J44, zv, e_gi, e_gr, e_gl, e_si, e_sb, e_ai, e_ar, e_ti, e_ty, e_tz, e_cv, zc_some, zmo_some, zin_T, ↓reduceIte, zit_succ, zzr0, zzr1, true_and, and_true, and_self, or_false, false_or, or_true, true_or, not_true_eq_false, not_false_eq_true, zl0, zl1, zl2, zl3, zl4, zl5, zl6, zl7, zl8, zl9, zl10, zl11, zl12, zl20, zl24, zl31, zl36, zl40, zl42, zl44, zl48, zl49, zl50, zl55, zl57, zl60, zl97, zl99, zl100, zl102, zl104, zl109, zl113, zl114, zl119, zl126, zl255, zl400, zl1000, zl101, zl103, zl1001, zl1002, zl16, zl18, zl32, zl35, zl443, n_leT, n_leF, n_ltT, n_ltF, n_eqT, n_eqF, n_swT, n_swF, nI_add, n_sub, pk_mul, zd_n, eb]⟩
        · rw [if_neg a3] at h2
          cases h2
  · obtain ⟨L, h1, rfl⟩ := hx
    have es : s = (k, L) := Option.some.inj (ht.symm.trans h1)
    subst es
    have hL := (sLt_inv h1).2.1
    refine ⟨_, rfl, fun kc => ?_⟩
    rcases hs with hs | ⟨hs, h2⟩
    · subst hs
      rw [if_pos rfl]
      simp (disch := omega) only [F_X5_lettersIn_B4, zv, e_gi, e_gr, e_gl, e_si, e_sb, e_ai, e_ar, e_ti, e_ty, e_tz, e_cv, zc_some, zmo_some, zin_T, ↓reduceIte, zit_succ, zzr0, zzr1, true_and, and_true, and_self, or_false, false_or, or_true, true_or, not_true_eq_false, not_false_eq_true, zl0, zl1, zl2, zl3, zl4, zl5, zl6, zl7, zl8, zl9, zl10, zl11, zl12, zl20, zl24, zl31, zl36, zl40, zl42, zl44, zl48, zl49, zl50, zl55, zl57, zl60, zl97, zl99, zl100, zl102, zl104, zl109, zl113, zl114, zl119, zl126, zl255, zl400, zl1000, zl101, zl103, zl1001, zl1002, zl16, zl18, zl32, zl35, zl443, n_leT, n_leF, n_ltT, n_ltF, n_eqT, n_eqF, n_swT, n_swF, nI_add, n_sub, pk_mul, zd_n]
    · rw [if_neg (by omega)]
      have eb := eC_byteOf n (zwi S f) hm hs
      have hc := wB_lt m k
      generalize wB m k = c at eb hc h2
      unfold sLt at h2
      by_cases a1 : 126 < c
      · simp (disch := omega) only [F_X5_lettersIn_B4, F_X5_lettersIn_J34, zv, e_gi, e_gr, e_gl, e_si, e_sb, e_ai, e_ar, e_ti, e_ty, e_tz, e_cv, zc_some, zmo_some, zin_T, ↓reduceIte, zit_succ, zzr0, zzr1, true_and, and_true, and_self, or_false, false_or, or_true, true_or, not_true_eq_false, not_false_eq_true, zl0, zl1, zl2, zl3, zl4, zl5, zl6, zl7, zl8, zl9, zl10, zl11, zl12, zl20, zl24, zl31, zl36, zl40, zl42, zl44, zl48, zl49, zl50, zl55, zl57, zl60, zl97, zl99, zl100, zl102, zl104, zl109, zl113, zl114, zl119, zl126, zl255, zl400, zl1000, zl101, zl103, zl1001, zl1002, zl16, zl18, zl32, zl35, zl443, n_leT, n_leF, n_ltT, n_ltF, n_eqT, n_eqF, n_swT, n_swF, nI_add, n_sub, pk_mul, zd_n, eb]
      · rw [if_neg a1] at h2
        by_cases a2 : c = 0
        · rw [if_pos a2] at h2
          cases h2
        · rw [if_neg a2] at h2
          by_cases a3 : k ≤ L
          · rw [if_pos a3] at h2
            cases h2
          · simp (disch := omega) only [F_X5_lettersIn_B4, F_X5_lettersIn_J34, zv, e_gi, e_gr, e_gl, e_si, e_sb, e_ai, e_ar, e_ti, e_ty, e_tz, e_cv, zc_some, zmo_some, zin_T, ↓reduceIte, zit_succ, zzr0, zzr1, true_and, and_true, and_self, or_false, false_or, or_true, true_or, not_true_eq_false, not_false_eq_true, zl0, zl1, zl2, zl3, zl4, zl5, zl6, zl7, zl8, zl9, zl10, zl11, zl12, zl20, zl24, zl31, zl36, zl40, zl42, zl44, zl48, zl49, zl50, zl55, zl57, zl60, zl97, zl99, zl100, zl102, zl104, zl109, zl113, zl114, zl119, zl126, zl255, zl400, zl1000, zl101, zl103, zl1001, zl1002, zl16, zl18, zl32, zl35, zl443, n_leT, n_leF, n_ltT, n_ltF, n_eqT, n_eqF, n_swT, n_swF, nI_add, n_sub, pk_mul, zd_n, eb]
/-- letters on the page of the class -/
theorem eC_append (n : Nat) {S : zH} {f : Nat → Nat → Int32} {m L pl : Nat} (hn : 513 < n) (hm : m < 2 ^ 64) (hL : L ≤ 8) (hp : f 1 1 = nI pl) (hpl : pl + L ≤ 50) (h1 : zsh S 1 = some (5, 2)) (h2 : zsh S 2 = some (20, 50)) (hr : zr S 1 0 = some 2) :
    ∃ F, F_X5_append_L29 n (zwi S f) 1 (lN m) (nI L) (nI 0) = some (nI (pl + L), zwi S F) ∧ F 1 1 = nI (pl + L) ∧ (∀ j, j < L → F 2 (pl + j) = nI (wB m j)) ∧ (∀ j, j < pl → F 2 j = f 2 j) ∧ ∀ a j, a ≠ 1 → a ≠ 2 → F a j = f a j := by
  unfold F_X5_append_L29
  have key9 := zforE (body := fun kc x => F_X5_append_B29 n kc x.1 1 (lN m) (nI L) x.2) (fun i x => ∃ F, x = (zwi S F, nI i) ∧ F 1 1 = nI (pl + i) ∧ (∀ j, j < i → F 2 (pl + j) = nI (wB m j)) ∧ (∀ j, j < pl → F 2 j = f 2 j) ∧ ∀ a j, a ≠ 1 → a ≠ 2 → F a j = f a j) L (Q := fun r => ∃ F, r = some (nI (pl + L), zwi S F) ∧ F 1 1 = nI (pl + L) ∧ (∀ j, j < L → F 2 (pl + j) = nI (wB m j)) ∧ (∀ j, j < pl → F 2 j = f 2 j) ∧ ∀ a j, a ≠ 1 → a ≠ 2 → F a j = f a j) (fun i x hi hx => ?_) (fun x hx => ?_) (n := n) (by omega) (x := (zwi S f, nI 0)) ⟨f, rfl, hp, fun j hj => by omega, fun _ _ => rfl, fun _ _ _ _ => rfl⟩
  · obtain ⟨r, ⟨F, e1, e3⟩, e2⟩ := key9
    exact ⟨F, by rw [e2, e1], e3⟩
  · obtain ⟨F, rfl, g1, g2, g3, g4⟩ := hx
    have eb := fun h => eC_byteOf n h hm (show i < 8 by omega)
    refine ⟨_, ⟨z2 (z2 F 2 (pl + i) (nI (wB m i))) 1 1 (nI (pl + i + 1)), rfl, z2_eq _ _ _ _, fun j hj => ?_, fun j hj => ?_, fun a j q1 q2 => ?_⟩, fun kc => by simp (disch := omega) only [F_X5_append_B29, zv, e_gi, e_gr, e_gl, e_si, e_sb, e_ai, e_ar, e_ti, e_ty, e_tz, e_cv, zc_some, zmo_some, zin_T, ↓reduceIte, zit_succ, zzr0, zzr1, true_and, and_true, and_self, or_false, false_or, or_true, true_or, not_true_eq_false, not_false_eq_true, zl0, zl1, zl2, zl3, zl4, zl5, zl6, zl7, zl8, zl9, zl10, zl11, zl12, zl20, zl24, zl31, zl36, zl40, zl42, zl44, zl48, zl49, zl50, zl55, zl57, zl60, zl97, zl99, zl100, zl102, zl104, zl109, zl113, zl114, zl119, zl126, zl255, zl400, zl1000, zl101, zl103, zl1001, zl1002, zl16, zl18, zl32, zl35, zl443, n_leT, n_leF, n_ltT, n_ltF, n_eqT, n_eqF, n_swT, n_swF, nI_add, n_sub, pk_mul, zd_n, z2_eq, z2n, h1, h2, hr, g1, eb]⟩
    · rw [z2n (by omega)]
      by_cases e : j = i
      · subst e; exact z2_eq _ _ _ _
      · rw [z2n (by omega)]; exact g2 j (by omega)
    · rw [z2n (by omega), z2n (by omega)]; exact g3 j hj
    · rw [z2n (by omega), z2n (by omega)]; exact g4 a j q1 q2
  · obtain ⟨F, rfl, g1, g2⟩ := hx
    exact ⟨_, ⟨F, rfl, g1, g2⟩, fun kc => by simp (disch := omega) only [F_X5_append_B29, zv, e_gi, e_gr, e_gl, e_si, e_sb, e_ai, e_ar, e_ti, e_ty, e_tz, e_cv, zc_some, zmo_some, zin_T, ↓reduceIte, zit_succ, zzr0, zzr1, true_and, and_true, and_self, or_false, false_or, or_true, true_or, not_true_eq_false, not_false_eq_true, zl0, zl1, zl2, zl3, zl4, zl5, zl6, zl7, zl8, zl9, zl10, zl11, zl12, zl20, zl24, zl31, zl36, zl40, zl42, zl44, zl48, zl49, zl50, zl55, zl57, zl60, zl97, zl99, zl100, zl102, zl104, zl109, zl113, zl114, zl119, zl126, zl255, zl400, zl1000, zl101, zl103, zl1001, zl1002, zl16, zl18, zl32, zl35, zl443, n_leT, n_leF, n_ltT, n_ltF, n_eqT, n_eqF, n_swT, n_swF, nI_add, n_sub, pk_mul, zd_n, h1, g1]⟩
theorem eM_letters (n : Nat) {S : zH} {f : Nat → Nat → Int32} {m k : Nat} {s : Nat × Nat} {X : Option (Int32 × zH)} (hn : 513 < n) (hm : m < 2 ^ 64) (hk : k ≤ 8) (ht : tst sLt (0, 0) (wB m) k = some s) (hs : k = 8 ∨ (k < 8 ∧ sLt s (wB m k) = none))
    (hX : (k < 8 ∧ X = some (-nI 102, zwi S f)) ∨ (k = 8 ∧ X = F_X11_letters_B8 n (fun _ => none) (zwi S f) 85 (lN m) (nI s.2) (if 8 ≤ s.2 then nI 0 else nI 1) (nI 8))) : F_X11_letters n (zwi S f) 85 (lN m) = X := by
  unfold F_X11_letters F_X11_letters_L8
  have key9 := zforE (body := fun kc x => F_X11_letters_B8 n kc x.1 85 (lN m) x.2.1 x.2.2.1 x.2.2.2) (fun i x => ∃ L, tst sLt (0, 0) (wB m) i = some (i, L) ∧ x = (zwi S f, nI L, (if i ≤ L then nI 0 else nI 1), nI i)) k (Q := fun r => r = X) (fun i x hi hx => ?_) (fun x hx => ?_) (n := n) (by omega) (x := (zwi S f, (0 : Int32), (0 : Int32), (0 : Int32))) ⟨0, rfl, rfl⟩
  · obtain ⟨r, e1, e2⟩ := key9
    rw [e2, e1]
  · obtain ⟨L, h1, rfl⟩ := hx
    obtain ⟨s', h2, h3⟩ := tst_step ht hi h1
    have hL := (sLt_inv h1).2.1
    have eb := wb_s hm (show i < 8 by omega)
    have hc := wB_lt m i
    have ei := wb_i _ hc
    generalize wB m i = c at eb hc h2 ei
    unfold sLt at h2
    by_cases a1 : 126 < c
    · rw [if_pos a1] at h2
      cases h2
    · rw [if_neg a1] at h2
      by_cases a2 : c = 0
      · rw [if_pos a2] at h2
        cases h2
        subst a2
        refine ⟨_, ⟨L, h3, rfl⟩, fun kc => ?_⟩
        have hn1 : ¬ i + 1 ≤ L := by omega
        rw [if_neg hn1]
        by_cases a3 : i ≤ L
        · rw [if_pos a3]
          simp (disch := omega) only [F_X11_letters_B8, F_X11_letters_J49, F_X11_letters_J59, F_X11_letters_J64, F_X11_letters_J77, zv, e_gi, e_gr, e_gl, e_si, e_sb, e_ai, e_ar, e_ti, e_ty, e_tz, e_cv, zc_some, zmo_some, zin_T, ↓reduceIte, zit_succ, zzr0, zzr1, true_and, and_true, and_self, or_false, false_or, or_true, true_or, not_true_eq_false, not_false_eq_true, zl0, zl1, zl2, zl3, zl4, zl5, zl6, zl7, zl8, zl9, zl10, zl11, zl12, zl20, zl24, zl31, zl36, zl40, zl42, zl44, zl48, zl49, zl50, zl55, zl57, zl60, zl97, zl99, zl100, zl102, zl104, zl109, zl113, zl114, zl119, zl126, zl255, zl400, zl1000, zl101, zl103, zl1001, zl1002, zl16, zl18, zl32, zl35, zl443, n_leT, n_leF, n_ltT, n_ltF, n_eqT, n_eqF, n_swT, n_swF, nI_add, n_sub, pk_mul, zd_n, eb, ei, Nat.add_zero]
        · rw [if_neg a3]
          simp (disch := omega) only [F_X11_letters_B8, F_X11_letters_J49, F_X11_letters_J59, F_X11_letters_J64, F_X11_letters_J77, zv, e_gi, e_gr, e_gl, e_si, e_sb, e_ai, e_ar, e_ti, e_ty, e_tz, e_cv, zc_some, zmo_some, zin_T, ↓reduceIte, zit_succ, zzr0, zzr1, true_and, and_true, and_self, or_false, false_or, or_true, true_or, not_true_eq_false, not_false_eq_true, zl0, zl1, zl2, zl3, zl4, zl5, zl6, zl7, zl8, zl9, zl10, zl11, zl12, zl20, zl24, zl31, zl36, zl40, zl42, zl44, zl48, zl49, zl50, zl55, zl57, zl60, zl97, zl99, zl100, zl102, zl104, zl109, zl113, zl114, zl119, zl126, zl255, zl400, zl1000, zl101, zl103, zl1001, zl1002, zl16, zl18, zl32, zl35, zl443, n_leT, n_leF, n_ltT, n_ltF, n_eqT, n_eqF, n_swT, n_swF, nI_add, n_sub, pk_mul, zd_n, eb, ei, Nat.add_zero]
      · rw [if_neg a2] at h2
        by_cases a3 : i ≤ L
        · rw [if_pos a3] at h2
          cases h2
          refine ⟨_, ⟨L + 1, h3, rfl⟩, fun kc => ?_⟩
          rw [if_pos a3, if_pos (show i + 1 ≤ L + 1 by omega)]
          simp (disch := omega) only [F_X11_letters_B8, F_X11_letters_J49, F_X11_letters_J59, F_X11_letters_J64, F_X11_letters_J77, zv, e_gi, e_gr, e_gl, e_si, e_sb, e_ai, e_ar, e_ti, e_ty, e_tz, e_cv, zc_some, zmo_some, zin_T, ↓reduceIte, zit_succ, zzr0, zzr1, true_and, and_true, and_self, or_false, false_or, or_true, true_or, not_true_eq_false, not_false_eq_true, zl0, zl1, zl2, zl3, zl4, zl5, zl6, zl7, zl8, zl9, zl10, zl11, zl12, zl20, zl24, zl31, zl36, zl40, zl42, zl44, zl48, zl49, zl50, zl55, zl57, zl60, zl97, zl99, zl100, zl102, zl104, zl109, zl113, zl114, zl119, zl126, zl255, zl400, zl1000, zl101, zl103, zl1001, zl1002, zl16, zl18, zl32, zl35, zl443, n_leT, n_leF, n_ltT, n_ltF, n_eqT, n_eqF, n_swT, n_swF, nI_add, n_sub, pk_mul, zd_n, eb, ei]
        · rw [if_neg a3] at h2
          cases h2
  · obtain ⟨L, h1, rfl⟩ := hx
    have es : s = (k, L) := Option.some.inj (ht.symm.trans h1)
    subst es
    have hL := (sLt_inv h1).2.1
    refine ⟨_, rfl, fun kc => ?_⟩
    rcases hX with ⟨hk8, rfl⟩ | ⟨hk8, rfl⟩
    · rcases hs with hs | ⟨hs, h2⟩
      · omega
      · have eb := wb_s hm hs
        have hc := wB_lt m k
        have ei := wb_i _ hc
        generalize wB m k = c at eb hc h2 ei
        unfold sLt at h2
        by_cases a1 : 126 < c
        · simp (disch := omega) only [F_X11_letters_B8, F_X11_letters_J46, zv, e_gi, e_gr, e_gl, e_si, e_sb, e_ai, e_ar, e_ti, e_ty, e_tz, e_cv, zc_some, zmo_some, zin_T, ↓reduceIte, zit_succ, zzr0, zzr1, true_and, and_true, and_self, or_false, false_or, or_true, true_or, not_true_eq_false, not_false_eq_true, zl0, zl1, zl2, zl3, zl4, zl5, zl6, zl7, zl8, zl9, zl10, zl11, zl12, zl20, zl24, zl31, zl36, zl40, zl42, zl44, zl48, zl49, zl50, zl55, zl57, zl60, zl97, zl99, zl100, zl102, zl104, zl109, zl113, zl114, zl119, zl126, zl255, zl400, zl1000, zl101, zl103, zl1001, zl1002, zl16, zl18, zl32, zl35, zl443, n_leT, n_leF, n_ltT, n_ltF, n_eqT, n_eqF, n_swT, n_swF, nI_add, n_sub, pk_mul, zd_n, eb, ei]
        · rw [if_neg a1] at h2
          by_cases a2 : c = 0
          · rw [if_pos a2] at h2
            cases h2
          · rw [if_neg a2] at h2
            by_cases a3 : k ≤ L
            · rw [if_pos a3] at h2
              cases h2
            · rw [if_neg a3]
              simp (disch := omega) only [F_X11_letters_B8, F_X11_letters_J46, zv, e_gi, e_gr, e_gl, e_si, e_sb, e_ai, e_ar, e_ti, e_ty, e_tz, e_cv, zc_some, zmo_some, zin_T, ↓reduceIte, zit_succ, zzr0, zzr1, true_and, and_true, and_self, or_false, false_or, or_true, true_or, not_true_eq_false, not_false_eq_true, zl0, zl1, zl2, zl3, zl4, zl5, zl6, zl7, zl8, zl9, zl10, zl11, zl12, zl20, zl24, zl31, zl36, zl40, zl42, zl44, zl48, zl49, zl50, zl55, zl57, zl60, zl97, zl99, zl100, zl102, zl104, zl109, zl113, zl114, zl119, zl126, zl255, zl400, zl1000, zl101, zl103, zl1001, zl1002, zl16, zl18, zl32, zl35, zl443, n_leT, n_leF, n_ltT, n_ltF, n_eqT, n_eqF, n_swT, n_swF, nI_add, n_sub, pk_mul, zd_n, eb, ei]
    · subst hk8
      unfold F_X11_letters_B8
      simp (disch := omega) only [zv, e_gi, e_gr, e_gl, e_si, e_sb, e_ai, e_ar, e_ti, e_ty, e_tz, e_cv, zc_some, zmo_some, zin_T, ↓reduceIte, zit_succ, zzr0, zzr1, true_and, and_true, and_self, or_false, false_or, or_true, true_or, not_true_eq_false, not_false_eq_true, zl0, zl1, zl2, zl3, zl4, zl5, zl6, zl7, zl8, zl9, zl10, zl11, zl12, zl20, zl24, zl31, zl36, zl40, zl42, zl44, zl48, zl49, zl50, zl55, zl57, zl60, zl97, zl99, zl100, zl102, zl104, zl109, zl113, zl114, zl119, zl126, zl255, zl400, zl1000, zl101, zl103, zl1001, zl1002, zl16, zl18, zl32, zl35, zl443, n_leT, n_leF, n_ltT, n_ltF, n_eqT, n_eqF, n_swT, n_swF, nI_add, n_sub, pk_mul, zd_n]
theorem eM_append (n : Nat) {S : zH} {f : Nat → Nat → Int32} {m L pl : Nat} (hn : 513 < n) (hm : m < 2 ^ 64) (hL : L ≤ 8) (hp : f 85 27 = nI pl) (hpl : pl + L ≤ 50) (hb : ∀ j, j < L → wB m j ≤ 126) (hM : zMo S) :
    ∃ F, F_X11_letters_L102 n (zwi S f) 85 (lN m) (nI L) (nI 0) = some (nI (pl + L), zwi S F) ∧ F 85 27 = nI (pl + L) ∧ (∀ j, j < L → F 105 (pl + j) = nI (wB m j)) ∧ (∀ j, j < pl → F 105 j = f 105 j) ∧ ∀ a j, ¬ (a = 85 ∧ j = 27) → a ≠ 105 → F a j = f a j := by
  unfold F_X11_letters_L102
  have key9 := zforE (body := fun kc x => F_X11_letters_B102 n kc x.1 85 (lN m) (nI L) x.2) (fun i x => ∃ F, x = (zwi S F, nI i) ∧ F 85 27 = nI pl ∧ (∀ j, j < i → F 105 (pl + j) = nI (wB m j)) ∧ (∀ j, j < pl → F 105 j = f 105 j) ∧ ∀ a j, ¬ (a = 85 ∧ j = 27) → a ≠ 105 → F a j = f a j) L (Q := fun r => ∃ F, r = some (nI (pl + L), zwi S F) ∧ F 85 27 = nI (pl + L) ∧ (∀ j, j < L → F 105 (pl + j) = nI (wB m j)) ∧ (∀ j, j < pl → F 105 j = f 105 j) ∧ ∀ a j, ¬ (a = 85 ∧ j = 27) → a ≠ 105 → F a j = f a j) (fun i x hi hx => ?_) (fun x hx => ?_) (n := n) (by omega) (x := (zwi S f, nI 0)) ⟨f, rfl, hp, fun j hj => by omega, fun _ _ => rfl, fun _ _ _ _ => rfl⟩
  · obtain ⟨r, ⟨F, e1, e3⟩, e2⟩ := key9
    exact ⟨F, by rw [e2, e1], e3⟩
  · obtain ⟨F, rfl, g1, g2, g3, g4⟩ := hx
    have eb := wb_page hm (show i < 8 by omega) (hb i hi)
    have eb2 : vp_nar .byte (nI (wB m i)) = nI (wB m i) := (vp_nar_byte _).trans (wb_b _ (by have := hb i hi; omega))
    refine ⟨_, ⟨z2 F 105 (pl + i) (nI (wB m i)), rfl, by rw [z2n (by omega)]; exact g1, fun j hj => ?_, fun j hj => ?_, fun a j q1 q2 => ?_⟩, fun kc => by simp (disch := omega) only [F_X11_letters_B102, zv, e_gi, e_gr, e_gl, e_si, e_sb, e_ai, e_ar, e_ti, e_ty, e_tz, e_cv, zc_some, zmo_some, zin_T, ↓reduceIte, zit_succ, zzr0, zzr1, true_and, and_true, and_self, or_false, false_or, or_true, true_or, not_true_eq_false, not_false_eq_true, zl0, zl1, zl2, zl3, zl4, zl5, zl6, zl7, zl8, zl9, zl10, zl11, zl12, zl20, zl24, zl31, zl36, zl40, zl42, zl44, zl48, zl49, zl50, zl55, zl57, zl60, zl97, zl99, zl100, zl102, zl104, zl109, zl113, zl114, zl119, zl126, zl255, zl400, zl1000, zl101, zl103, zl1001, zl1002, zl16, zl18, zl32, zl35, zl443, n_leT, n_leF, n_ltT, n_ltF, n_eqT, n_eqF, n_swT, n_swF, nI_add, n_sub, pk_mul, zd_n, z2_eq, z2n, mo_s85 hM, mo_r28 hM, mo_s105 hM, g1, eb, eb2]⟩
    · by_cases e : j = i
      · subst e; exact z2_eq _ _ _ _
      · rw [z2n (by omega)]; exact g2 j (by omega)
    · rw [z2n (by omega)]; exact g3 j hj
    · rw [z2n (by omega)]; exact g4 a j q1 q2
  · obtain ⟨F, rfl, g1, g2, g3, g4⟩ := hx
    refine ⟨_, ⟨z2 F 85 27 (nI (pl + L)), rfl, z2_eq _ _ _ _, fun j hj => ?_, fun j hj => ?_, fun a j q1 q2 => ?_⟩, fun kc => by simp (disch := omega) only [F_X11_letters_B102, zv, e_gi, e_gr, e_gl, e_si, e_sb, e_ai, e_ar, e_ti, e_ty, e_tz, e_cv, zc_some, zmo_some, zin_T, ↓reduceIte, zit_succ, zzr0, zzr1, true_and, and_true, and_self, or_false, false_or, or_true, true_or, not_true_eq_false, not_false_eq_true, zl0, zl1, zl2, zl3, zl4, zl5, zl6, zl7, zl8, zl9, zl10, zl11, zl12, zl20, zl24, zl31, zl36, zl40, zl42, zl44, zl48, zl49, zl50, zl55, zl57, zl60, zl97, zl99, zl100, zl102, zl104, zl109, zl113, zl114, zl119, zl126, zl255, zl400, zl1000, zl101, zl103, zl1001, zl1002, zl16, zl18, zl32, zl35, zl443, n_leT, n_leF, n_ltT, n_ltF, n_eqT, n_eqF, n_swT, n_swF, nI_add, n_sub, pk_mul, zd_n, z2_eq, z2n, mo_s85 hM, g1]⟩
    · rw [z2n (by omega)]; exact g2 j hj
    · rw [z2n (by omega)]; exact g3 j hj
    · rw [z2_ne _ _ _ _ q1]; exact g4 a j q1 q2
theorem k_letters {g n : Nat} (hn : 513 < n) {h : zH} (hI : zInv g h) (p : Int64) : zOk g (F_X10_letters n h 0 p) (fun h => F_X11_letters n h 85 p) := by
  obtain ⟨S, f, c, c', r, r', tr, pl, nd, da, R, H, cu, nl, nr, ra, np, pt, fi, rfl, hI⟩ := hI
  have hI' := hI
  obtain ⟨hS, hpg, hdo, ⟨hc6, hR, hH, hRH, hu2, hu3, hu4, hcu, hcu2⟩, hg, hlv, hbr, hwa, hrw, hpi, hrv, hfi, him⟩ := hI
  have hM := cl_M hS
  have hC := cl_Cu hS
  have hcc := cl_cc hS
  have hrr := cl_rr hS
  have htt := cl_tt hS
  have hR1 : f (c + 1) 0 = nI R := (hc6 0 (by omega)).trans hR
  have hH1 : f (c + 1) 1 = nI H := (hc6 1 (by omega)).trans hH
  have hR6 : R ≤ 6 ∧ H ≤ 4 := by rcases hRH with h | h <;> omega
  have hRk : (R = 0 ∧ f 85 1 = nI 0) ∨ (1 ≤ R ∧ R ≤ 6 ∧ f 85 1 = nI 1) := hRH.imp (fun h => ⟨h.1, h.2.2⟩) (fun h => ⟨by omega, h.2.1, h.2.2.2.2⟩)
  obtain ⟨m, hm, rfl⟩ := wb_of p
  obtain ⟨p1, p2, p3, p4⟩ := hpg
  obtain ⟨k, s, hk, ht, hs⟩ := tst_first sLt (0, 0) (wB m) 8
  have e1 := eC_lettersIn n (S := S) (f := f) hn hm hk ht hs
  obtain ⟨s1, s2, s3⟩ := sLt_inv ht
  have r1 : zr S 0 0 = some 1 := cl_r0_0 hS
  have h0 : zsh S 0 = some (9, 20) := cl_s0 hS
  have h1 : zsh S 1 = some (5, 2) := cl_s1 hS
  have h2 : zsh S 2 = some (20, 50) := cl_s2 hS
  by_cases hk8 : k = 8
  · rw [if_pos hk8] at e1
    subst hk8
    by_cases hL : pl + s.2 ≤ 50
    · obtain ⟨F, t1, t2, t3, t4, t5⟩ := eC_append n (S := S) (f := f) hn hm s2 p2 hL h1 h2 (cl_r1_0 hS)
      have q1 : F 85 27 = nI pl := (t5 85 27 (by omega) (by omega)).trans p3
      obtain ⟨G, u1, u2, u3, u4, u5⟩ := eM_append n (S := S) (f := F) hn hm s2 q1 hL (fun j hj => s3 j (by omega)) hM
      have em := eM_letters n (S := S) (f := F) (X := some (nI (pl + s.2), zwi S G)) hn hm hk ht hs (Or.inr ⟨rfl, by unfold F_X11_letters_B8; simp (disch := omega) only [zv, e_gi, e_gr, e_gl, e_si, e_sb, e_ai, e_ar, e_ti, e_ty, e_tz, e_cv, zc_some, zmo_some, zin_T, ↓reduceIte, zit_succ, zzr0, zzr1, true_and, and_true, and_self, or_false, false_or, or_true, true_or, not_true_eq_false, not_false_eq_true, zl0, zl1, zl2, zl3, zl4, zl5, zl6, zl7, zl8, zl9, zl10, zl11, zl12, zl20, zl24, zl31, zl36, zl40, zl42, zl44, zl48, zl49, zl50, zl55, zl57, zl60, zl97, zl99, zl100, zl102, zl104, zl109, zl113, zl114, zl119, zl126, zl255, zl400, zl1000, zl101, zl103, zl1001, zl1002, zl16, zl18, zl32, zl35, zl443, n_leT, n_leF, n_ltT, n_ltF, n_eqT, n_eqF, n_swT, n_swF, nI_add, n_sub, pk_mul, zd_n, mo_s85 hM, q1, u1]⟩)
      have ag : ∀ a j, a ≠ 1 → a ≠ 2 → ¬ (a = 85 ∧ j = 27) → a ≠ 105 → G a j = f a j := fun a j w1 w2 w3 w4 => (u5 a j w3 w4).trans (t5 a j w1 w2)
      refine ⟨nI (pl + s.2), zwi S F, zwi S G, by unfold F_X10_letters F_X5_append; simp (disch := omega) only [zv, e_gi, e_gr, e_gl, e_si, e_sb, e_ai, e_ar, e_ti, e_ty, e_tz, e_cv, zc_some, zmo_some, zin_T, ↓reduceIte, zit_succ, zzr0, zzr1, true_and, and_true, and_self, or_false, false_or, or_true, true_or, not_true_eq_false, not_false_eq_true, zl0, zl1, zl2, zl3, zl4, zl5, zl6, zl7, zl8, zl9, zl10, zl11, zl12, zl20, zl24, zl31, zl36, zl40, zl42, zl44, zl48, zl49, zl50, zl55, zl57, zl60, zl97, zl99, zl100, zl102, zl104, zl109, zl113, zl114, zl119, zl126, zl255, zl400, zl1000, zl101, zl103, zl1001, zl1002, zl16, zl18, zl32, zl35, zl443, n_leT, n_leF, n_ltT, n_ltF, n_eqT, n_eqF, n_swT, n_swF, nI_add, n_sub, pk_mul, zd_n, r1, h0, h1, e1, p2, t1], em, zI_ok (S := S) (pl := pl + s.2) ⟨hS, ⟨hL, ?_, u2, fun i hi => ?_⟩, I_do_c (fun a k q => ag a k (by omega) (by omega) (by omega) (by omega)) (fun k hk j => by have h9 := (hdo.2.2.2.2.2 k hk).2.2.1; exact ag _ _ (by omega) (by omega) (by omega) (by omega)) hdo, I_cu_c (fun a k q => ag a k (by omega) (by omega) (by omega) (by omega)) ⟨hc6, hR, hH, hRH, hu2, hu3, hu4, hcu, hcu2⟩, by omega, I_lv_c (fun a k q => ag a k (by omega) (by omega) (by omega) (by omega)) hlv, I_br_c (fun a k q => ag a k (by omega) (by omega) (by omega) (by omega)) hbr, I_wa_c (fun a k q => ag a k (by omega) (by omega) (by omega) (by omega)) hwa, I_rw_c (fun a k q => ag a k (by omega) (by omega) (by omega) (by omega)) (fun k hk a j q => by have h9 := (hrw.2.2.2 k hk).2.2; have h8 := h9.1; have h7 := h9.2.1; exact ag _ _ (by omega) (by omega) (by omega) (by omega)) hrw, I_pi_c (fun a k q => ag a k (by omega) (by omega) (by omega) (by omega)) hpi, I_rv_c (fun a k q => ag a k (by omega) (by omega) (by omega) (by omega)) hrv, I_fi_c (fun a k q => ag a k (by omega) (by omega) (by omega) (by omega)) hfi, I_im_c (fun a k q => ag a k (by omega) (by omega) (by omega) (by omega)) him⟩⟩
      · rw [u5 1 1 (by omega) (by omega)]; exact t2
      · rw [u5 2 i (by omega) (by omega)]
        by_cases hi' : i < pl
        · obtain ⟨cd, c1, c2, c3⟩ := p4 i hi'
          exact ⟨cd, c1, (t4 i hi').trans c2, (u4 i hi').trans ((t5 105 i (by omega) (by omega)).trans c3)⟩
        · obtain ⟨j, rfl⟩ : ∃ j, i = pl + j := ⟨i - pl, by omega⟩
          exact ⟨wB m j, s3 j (by omega), t3 j (by omega), u3 j (by omega)⟩
    · have em := eM_letters n (S := S) (f := f) (X := some (-nI 104, zwi S f)) hn hm hk ht hs (Or.inr ⟨rfl, by unfold F_X11_letters_B8; simp (disch := omega) only [zv, e_gi, e_gr, e_gl, e_si, e_sb, e_ai, e_ar, e_ti, e_ty, e_tz, e_cv, zc_some, zmo_some, zin_T, ↓reduceIte, zit_succ, zzr0, zzr1, true_and, and_true, and_self, or_false, false_or, or_true, true_or, not_true_eq_false, not_false_eq_true, zl0, zl1, zl2, zl3, zl4, zl5, zl6, zl7, zl8, zl9, zl10, zl11, zl12, zl20, zl24, zl31, zl36, zl40, zl42, zl44, zl48, zl49, zl50, zl55, zl57, zl60, zl97, zl99, zl100, zl102, zl104, zl109, zl113, zl114, zl119, zl126, zl255, zl400, zl1000, zl101, zl103, zl1001, zl1002, zl16, zl18, zl32, zl35, zl443, n_leT, n_leF, n_ltT, n_ltF, n_eqT, n_eqF, n_swT, n_swF, nI_add, n_sub, pk_mul, zd_n, mo_s85 hM, p3]⟩)
      exact ⟨-nI 104, zwi S f, zwi S f, by unfold F_X10_letters F_X5_append; simp (disch := omega) only [zv, e_gi, e_gr, e_gl, e_si, e_sb, e_ai, e_ar, e_ti, e_ty, e_tz, e_cv, zc_some, zmo_some, zin_T, ↓reduceIte, zit_succ, zzr0, zzr1, true_and, and_true, and_self, or_false, false_or, or_true, true_or, not_true_eq_false, not_false_eq_true, zl0, zl1, zl2, zl3, zl4, zl5, zl6, zl7, zl8, zl9, zl10, zl11, zl12, zl20, zl24, zl31, zl36, zl40, zl42, zl44, zl48, zl49, zl50, zl55, zl57, zl60, zl97, zl99, zl100, zl102, zl104, zl109, zl113, zl114, zl119, zl126, zl255, zl400, zl1000, zl101, zl103, zl1001, zl1002, zl16, zl18, zl32, zl35, zl443, n_leT, n_leF, n_ltT, n_ltF, n_eqT, n_eqF, n_swT, n_swF, nI_add, n_sub, pk_mul, zd_n, r1, h0, h1, e1, p2], em, zI_ok (zI_scr hI' rfl rfl rfl (fun _ _ _ => rfl))⟩
  · rw [if_neg hk8] at e1
    have em := eM_letters n (S := S) (f := f) (X := some (-nI 102, zwi S f)) hn hm hk ht hs (Or.inl ⟨by omega, rfl⟩)
    have nn : ((0 : Int32) ≤ -nI 1) = False := eq_false (by decide)
    exact ⟨-nI 102, zwi S f, zwi S f, by unfold F_X10_letters F_X5_append; simp (disch := omega) only [zv, e_gi, e_gr, e_gl, e_si, e_sb, e_ai, e_ar, e_ti, e_ty, e_tz, e_cv, zc_some, zmo_some, zin_T, ↓reduceIte, zit_succ, zzr0, zzr1, true_and, and_true, and_self, or_false, false_or, or_true, true_or, not_true_eq_false, not_false_eq_true, r1, h0, h1, e1, nn]; simp (disch := omega) only [zv, e_gi, e_gr, e_gl, e_si, e_sb, e_ai, e_ar, e_ti, e_ty, e_tz, e_cv, zc_some, zmo_some, zin_T, ↓reduceIte, zit_succ, zzr0, zzr1, true_and, and_true, and_self, or_false, false_or, or_true, true_or, not_true_eq_false, not_false_eq_true, zl0, zl1, zl2, zl3, zl4, zl5, zl6, zl7, zl8, zl9, zl10, zl11, zl12, zl20, zl24, zl31, zl36, zl40, zl42, zl44, zl48, zl49, zl50, zl55, zl57, zl60, zl97, zl99, zl100, zl102, zl104, zl109, zl113, zl114, zl119, zl126, zl255, zl400, zl1000, zl101, zl103, zl1001, zl1002, zl16, zl18, zl32, zl35, zl443, n_leT, n_leF, n_ltT, n_ltF, n_eqT, n_eqF, n_swT, n_swF, nI_add, n_sub, pk_mul, zd_n], em, zI_ok (zI_scr hI' rfl rfl rfl (fun _ _ _ => rfl))⟩
