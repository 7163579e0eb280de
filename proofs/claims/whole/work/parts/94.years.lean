/-! ===== the years of a river ===== -/
def qBend (W : Nat → Int32) (p : Nat) : Int32 := nI 2 * W p - W (p - 1) - W (p + 1)
def qClp (v : Int32) : Int32 := if nI 0 ≤ v then (if v ≤ nI 99 then v else nI 99) else nI 0
theorem qClp_c (v : Int32) : (if nI 0 < (if v < nI 99 then v else nI 99) then (if v < nI 99 then v else nI 99) else nI 0) = qClp v := by
  have e0 : (nI 0).toInt = 0 := by decide
  have e99 : (nI 99).toInt = 99 := by decide
  unfold qClp
  by_cases h1 : v < nI 99
  · have a1 := i_lt h1
    rw [if_pos h1]
    by_cases h2 : nI 0 < v
    · have a2 := i_lt h2
      rw [if_pos h2, if_pos (Int32.le_iff_toInt_le.mpr (by omega)), if_pos (Int32.le_iff_toInt_le.mpr (by omega))]
    · have a2 := i_nlt h2
      rw [if_neg h2]
      by_cases h3 : nI 0 ≤ v
      · have a3 := i_le h3
        rw [if_pos h3, if_pos (Int32.le_iff_toInt_le.mpr (by omega))]
        exact i_eq (by omega)
      · rw [if_neg h3]
  · have a1 := i_nlt h1
    rw [if_neg h1, if_pos (by decide), if_pos (Int32.le_iff_toInt_le.mpr (by omega))]
    by_cases h3 : v ≤ nI 99
    · have a3 := i_le h3
      rw [if_pos h3]
      exact i_eq (by omega)
    · rw [if_neg h3]
def yA (pt : Nat) (ea hd : Int32) (e W : Nat → Int32) (N : Nat) : Nat → Int32 := fun p => if 1 ≤ p ∧ p < N ∧ e p = nI 0 ∧ ¬ nI p = hd then qClp (W p + qBend W p * ea / nI 20) else W p
def yOv (V : Nat → Int32) (p : Nat) (ne : Int32) : Bool := if (ne < V p - V (p - 1) ∧ ne < V p - V (p + 1)) ∨ (V p - V (p - 1) < -ne ∧ V p - V (p + 1) < -ne) then true else false
def yS (hd ne : Int32) (e : Nat → Int32) (i : Nat) (s : (Nat → Int32) × Nat) : (Nat → Int32) × Nat := if e (i + 1) = nI 0 ∧ ¬ nI (i + 1) = hd ∧ yOv s.1 (i + 1) ne = true then (z1 s.1 (i + 1) ((s.1 i + s.1 (i + 2)) / nI 2), s.2 + 1) else s
def qYear (pt : Nat) (ea ne hd : Int32) (e W : Nat → Int32) : (Nat → Int32) × Nat := zit (yS hd ne e) (yA pt ea hd e W (pt - 1), 0) (pt - 2)
theorem qYear_d (pt : Nat) (ea ne hd : Int32) (e W : Nat → Int32) : qYear pt ea ne hd e W = zit (yS hd ne e) (yA pt ea hd e W (pt - 1), 0) (pt - 2) := rfl
theorem yS_le (hd ne : Int32) (e : Nat → Int32) (V : Nat → Int32) : ∀ N, (zit (yS hd ne e) (V, 0) N).2 ≤ N
  | 0 => Nat.le_refl 0
  | N + 1 => by
    have h := yS_le hd ne e V N
    rw [zit_succ]
    generalize zit (yS hd ne e) (V, 0) N = s at h
    unfold yS
    split
    · exact Nat.succ_le_succ h
    · omega
theorem qYear_le (pt : Nat) (ea ne hd : Int32) (e W : Nat → Int32) : (qYear pt ea ne hd e W).2 ≤ pt - 2 := yS_le _ _ _ _ _
theorem zit_s' {α : Type} (g : Nat → α → α) (a : α) (i : Nat) : zit g a (i + 1) = g i (zit g a i) := rfl
/-- the class -/
theorem eC_free (n : Nat) {S : zH} {F : Nat → Nat → Int32} {r pt p : Nat} (hR : zRv S r) (hp : F r 4 = nI pt) (h10 : pt ≤ 10) (hpp : p < 10) : F_X7_isFree n (zwi S F) r (nI p) = some (if 1 ≤ p ∧ p + 1 < pt ∧ F (r + 2) p = nI 0 then nI 1 else nI 0, zwi S F) := by
  obtain ⟨c1, c2, c3, c4, c5, c6, c7, c8, c9⟩ := hR
  by_cases h1 : 1 ≤ p
  · by_cases hp0 : pt = 0
    · subst hp0
      rw [if_neg (by omega)]
      have : (nI 0 - nI 1 ≤ nI p) = True := eq_true (Int32.le_iff_toInt_le.mpr (by rw [n_int (by omega), show (nI 0 - nI 1).toInt = -1 by decide]; omega))
      simp (disch := omega) only [F_X7_isFree, F_X7_isFree_J27, F_X7_isFree_J28, zv, e_gi, e_gr, e_gl, e_si, e_sb, e_ai, e_ar, e_ti, e_ty, e_tz, e_cv, zc_some, zmo_some, zin_T, ↓reduceIte, zit_succ, zzr0, zzr1, true_and, and_true, and_self, or_false, false_or, or_true, true_or, not_true_eq_false, not_false_eq_true, zl0, zl1, zl2, zl3, zl4, zl5, zl6, zl7, zl8, zl9, zl10, zl11, zl12, zl20, zl24, zl31, zl36, zl40, zl42, zl44, zl48, zl49, zl50, zl55, zl57, zl60, zl97, zl99, zl100, zl102, zl104, zl109, zl113, zl114, zl119, zl126, zl255, zl400, zl1000, zl101, zl103, zl1001, zl1002, zl16, zl18, zl32, zl35, zl443, n_leT, n_leF, n_ltT, n_ltF, n_eqT, n_eqF, n_swT, n_swF, nI_add, n_sub, pk_mul, zd_n, c1, hp, this]
    · by_cases h2 : p + 1 < pt
      · by_cases h3 : F (r + 2) p = nI 0
        · rw [if_pos ⟨h1, h2, h3⟩]
          simp (disch := omega) only [F_X7_isFree, F_X7_isFree_J28, zv, e_gi, e_gr, e_gl, e_si, e_sb, e_ai, e_ar, e_ti, e_ty, e_tz, e_cv, zc_some, zmo_some, zin_T, ↓reduceIte, zit_succ, zzr0, zzr1, true_and, and_true, and_self, or_false, false_or, or_true, true_or, not_true_eq_false, not_false_eq_true, zl0, zl1, zl2, zl3, zl4, zl5, zl6, zl7, zl8, zl9, zl10, zl11, zl12, zl20, zl24, zl31, zl36, zl40, zl42, zl44, zl48, zl49, zl50, zl55, zl57, zl60, zl97, zl99, zl100, zl102, zl104, zl109, zl113, zl114, zl119, zl126, zl255, zl400, zl1000, zl101, zl103, zl1001, zl1002, zl16, zl18, zl32, zl35, zl443, n_leT, n_leF, n_ltT, n_ltF, n_eqT, n_eqF, n_swT, n_swF, nI_add, n_sub, pk_mul, zd_n, c1, c3, c7, hp, h3]
        · rw [if_neg (fun z => h3 z.2.2)]
          simp (disch := omega) only [F_X7_isFree, F_X7_isFree_J27, F_X7_isFree_J28, zv, e_gi, e_gr, e_gl, e_si, e_sb, e_ai, e_ar, e_ti, e_ty, e_tz, e_cv, zc_some, zmo_some, zin_T, ↓reduceIte, zit_succ, zzr0, zzr1, true_and, and_true, and_self, or_false, false_or, or_true, true_or, not_true_eq_false, not_false_eq_true, zl0, zl1, zl2, zl3, zl4, zl5, zl6, zl7, zl8, zl9, zl10, zl11, zl12, zl20, zl24, zl31, zl36, zl40, zl42, zl44, zl48, zl49, zl50, zl55, zl57, zl60, zl97, zl99, zl100, zl102, zl104, zl109, zl113, zl114, zl119, zl126, zl255, zl400, zl1000, zl101, zl103, zl1001, zl1002, zl16, zl18, zl32, zl35, zl443, n_leT, n_leF, n_ltT, n_ltF, n_eqT, n_eqF, n_swT, n_swF, nI_add, n_sub, pk_mul, zd_n, c1, c3, c7, hp, h3]
      · rw [if_neg (fun z => h2 z.2.1)]
        simp (disch := omega) only [F_X7_isFree, F_X7_isFree_J27, F_X7_isFree_J28, zv, e_gi, e_gr, e_gl, e_si, e_sb, e_ai, e_ar, e_ti, e_ty, e_tz, e_cv, zc_some, zmo_some, zin_T, ↓reduceIte, zit_succ, zzr0, zzr1, true_and, and_true, and_self, or_false, false_or, or_true, true_or, not_true_eq_false, not_false_eq_true, zl0, zl1, zl2, zl3, zl4, zl5, zl6, zl7, zl8, zl9, zl10, zl11, zl12, zl20, zl24, zl31, zl36, zl40, zl42, zl44, zl48, zl49, zl50, zl55, zl57, zl60, zl97, zl99, zl100, zl102, zl104, zl109, zl113, zl114, zl119, zl126, zl255, zl400, zl1000, zl101, zl103, zl1001, zl1002, zl16, zl18, zl32, zl35, zl443, n_leT, n_leF, n_ltT, n_ltF, n_eqT, n_eqF, n_swT, n_swF, nI_add, n_sub, pk_mul, zd_n, c1, hp]
  · rw [if_neg (fun z => h1 z.1)]
    simp (disch := omega) only [F_X7_isFree, F_X7_isFree_J27, F_X7_isFree_J28, zv, e_gi, e_gr, e_gl, e_si, e_sb, e_ai, e_ar, e_ti, e_ty, e_tz, e_cv, zc_some, zmo_some, zin_T, ↓reduceIte, zit_succ, zzr0, zzr1, true_and, and_true, and_self, or_false, false_or, or_true, true_or, not_true_eq_false, not_false_eq_true, zl0, zl1, zl2, zl3, zl4, zl5, zl6, zl7, zl8, zl9, zl10, zl11, zl12, zl20, zl24, zl31, zl36, zl40, zl42, zl44, zl48, zl49, zl50, zl55, zl57, zl60, zl97, zl99, zl100, zl102, zl104, zl109, zl113, zl114, zl119, zl126, zl255, zl400, zl1000, zl101, zl103, zl1001, zl1002, zl16, zl18, zl32, zl35, zl443, n_leT, n_leF, n_ltT, n_ltF, n_eqT, n_eqF, n_swT, n_swF, nI_add, n_sub, pk_mul, zd_n]
theorem eC_bend (n : Nat) {S : zH} {F : Nat → Nat → Int32} {a i : Nat} {W : Nat → Int32} (hs : zsh S a = some (20, 10)) (hi : i + 2 < 10) (hW : ∀ p, p < i + 3 → F a p = W p) : F_X7_bendOf n (zwi S F) a (nI (i + 1)) = some (qBend W (i + 1), zwi S F) := by
  have w0 := hW i (by omega)
  have w1 := hW (i + 1) (by omega)
  have w2 := hW (i + 2) (by omega)
  unfold qBend
  rw [Nat.add_sub_cancel, ← w0, ← w1, show i + 1 + 1 = i + 2 from rfl, ← w2]
  simp (disch := omega) only [F_X7_bendOf, zv, e_gi, e_gr, e_gl, e_si, e_sb, e_ai, e_ar, e_ti, e_ty, e_tz, e_cv, zc_some, zmo_some, zin_T, ↓reduceIte, zit_succ, zzr0, zzr1, true_and, and_true, and_self, or_false, false_or, or_true, true_or, not_true_eq_false, not_false_eq_true, zl0, zl1, zl2, zl3, zl4, zl5, zl6, zl7, zl8, zl9, zl10, zl11, zl12, zl20, zl24, zl31, zl36, zl40, zl42, zl44, zl48, zl49, zl50, zl55, zl57, zl60, zl97, zl99, zl100, zl102, zl104, zl109, zl113, zl114, zl119, zl126, zl255, zl400, zl1000, zl101, zl103, zl1001, zl1002, zl16, zl18, zl32, zl35, zl443, n_leT, n_leF, n_ltT, n_ltF, n_eqT, n_eqF, n_swT, n_swF, nI_add, n_sub, pk_mul, zd_n, hs, Nat.add_sub_cancel]
theorem eC_over (n : Nat) {S : zH} {F : Nat → Nat → Int32} {r i : Nat} {V : Nat → Int32} {ne : Int32} (hR : zRv S r) (hi : i + 2 < 10) (hV : ∀ p, p < i + 3 → F (r + 3) p = V p) : F_X7_isOverNeck n (zwi S F) r (nI (i + 1)) ne = some (if yOv V (i + 1) ne = true then nI 1 else nI 0, zwi S F) := by
  obtain ⟨c1, c2, c3, c4, c5, c6, c7, c8, c9⟩ := hR
  have w0 := hV i (by omega)
  have w1 := hV (i + 1) (by omega)
  have w2 := hV (i + 2) (by omega)
  unfold yOv
  rw [Nat.add_sub_cancel, show i + 1 + 1 = i + 2 from rfl]
  generalize ha : V (i + 1) - V i = a
  generalize hb : V (i + 1) - V (i + 2) = b
  have key : F_X7_isOverNeck n (zwi S F) r (nI (i + 1)) ne = if a ≤ ne then F_X7_isOverNeck_J44 n (zwi S F) ne a b else if ne < b then F_X7_isOverNeck_J57 n (zwi S F) else F_X7_isOverNeck_J44 n (zwi S F) ne a b := by
    simp (disch := omega) only [F_X7_isOverNeck, zv, e_gi, e_gr, e_gl, e_si, e_sb, e_ai, e_ar, e_ti, e_ty, e_tz, e_cv, zc_some, zmo_some, zin_T, ↓reduceIte, zit_succ, zzr0, zzr1, true_and, and_true, and_self, or_false, false_or, or_true, true_or, not_true_eq_false, not_false_eq_true, zl0, zl1, zl2, zl3, zl4, zl5, zl6, zl7, zl8, zl9, zl10, zl11, zl12, zl20, zl24, zl31, zl36, zl40, zl42, zl44, zl48, zl49, zl50, zl55, zl57, zl60, zl97, zl99, zl100, zl102, zl104, zl109, zl113, zl114, zl119, zl126, zl255, zl400, zl1000, zl101, zl103, zl1001, zl1002, zl16, zl18, zl32, zl35, zl443, n_leT, n_leF, n_ltT, n_ltF, n_eqT, n_eqF, n_swT, n_swF, nI_add, n_sub, pk_mul, zd_n, c1, c4, c8, Nat.add_sub_cancel, w0, w1, w2, ha, hb]
  have le_lt : ∀ x y : Int32, (x ≤ y) = ¬ (y < x) := fun x y => propext ⟨fun h z => by have := i_le h; have := i_lt z; omega, fun h => Int32.le_iff_toInt_le.mpr (i_nlt h)⟩
  rw [key]
  by_cases h1 : ne < a
  · by_cases h2 : ne < b
    · simp only [F_X7_isOverNeck_J57, F_X7_isOverNeck_J62, zv, e_gi, e_gr, e_gl, e_si, e_sb, e_ai, e_ar, e_ti, e_ty, e_tz, e_cv, zc_some, zmo_some, zin_T, ↓reduceIte, zit_succ, zzr0, zzr1, true_and, and_true, and_self, or_false, false_or, or_true, true_or, not_true_eq_false, not_false_eq_true, zl0, zl1, zl2, zl3, zl4, zl5, zl6, zl7, zl8, zl9, zl10, zl11, zl12, zl20, zl24, zl31, zl36, zl40, zl42, zl44, zl48, zl49, zl50, zl55, zl57, zl60, zl97, zl99, zl100, zl102, zl104, zl109, zl113, zl114, zl119, zl126, zl255, zl400, zl1000, zl101, zl103, zl1001, zl1002, zl16, zl18, zl32, zl35, zl443, n_leT, n_leF, n_ltT, n_ltF, n_eqT, n_eqF, n_swT, n_swF, nI_add, n_sub, pk_mul, zd_n, le_lt, h1, h2]
    · by_cases h3 : a < -ne
      · by_cases h4 : b < -ne
        · simp only [F_X7_isOverNeck_J44, F_X7_isOverNeck_J57, F_X7_isOverNeck_J62, zv, e_gi, e_gr, e_gl, e_si, e_sb, e_ai, e_ar, e_ti, e_ty, e_tz, e_cv, zc_some, zmo_some, zin_T, ↓reduceIte, zit_succ, zzr0, zzr1, true_and, and_true, and_self, or_false, false_or, or_true, true_or, not_true_eq_false, not_false_eq_true, zl0, zl1, zl2, zl3, zl4, zl5, zl6, zl7, zl8, zl9, zl10, zl11, zl12, zl20, zl24, zl31, zl36, zl40, zl42, zl44, zl48, zl49, zl50, zl55, zl57, zl60, zl97, zl99, zl100, zl102, zl104, zl109, zl113, zl114, zl119, zl126, zl255, zl400, zl1000, zl101, zl103, zl1001, zl1002, zl16, zl18, zl32, zl35, zl443, n_leT, n_leF, n_ltT, n_ltF, n_eqT, n_eqF, n_swT, n_swF, nI_add, n_sub, pk_mul, zd_n, le_lt, h1, h2, h3, h4, and_false, false_and]
        · simp only [F_X7_isOverNeck_J44, F_X7_isOverNeck_J61, F_X7_isOverNeck_J62, zv, e_gi, e_gr, e_gl, e_si, e_sb, e_ai, e_ar, e_ti, e_ty, e_tz, e_cv, zc_some, zmo_some, zin_T, ↓reduceIte, zit_succ, zzr0, zzr1, true_and, and_true, and_self, or_false, false_or, or_true, true_or, not_true_eq_false, not_false_eq_true, zl0, zl1, zl2, zl3, zl4, zl5, zl6, zl7, zl8, zl9, zl10, zl11, zl12, zl20, zl24, zl31, zl36, zl40, zl42, zl44, zl48, zl49, zl50, zl55, zl57, zl60, zl97, zl99, zl100, zl102, zl104, zl109, zl113, zl114, zl119, zl126, zl255, zl400, zl1000, zl101, zl103, zl1001, zl1002, zl16, zl18, zl32, zl35, zl443, n_leT, n_leF, n_ltT, n_ltF, n_eqT, n_eqF, n_swT, n_swF, nI_add, n_sub, pk_mul, zd_n, le_lt, h1, h2, h3, h4, and_false, false_and, Bool.false_eq_true]
      · simp only [F_X7_isOverNeck_J44, F_X7_isOverNeck_J61, F_X7_isOverNeck_J62, zv, e_gi, e_gr, e_gl, e_si, e_sb, e_ai, e_ar, e_ti, e_ty, e_tz, e_cv, zc_some, zmo_some, zin_T, ↓reduceIte, zit_succ, zzr0, zzr1, true_and, and_true, and_self, or_false, false_or, or_true, true_or, not_true_eq_false, not_false_eq_true, zl0, zl1, zl2, zl3, zl4, zl5, zl6, zl7, zl8, zl9, zl10, zl11, zl12, zl20, zl24, zl31, zl36, zl40, zl42, zl44, zl48, zl49, zl50, zl55, zl57, zl60, zl97, zl99, zl100, zl102, zl104, zl109, zl113, zl114, zl119, zl126, zl255, zl400, zl1000, zl101, zl103, zl1001, zl1002, zl16, zl18, zl32, zl35, zl443, n_leT, n_leF, n_ltT, n_ltF, n_eqT, n_eqF, n_swT, n_swF, nI_add, n_sub, pk_mul, zd_n, le_lt, h1, h2, h3, and_false, false_and, Bool.false_eq_true]
  · by_cases h3 : a < -ne
    · by_cases h4 : b < -ne
      · simp only [F_X7_isOverNeck_J44, F_X7_isOverNeck_J57, F_X7_isOverNeck_J62, zv, e_gi, e_gr, e_gl, e_si, e_sb, e_ai, e_ar, e_ti, e_ty, e_tz, e_cv, zc_some, zmo_some, zin_T, ↓reduceIte, zit_succ, zzr0, zzr1, true_and, and_true, and_self, or_false, false_or, or_true, true_or, not_true_eq_false, not_false_eq_true, zl0, zl1, zl2, zl3, zl4, zl5, zl6, zl7, zl8, zl9, zl10, zl11, zl12, zl20, zl24, zl31, zl36, zl40, zl42, zl44, zl48, zl49, zl50, zl55, zl57, zl60, zl97, zl99, zl100, zl102, zl104, zl109, zl113, zl114, zl119, zl126, zl255, zl400, zl1000, zl101, zl103, zl1001, zl1002, zl16, zl18, zl32, zl35, zl443, n_leT, n_leF, n_ltT, n_ltF, n_eqT, n_eqF, n_swT, n_swF, nI_add, n_sub, pk_mul, zd_n, le_lt, h1, h3, h4, and_false, false_and]
      · simp only [F_X7_isOverNeck_J44, F_X7_isOverNeck_J61, F_X7_isOverNeck_J62, zv, e_gi, e_gr, e_gl, e_si, e_sb, e_ai, e_ar, e_ti, e_ty, e_tz, e_cv, zc_some, zmo_some, zin_T, ↓reduceIte, zit_succ, zzr0, zzr1, true_and, and_true, and_self, or_false, false_or, or_true, true_or, not_true_eq_false, not_false_eq_true, zl0, zl1, zl2, zl3, zl4, zl5, zl6, zl7, zl8, zl9, zl10, zl11, zl12, zl20, zl24, zl31, zl36, zl40, zl42, zl44, zl48, zl49, zl50, zl55, zl57, zl60, zl97, zl99, zl100, zl102, zl104, zl109, zl113, zl114, zl119, zl126, zl255, zl400, zl1000, zl101, zl103, zl1001, zl1002, zl16, zl18, zl32, zl35, zl443, n_leT, n_leF, n_ltT, n_ltF, n_eqT, n_eqF, n_swT, n_swF, nI_add, n_sub, pk_mul, zd_n, le_lt, h1, h3, h4, and_false, false_and, Bool.false_eq_true]
    · simp only [F_X7_isOverNeck_J44, F_X7_isOverNeck_J61, F_X7_isOverNeck_J62, zv, e_gi, e_gr, e_gl, e_si, e_sb, e_ai, e_ar, e_ti, e_ty, e_tz, e_cv, zc_some, zmo_some, zin_T, ↓reduceIte, zit_succ, zzr0, zzr1, true_and, and_true, and_self, or_false, false_or, or_true, true_or, not_true_eq_false, not_false_eq_true, zl0, zl1, zl2, zl3, zl4, zl5, zl6, zl7, zl8, zl9, zl10, zl11, zl12, zl20, zl24, zl31, zl36, zl40, zl42, zl44, zl48, zl49, zl50, zl55, zl57, zl60, zl97, zl99, zl100, zl102, zl104, zl109, zl113, zl114, zl119, zl126, zl255, zl400, zl1000, zl101, zl103, zl1001, zl1002, zl16, zl18, zl32, zl35, zl443, n_leT, n_leF, n_ltT, n_ltF, n_eqT, n_eqF, n_swT, n_swF, nI_add, n_sub, pk_mul, zd_n, le_lt, h1, h3, and_false, false_and, Bool.false_eq_true]
theorem eC_cutL (n : Nat) {S : zH} {F0 : Nat → Nat → Int32} {r pt : Nat} {V0 e : Nat → Int32} {ne hd : Int32} (hn : 513 < n) (hR : zRv S r) (hp : F0 r 4 = nI pt) (h2 : 2 ≤ pt) (h10 : pt ≤ 10) (hV : ∀ p, p < pt → F0 (r + 3) p = V0 p) (he : ∀ p, p < pt → F0 (r + 2) p = e p) :
    ∃ F, F_X7_goYear_L115 n (zwi S F0) r ne hd (nI 0) (nI 1) = some (nI (zit (yS hd ne e) (V0, 0) (pt - 2)).2, zwi S F) ∧ (∀ p, p < pt → F (r + 3) p = (zit (yS hd ne e) (V0, 0) (pt - 2)).1 p) ∧ ∀ a j, a ≠ r + 3 → F a j = F0 a j := by
  have hR' := hR
  obtain ⟨c1, c2, c3, c4, c5, c6, c7, c8, c9⟩ := hR'
  unfold F_X7_goYear_L115
  have key9 := zforE (body := fun kc x => F_X7_goYear_B115 n kc x.1 r ne hd x.2.1 x.2.2) (fun i x => ∃ F, x = (zwi S F, nI (zit (yS hd ne e) (V0, 0) i).2, nI (i + 1)) ∧ (∀ p, p < pt → F (r + 3) p = (zit (yS hd ne e) (V0, 0) i).1 p) ∧ ∀ a j, a ≠ r + 3 → F a j = F0 a j) (pt - 2) (Q := fun x => ∃ F, x = some (nI (zit (yS hd ne e) (V0, 0) (pt - 2)).2, zwi S F) ∧ (∀ p, p < pt → F (r + 3) p = (zit (yS hd ne e) (V0, 0) (pt - 2)).1 p) ∧ ∀ a j, a ≠ r + 3 → F a j = F0 a j) (fun i x hi hx => ?_) (fun x hx => ?_) (n := n) (by omega) (x := (zwi S F0, nI 0, nI 1)) ⟨F0, rfl, hV, fun _ _ _ => rfl⟩
  · obtain ⟨x, ⟨F, e1, e3⟩, e2⟩ := key9
    exact ⟨F, by rw [e2, e1], e3⟩
  · obtain ⟨F, rfl, g1, g2⟩ := hx
    have q4 := (g2 r 4 (by omega)).trans hp
    have qe := (g2 (r + 2) (i + 1) (by omega)).trans (he (i + 1) (by omega))
    have ef := eC_free n (p := i + 1) hR q4 h10 (by omega)
    have eo := eC_over n (F := F) (ne := ne) hR (show i + 2 < 10 by omega) (fun p hpp => g1 p (by omega))
    rw [qe] at ef
    rw [zit_s']
    generalize zit (yS hd ne e) (V0, 0) i = s at g1 eo
    obtain ⟨V, c⟩ := s
    dsimp only at g1 eo ⊢
    unfold yS
    dsimp only
    by_cases a1 : e (i + 1) = nI 0
    · rw [if_pos ⟨by omega, by omega, a1⟩] at ef
      by_cases a2 : nI (i + 1) = hd
      · rw [if_neg (fun z => z.2.1 a2)]
        subst a2
        refine ⟨_, ⟨F, rfl, g1, g2⟩, fun kc => ?_⟩
        simp (disch := omega) only [F_X7_goYear_B115, F_X7_goYear_J182, zv, e_gi, e_gr, e_gl, e_si, e_sb, e_ai, e_ar, e_ti, e_ty, e_tz, e_cv, zc_some, zmo_some, zin_T, ↓reduceIte, zit_succ, zzr0, zzr1, true_and, and_true, and_self, or_false, false_or, or_true, true_or, not_true_eq_false, not_false_eq_true, zl0, zl1, zl2, zl3, zl4, zl5, zl6, zl7, zl8, zl9, zl10, zl11, zl12, zl20, zl24, zl31, zl36, zl40, zl42, zl44, zl48, zl49, zl50, zl55, zl57, zl60, zl97, zl99, zl100, zl102, zl104, zl109, zl113, zl114, zl119, zl126, zl255, zl400, zl1000, zl101, zl103, zl1001, zl1002, zl16, zl18, zl32, zl35, zl443, n_leT, n_leF, n_ltT, n_ltF, n_eqT, n_eqF, n_swT, n_swF, nI_add, n_sub, pk_mul, zd_n, c1, q4, ef]
      · by_cases a3 : yOv V (i + 1) ne = true
        · rw [if_pos a3] at eo
          rw [if_pos ⟨a1, a2, a3⟩]
          have w0 := g1 i (by omega)
          have w2 := g1 (i + 2) (by omega)
          refine ⟨_, ⟨z2 F (r + 3) (i + 1) ((V i + V (i + 2)) / nI 2), rfl, fun p hpp => ?_, fun a j q => by rw [z2n (by omega)]; exact g2 a j q⟩, fun kc => ?_⟩
          · dsimp only
            by_cases e5 : p = i + 1
            · subst e5
              rw [z2_eq, z1_eq]
            · rw [z2n (by omega), z1n e5]
              exact g1 p hpp
          · have e22 : i + 1 + 1 = i + 2 := rfl
            simp (disch := omega) only [F_X7_goYear_B115, F_X7_goYear_J182, zv, e_gi, e_gr, e_gl, e_si, e_sb, e_ai, e_ar, e_ti, e_ty, e_tz, e_cv, zc_some, zmo_some, zin_T, ↓reduceIte, zit_succ, zzr0, zzr1, true_and, and_true, and_self, or_false, false_or, or_true, true_or, not_true_eq_false, not_false_eq_true, zl0, zl1, zl2, zl3, zl4, zl5, zl6, zl7, zl8, zl9, zl10, zl11, zl12, zl20, zl24, zl31, zl36, zl40, zl42, zl44, zl48, zl49, zl50, zl55, zl57, zl60, zl97, zl99, zl100, zl102, zl104, zl109, zl113, zl114, zl119, zl126, zl255, zl400, zl1000, zl101, zl103, zl1001, zl1002, zl16, zl18, zl32, zl35, zl443, n_leT, n_leF, n_ltT, n_ltF, n_eqT, n_eqF, n_swT, n_swF, nI_add, n_sub, pk_mul, zd_n, c1, c4, c8, q4, ef, a2, eo, Nat.add_sub_cancel, e22, w0, w2]
        · rw [if_neg a3] at eo
          rw [if_neg (fun z => a3 z.2.2)]
          refine ⟨_, ⟨F, rfl, g1, g2⟩, fun kc => ?_⟩
          simp (disch := omega) only [F_X7_goYear_B115, F_X7_goYear_J182, zv, e_gi, e_gr, e_gl, e_si, e_sb, e_ai, e_ar, e_ti, e_ty, e_tz, e_cv, zc_some, zmo_some, zin_T, ↓reduceIte, zit_succ, zzr0, zzr1, true_and, and_true, and_self, or_false, false_or, or_true, true_or, not_true_eq_false, not_false_eq_true, zl0, zl1, zl2, zl3, zl4, zl5, zl6, zl7, zl8, zl9, zl10, zl11, zl12, zl20, zl24, zl31, zl36, zl40, zl42, zl44, zl48, zl49, zl50, zl55, zl57, zl60, zl97, zl99, zl100, zl102, zl104, zl109, zl113, zl114, zl119, zl126, zl255, zl400, zl1000, zl101, zl103, zl1001, zl1002, zl16, zl18, zl32, zl35, zl443, n_leT, n_leF, n_ltT, n_ltF, n_eqT, n_eqF, n_swT, n_swF, nI_add, n_sub, pk_mul, zd_n, c1, q4, ef, a2, eo]
    · rw [if_neg (fun z => a1 z.2.2)] at ef
      rw [if_neg (fun z => a1 z.1)]
      refine ⟨_, ⟨F, rfl, g1, g2⟩, fun kc => ?_⟩
      simp (disch := omega) only [F_X7_goYear_B115, F_X7_goYear_J182, zv, e_gi, e_gr, e_gl, e_si, e_sb, e_ai, e_ar, e_ti, e_ty, e_tz, e_cv, zc_some, zmo_some, zin_T, ↓reduceIte, zit_succ, zzr0, zzr1, true_and, and_true, and_self, or_false, false_or, or_true, true_or, not_true_eq_false, not_false_eq_true, zl0, zl1, zl2, zl3, zl4, zl5, zl6, zl7, zl8, zl9, zl10, zl11, zl12, zl20, zl24, zl31, zl36, zl40, zl42, zl44, zl48, zl49, zl50, zl55, zl57, zl60, zl97, zl99, zl100, zl102, zl104, zl109, zl113, zl114, zl119, zl126, zl255, zl400, zl1000, zl101, zl103, zl1001, zl1002, zl16, zl18, zl32, zl35, zl443, n_leT, n_leF, n_ltT, n_ltF, n_eqT, n_eqF, n_swT, n_swF, nI_add, n_sub, pk_mul, zd_n, c1, q4, ef]
  · obtain ⟨F, rfl, g1, g2⟩ := hx
    have q4 := (g2 r 4 (by omega)).trans hp
    refine ⟨_, ⟨F, rfl, g1, g2⟩, fun kc => ?_⟩
    have e5 : pt - 2 + 1 = pt - 1 := by omega
    rw [e5]
    simp (disch := omega) only [F_X7_goYear_B115, zv, e_gi, e_gr, e_gl, e_si, e_sb, e_ai, e_ar, e_ti, e_ty, e_tz, e_cv, zc_some, zmo_some, zin_T, ↓reduceIte, zit_succ, zzr0, zzr1, true_and, and_true, and_self, or_false, false_or, or_true, true_or, not_true_eq_false, not_false_eq_true, zl0, zl1, zl2, zl3, zl4, zl5, zl6, zl7, zl8, zl9, zl10, zl11, zl12, zl20, zl24, zl31, zl36, zl40, zl42, zl44, zl48, zl49, zl50, zl55, zl57, zl60, zl97, zl99, zl100, zl102, zl104, zl109, zl113, zl114, zl119, zl126, zl255, zl400, zl1000, zl101, zl103, zl1001, zl1002, zl16, zl18, zl32, zl35, zl443, n_leT, n_leF, n_ltT, n_ltF, n_eqT, n_eqF, n_swT, n_swF, nI_add, n_sub, pk_mul, zd_n, c1, q4]
theorem yA_1 (pt : Nat) (ea hd : Int32) (e W : Nat → Int32) : yA pt ea hd e W 1 = W := by
  funext p
  unfold yA
  rw [if_neg (by omega)]
theorem yA_same {pt : Nat} {ea hd : Int32} {e W : Nat → Int32} {N p : Nat} (h : ¬ (e N = nI 0 ∧ ¬ nI N = hd)) : yA pt ea hd e W (N + 1) p = yA pt ea hd e W N p := by
  unfold yA
  by_cases e6 : 1 ≤ p ∧ p < N ∧ e p = nI 0 ∧ ¬ nI p = hd
  · rw [if_pos e6, if_pos ⟨e6.1, by omega, e6.2.2⟩]
  · rw [if_neg e6, if_neg (fun z => ?_)]
    by_cases e5 : p = N
    · subst e5
      exact h z.2.2
    · exact e6 ⟨z.1, by omega, z.2.2⟩
theorem yA_ne {pt : Nat} {ea hd : Int32} {e W : Nat → Int32} {N p : Nat} (h : p ≠ N) : yA pt ea hd e W (N + 1) p = yA pt ea hd e W N p := by
  unfold yA
  by_cases e6 : 1 ≤ p ∧ p < N ∧ e p = nI 0 ∧ ¬ nI p = hd
  · rw [if_pos e6, if_pos ⟨e6.1, by omega, e6.2.2⟩]
  · rw [if_neg e6, if_neg (fun z => e6 ⟨z.1, by omega, z.2.2⟩)]
theorem yA_eq {pt : Nat} {ea hd : Int32} {e W : Nat → Int32} {N : Nat} (h : e N = nI 0 ∧ ¬ nI N = hd) (h1 : 1 ≤ N) : yA pt ea hd e W (N + 1) N = qClp (W N + qBend W N * ea / nI 20) := by
  unfold yA
  rw [if_pos ⟨h1, by omega, h.1, h.2⟩]
theorem eC_asideL (n : Nat) {S : zH} {F0 F1 : Nat → Nat → Int32} {r pt : Nat} {W e : Nat → Int32} {ea ne hd : Int32} (hn : 513 < n) (hR : zRv S r) (hp : F0 r 4 = nI pt) (h2 : 2 ≤ pt) (h10 : pt ≤ 10) (he : ∀ p, p < pt → F0 (r + 2) p = e p) (hb : ∀ p, p < pt → F1 (r + 4) p = W p) (hv : ∀ p, p < pt → F1 (r + 3) p = W p) (hf : ∀ a j, a ≠ r + 3 → a ≠ r + 4 → F1 a j = F0 a j) :
    ∃ F, F_X7_goYear_L35 n (zwi S F1) r ea ne hd (nI 1) = some (nI (qYear pt ea ne hd e W).2, zwi S F) ∧ (∀ p, p < pt → F (r + 3) p = (qYear pt ea ne hd e W).1 p) ∧ ∀ a j, a ≠ r + 3 → a ≠ r + 4 → F a j = F0 a j := by
  have hR' := hR
  obtain ⟨c1, c2, c3, c4, c5, c6, c7, c8, c9⟩ := hR'
  unfold F_X7_goYear_L35
  have key9 := zforE (body := fun kc x => F_X7_goYear_B35 n kc x.1 r ea ne hd x.2) (fun i x => ∃ F, x = (zwi S F, nI (i + 1)) ∧ (∀ p, p < pt → F (r + 4) p = W p) ∧ (∀ p, p < pt → F (r + 3) p = yA pt ea hd e W (i + 1) p) ∧ ∀ a j, a ≠ r + 3 → a ≠ r + 4 → F a j = F0 a j) (pt - 2) (Q := fun x => ∃ F, x = some (nI (qYear pt ea ne hd e W).2, zwi S F) ∧ (∀ p, p < pt → F (r + 3) p = (qYear pt ea ne hd e W).1 p) ∧ ∀ a j, a ≠ r + 3 → a ≠ r + 4 → F a j = F0 a j) (fun i x hi hx => ?_) (fun x hx => ?_) (n := n) (by omega) (x := (zwi S F1, nI 1)) ⟨F1, rfl, hb, fun p hpp => by rw [yA_1]; exact hv p hpp, hf⟩
  · obtain ⟨x, ⟨F, e1, e3⟩, e2⟩ := key9
    exact ⟨F, by rw [e2, e1], e3⟩
  · obtain ⟨F, rfl, g0, g1, g2⟩ := hx
    have q4 := (g2 r 4 (by omega) (by omega)).trans hp
    have qe := (g2 (r + 2) (i + 1) (by omega) (by omega)).trans (he (i + 1) (by omega))
    have ef := eC_free n (p := i + 1) hR q4 h10 (by omega)
    have eb := eC_bend n (F := F) (i := i) c9 (by omega) (fun p hpp => g0 p (by omega))
    rw [qe] at ef
    have w1 := g0 (i + 1) (by omega)
    by_cases a1 : e (i + 1) = nI 0
    · rw [if_pos ⟨by omega, by omega, a1⟩] at ef
      by_cases a2 : nI (i + 1) = hd
      · refine ⟨_, ⟨F, rfl, g0, fun p hpp => (g1 p hpp).trans (yA_same (fun z => z.2 a2)).symm, g2⟩, fun kc => ?_⟩
        subst a2
        simp (disch := omega) only [F_X7_goYear_B35, F_X7_goYear_J103, zv, e_gi, e_gr, e_gl, e_si, e_sb, e_ai, e_ar, e_ti, e_ty, e_tz, e_cv, zc_some, zmo_some, zin_T, ↓reduceIte, zit_succ, zzr0, zzr1, true_and, and_true, and_self, or_false, false_or, or_true, true_or, not_true_eq_false, not_false_eq_true, zl0, zl1, zl2, zl3, zl4, zl5, zl6, zl7, zl8, zl9, zl10, zl11, zl12, zl20, zl24, zl31, zl36, zl40, zl42, zl44, zl48, zl49, zl50, zl55, zl57, zl60, zl97, zl99, zl100, zl102, zl104, zl109, zl113, zl114, zl119, zl126, zl255, zl400, zl1000, zl101, zl103, zl1001, zl1002, zl16, zl18, zl32, zl35, zl443, n_leT, n_leF, n_ltT, n_ltF, n_eqT, n_eqF, n_swT, n_swF, nI_add, n_sub, pk_mul, zd_n, c1, q4, ef]
      · refine ⟨_, ⟨z2 F (r + 3) (i + 1) (qClp (W (i + 1) + qBend W (i + 1) * ea / nI 20)), rfl, fun p hpp => by rw [z2n (by omega)]; exact g0 p hpp, fun p hpp => ?_, fun a j q1 q2 => by rw [z2n (by omega)]; exact g2 a j q1 q2⟩, fun kc => ?_⟩
        · by_cases e5 : p = i + 1
          · rw [e5, z2_eq, yA_eq ⟨a1, a2⟩ (by omega)]
          · rw [z2n (by omega), g1 p hpp, yA_ne e5]
        · have hlt : ¬ nI pt - (1 : Int32) ≤ nI (i + 1) := by
            rw [zl1, n_sub (by omega)]
            exact nI_ge (by omega) (by omega)
          unfold F_X7_goYear_B35
          rw [e_gi, if_pos c1, q4]
          dsimp only [zv]
          rw [if_neg hlt, e_cv, if_pos c1, ef, zc_some]
          rw [if_neg (show ¬ nI 1 = (0 : Int32) by decide), if_neg a2]
          simp (disch := omega) only [F_X7_goYear_J103, zv, e_gi, e_gr, e_gl, e_si, e_sb, e_ai, e_ar, e_ti, e_ty, e_tz, e_cv, zc_some, zmo_some, zin_T, ↓reduceIte, zit_succ, zzr0, zzr1, true_and, and_true, and_self, or_false, false_or, or_true, true_or, not_true_eq_false, not_false_eq_true, zl0, zl1, zl2, zl3, zl4, zl5, zl6, zl7, zl8, zl9, zl10, zl11, zl12, zl20, zl24, zl31, zl36, zl40, zl42, zl44, zl48, zl49, zl50, zl55, zl57, zl60, zl97, zl99, zl100, zl102, zl104, zl109, zl113, zl114, zl119, zl126, zl255, zl400, zl1000, zl101, zl103, zl1001, zl1002, zl16, zl18, zl32, zl35, zl443, n_leT, n_leF, n_ltT, n_ltF, n_eqT, n_eqF, n_swT, n_swF, nI_add, n_sub, pk_mul, zd_n, c1, c4, c5, c8, c9, eb, w1, qClp_c]
    · rw [if_neg (fun z => a1 z.2.2)] at ef
      refine ⟨_, ⟨F, rfl, g0, fun p hpp => (g1 p hpp).trans (yA_same (fun z => a1 z.1)).symm, g2⟩, fun kc => ?_⟩
      have hlt : ¬ nI pt - (1 : Int32) ≤ nI (i + 1) := by
        rw [zl1, n_sub (by omega)]
        exact nI_ge (by omega) (by omega)
      unfold F_X7_goYear_B35
      rw [e_gi, if_pos c1, q4]
      dsimp only [zv]
      rw [if_neg hlt, e_cv, if_pos c1, ef, zc_some]
      rw [if_pos (show nI 0 = (0 : Int32) from rfl)]
      simp (disch := omega) only [F_X7_goYear_J103, zv, e_gi, e_gr, e_gl, e_si, e_sb, e_ai, e_ar, e_ti, e_ty, e_tz, e_cv, zc_some, zmo_some, zin_T, ↓reduceIte, zit_succ, zzr0, zzr1, true_and, and_true, and_self, or_false, false_or, or_true, true_or, not_true_eq_false, not_false_eq_true, zl0, zl1, zl2, zl3, zl4, zl5, zl6, zl7, zl8, zl9, zl10, zl11, zl12, zl20, zl24, zl31, zl36, zl40, zl42, zl44, zl48, zl49, zl50, zl55, zl57, zl60, zl97, zl99, zl100, zl102, zl104, zl109, zl113, zl114, zl119, zl126, zl255, zl400, zl1000, zl101, zl103, zl1001, zl1002, zl16, zl18, zl32, zl35, zl443, n_leT, n_leF, n_ltT, n_ltF, n_eqT, n_eqF, n_swT, n_swF, nI_add, n_sub, pk_mul, zd_n]
  · obtain ⟨F, rfl, g0, g1, g2⟩ := hx
    have q4 := (g2 r 4 (by omega) (by omega)).trans hp
    have e5 : pt - 2 + 1 = pt - 1 := by omega
    rw [e5] at g1 ⊢
    obtain ⟨Z, z1', z2', z3⟩ := eC_cutL n (F0 := F) (ne := ne) (hd := hd) (e := e) hn hR q4 h2 h10 g1 (fun p hpp => (g2 (r + 2) p (by omega) (by omega)).trans (he p hpp))
    rw [← qYear_d] at z1' z2'
    refine ⟨_, ⟨Z, rfl, z2', fun a j q1 q2 => (z3 a j q1).trans (g2 a j q1 q2)⟩, fun kc => ?_⟩
    simp (disch := omega) only [F_X7_goYear_B35, zv, e_gi, e_gr, e_gl, e_si, e_sb, e_ai, e_ar, e_ti, e_ty, e_tz, e_cv, zc_some, zmo_some, zin_T, ↓reduceIte, zit_succ, zzr0, zzr1, true_and, and_true, and_self, or_false, false_or, or_true, true_or, not_true_eq_false, not_false_eq_true, zl0, zl1, zl2, zl3, zl4, zl5, zl6, zl7, zl8, zl9, zl10, zl11, zl12, zl20, zl24, zl31, zl36, zl40, zl42, zl44, zl48, zl49, zl50, zl55, zl57, zl60, zl97, zl99, zl100, zl102, zl104, zl109, zl113, zl114, zl119, zl126, zl255, zl400, zl1000, zl101, zl103, zl1001, zl1002, zl16, zl18, zl32, zl35, zl443, n_leT, n_leF, n_ltT, n_ltF, n_eqT, n_eqF, n_swT, n_swF, nI_add, n_sub, pk_mul, zd_n, c1, q4, z1']
theorem eC_year (n : Nat) {S : zH} {F0 : Nat → Nat → Int32} {r pt : Nat} {W e : Nat → Int32} {ea ne hd : Int32} (hn : 513 < n) (hR : zRv S r) (hp : F0 r 4 = nI pt) (h2 : 2 ≤ pt) (h10 : pt ≤ 10) (hW : ∀ p, p < pt → F0 (r + 3) p = W p) (he : ∀ p, p < pt → F0 (r + 2) p = e p) :
    ∃ F, F_X7_goYear n (zwi S F0) r ea ne hd = some (nI (qYear pt ea ne hd e W).2, zwi S F) ∧ (∀ p, p < pt → F (r + 3) p = (qYear pt ea ne hd e W).1 p) ∧ ∀ a j, a ≠ r + 3 → a ≠ r + 4 → F a j = F0 a j := by
  have hR' := hR
  obtain ⟨c1, c2, c3, c4, c5, c6, c7, c8, c9⟩ := hR'
  unfold F_X7_goYear F_X7_goYear_L3
  have key9 := zforE (body := fun kc x => F_X7_goYear_B3 n kc x.1 r ea ne hd x.2) (fun i x => ∃ F, x = (zwi S F, nI i) ∧ (∀ p, p < i → F (r + 4) p = W p) ∧ ∀ a j, a ≠ r + 4 → F a j = F0 a j) pt (Q := fun x => ∃ F, x = some (nI (qYear pt ea ne hd e W).2, zwi S F) ∧ (∀ p, p < pt → F (r + 3) p = (qYear pt ea ne hd e W).1 p) ∧ ∀ a j, a ≠ r + 3 → a ≠ r + 4 → F a j = F0 a j) (fun i x hi hx => ?_) (fun x hx => ?_) (n := n) (by omega) (x := (zwi S F0, nI 0)) ⟨F0, rfl, fun p hpp => by omega, fun _ _ _ => rfl⟩
  · obtain ⟨x, ⟨F, e1, e3⟩, e2⟩ := key9
    exact ⟨F, by rw [← zl0] at e2; rw [e2, e1], e3⟩
  · obtain ⟨F, rfl, g0, g2⟩ := hx
    have q4 := (g2 r 4 (by omega)).trans hp
    have w1 := (g2 (r + 3) i (by omega)).trans (hW i hi)
    refine ⟨_, ⟨z2 F (r + 4) i (W i), rfl, fun p hpp => ?_, fun a j q => by rw [z2n (by omega)]; exact g2 a j q⟩, fun kc => ?_⟩
    · by_cases e5 : p = i
      · subst e5; exact z2_eq _ _ _ _
      · rw [z2n (by omega)]; exact g0 p (by omega)
    · simp (disch := omega) only [F_X7_goYear_B3, zv, e_gi, e_gr, e_gl, e_si, e_sb, e_ai, e_ar, e_ti, e_ty, e_tz, e_cv, zc_some, zmo_some, zin_T, ↓reduceIte, zit_succ, zzr0, zzr1, true_and, and_true, and_self, or_false, false_or, or_true, true_or, not_true_eq_false, not_false_eq_true, zl0, zl1, zl2, zl3, zl4, zl5, zl6, zl7, zl8, zl9, zl10, zl11, zl12, zl20, zl24, zl31, zl36, zl40, zl42, zl44, zl48, zl49, zl50, zl55, zl57, zl60, zl97, zl99, zl100, zl102, zl104, zl109, zl113, zl114, zl119, zl126, zl255, zl400, zl1000, zl101, zl103, zl1001, zl1002, zl16, zl18, zl32, zl35, zl443, n_leT, n_leF, n_ltT, n_ltF, n_eqT, n_eqF, n_swT, n_swF, nI_add, n_sub, pk_mul, zd_n, c1, c4, c5, c8, c9, q4, w1]
  · obtain ⟨F, rfl, g0, g2⟩ := hx
    have q4 := (g2 r 4 (by omega)).trans hp
    obtain ⟨Z, z1', z2', z3⟩ := eC_asideL n (ea := ea) (ne := ne) (hd := hd) hn hR hp h2 h10 he g0 (fun p hpp => (g2 (r + 3) p (by omega)).trans (hW p hpp)) (fun a j q1 q2 => g2 a j q2)
    refine ⟨_, ⟨Z, rfl, z2', z3⟩, fun kc => ?_⟩
    simp (disch := omega) only [F_X7_goYear_B3, zv, e_gi, e_gr, e_gl, e_si, e_sb, e_ai, e_ar, e_ti, e_ty, e_tz, e_cv, zc_some, zmo_some, zin_T, ↓reduceIte, zit_succ, zzr0, zzr1, true_and, and_true, and_self, or_false, false_or, or_true, true_or, not_true_eq_false, not_false_eq_true, zl0, zl1, zl2, zl3, zl4, zl5, zl6, zl7, zl8, zl9, zl10, zl11, zl12, zl20, zl24, zl31, zl36, zl40, zl42, zl44, zl48, zl49, zl50, zl55, zl57, zl60, zl97, zl99, zl100, zl102, zl104, zl109, zl113, zl114, zl119, zl126, zl255, zl400, zl1000, zl101, zl103, zl1001, zl1002, zl16, zl18, zl32, zl35, zl443, n_leT, n_leF, n_ltT, n_ltF, n_eqT, n_eqF, n_swT, n_swF, nI_add, n_sub, pk_mul, zd_n, c1, q4, z1']
