theorem zbr_congr {f : Nat → Nat → Int32} {b : Nat} {w w' : Nat → Nat → Int32} {y : Nat → Int32} (h : ∀ r k, r < 6 → k < 4 → w r k = w' r k) : zbr f b w y = zbr f b w' y := by
  funext a j
  unfold zbr
  by_cases h2 : b + 2 ≤ a ∧ a < b + 8 ∧ j < 4
  · rw [if_pos h2, if_pos h2, h _ _ (by omega) (by omega)]
  · rw [if_neg h2, if_neg h2]
/-- a grid that is laid anew, cell after cell -/
def qLay (g w : Nat → Nat → Int32) (r i : Nat) : Nat → Nat → Int32 := fun r' k => if r' < r ∨ (r' = r ∧ k < i) then g r' k else w r' k
theorem qLay_s {g w : Nat → Nat → Int32} {r i : Nat} {v : Int32} (h : v = g r i) : z2 (qLay g w r i) r i v = qLay g w r (i + 1) := by
  funext r' k
  unfold z2 qLay
  by_cases h1 : r' = r ∧ k = i
  · rw [if_pos h1, if_pos (by omega), h, h1.1, h1.2]
  · rw [if_neg h1]
    by_cases h2 : r' < r ∨ (r' = r ∧ k < i)
    · rw [if_pos h2, if_pos (by omega)]
    · rw [if_neg h2, if_neg (by omega)]
theorem qLay_0 {g w : Nat → Nat → Int32} : qLay g w 0 0 = w := by
  funext r' k
  unfold qLay
  rw [if_neg (by omega)]
theorem zbr_lay4 {f g w : Nat → Nat → Int32} {b r : Nat} {y : Nat → Int32} : zbr f b (qLay g w r 4) y = zbr f b (qLay g w (r + 1) 0) y := by
  refine zbr_congr (fun r' k h1 h2 => ?_)
  unfold qLay
  by_cases h3 : r' < r ∨ (r' = r ∧ k < 4)
  · rw [if_pos h3, if_pos (by omega)]
  · rw [if_neg h3, if_neg (by omega)]
theorem zbr_lay6 {f g w : Nat → Nat → Int32} {b : Nat} {y : Nat → Int32} : zbr f b (qLay g w 6 0) y = zbr f b g y := by
  refine zbr_congr (fun r' k h1 h2 => ?_)
  unfold qLay
  rw [if_pos (by omega)]
def q0 : Nat → Nat → Int32 := fun _ _ => nI 0
theorem eX0_calm (n : Nat) {S : zH} {f w : Nat → Nat → Int32} {y : Nat → Int32} {b v z nl : Nat} (hn : 513 < n) (hB : zBr S b) (hV : zLvs S v z) (hvb : v + 4 < b) (hz : z ≤ 10) (hnl : f v 4 = nI nl) (hnz : nl ≤ z) :
    F_X0_calm n (zwi S (zbr f b w y)) b v = some ((), zwi S (zbr f b q0 (fun l => if l < nl then f (v + 1) l else y l))) := by
  obtain ⟨b1, b2, b3, b4, b5, b6, b7⟩ := hB
  obtain ⟨v1, v2, v3, v4, v5, v6, v7, v8, v9⟩ := hV
  unfold F_X0_calm F_X0_calm_L2
  conv => lhs; rw [← qLay_0 (g := q0) (w := w)]
  refine zfor (fun r => (zwi S (zbr f b (qLay q0 w r 0) y), nI r)) 6 (fun kc r hr => ?_) (fun kc => ?_) (by omega)
  · simp (disch := omega) only [F_X0_calm_B2, zv, e_gi, e_gr, e_gl, e_si, e_sb, e_ai, e_ar, e_ti, e_ty, e_tz, e_cv, zc_some, zmo_some, zin_T, ↓reduceIte, zit_succ, zzr0, zzr1, true_and, and_true, and_self, or_false, false_or, or_true, true_or, not_true_eq_false, not_false_eq_true, zl0, zl1, zl2, zl3, zl4, zl5, zl6, zl7, zl8, zl9, zl10, zl11, zl12, zl20, zl24, zl31, zl36, zl40, zl42, zl44, zl48, zl49, zl50, zl55, zl57, zl60, zl97, zl99, zl100, zl102, zl104, zl109, zl113, zl114, zl119, zl126, zl255, zl400, zl1000, zl101, zl103, zl1001, zl1002, zl16, zl18, zl32, zl35, zl443, n_leT, n_leF, n_ltT, n_ltF, n_eqT, n_eqF, n_swT, n_swF, nI_add, n_sub, pk_mul, zd_n]
    unfold F_X0_calm_L10
    refine zfor (fun i => (zwi S (zbr f b (qLay q0 w r i) y), nI i)) 4 (fun kd i hi => ?_) (fun kd => ?_) (by omega)
    · rw [← qLay_s (g := q0) (w := w) (r := r) (i := i) (v := nI 0) rfl]
      simp (disch := omega) only [F_X0_calm_B10, zv, e_gi, e_gr, e_gl, e_si, e_sb, e_ai, e_ar, e_ti, e_ty, e_tz, e_cv, zc_some, zmo_some, zin_T, ↓reduceIte, zit_succ, zzr0, zzr1, true_and, and_true, and_self, or_false, false_or, or_true, true_or, not_true_eq_false, not_false_eq_true, zl0, zl1, zl2, zl3, zl4, zl5, zl6, zl7, zl8, zl9, zl10, zl11, zl12, zl20, zl24, zl31, zl36, zl40, zl42, zl44, zl48, zl49, zl50, zl55, zl57, zl60, zl97, zl99, zl100, zl102, zl104, zl109, zl113, zl114, zl119, zl126, zl255, zl400, zl1000, zl101, zl103, zl1001, zl1002, zl16, zl18, zl32, zl35, zl443, n_leT, n_leF, n_ltT, n_ltF, n_eqT, n_eqF, n_swT, n_swF, nI_add, n_sub, pk_mul, zd_n, zbr_o, zbr_w, zbr_y, zbr_2w, zbr_2y, b1, b2, b3, b4, b5, b6, b7]
    · simp (disch := omega) only [F_X0_calm_B10, zv, e_gi, e_gr, e_gl, e_si, e_sb, e_ai, e_ar, e_ti, e_ty, e_tz, e_cv, zc_some, zmo_some, zin_T, ↓reduceIte, zit_succ, zzr0, zzr1, true_and, and_true, and_self, or_false, false_or, or_true, true_or, not_true_eq_false, not_false_eq_true, zl0, zl1, zl2, zl3, zl4, zl5, zl6, zl7, zl8, zl9, zl10, zl11, zl12, zl20, zl24, zl31, zl36, zl40, zl42, zl44, zl48, zl49, zl50, zl55, zl57, zl60, zl97, zl99, zl100, zl102, zl104, zl109, zl113, zl114, zl119, zl126, zl255, zl400, zl1000, zl101, zl103, zl1001, zl1002, zl16, zl18, zl32, zl35, zl443, n_leT, n_leF, n_ltT, n_ltF, n_eqT, n_eqF, n_swT, n_swF, nI_add, n_sub, pk_mul, zd_n, zbr_lay4]
  · rw [zbr_lay6]
    simp (disch := omega) only [F_X0_calm_B2, zv, e_gi, e_gr, e_gl, e_si, e_sb, e_ai, e_ar, e_ti, e_ty, e_tz, e_cv, zc_some, zmo_some, zin_T, ↓reduceIte, zit_succ, zzr0, zzr1, true_and, and_true, and_self, or_false, false_or, or_true, true_or, not_true_eq_false, not_false_eq_true, zl0, zl1, zl2, zl3, zl4, zl5, zl6, zl7, zl8, zl9, zl10, zl11, zl12, zl20, zl24, zl31, zl36, zl40, zl42, zl44, zl48, zl49, zl50, zl55, zl57, zl60, zl97, zl99, zl100, zl102, zl104, zl109, zl113, zl114, zl119, zl126, zl255, zl400, zl1000, zl101, zl103, zl1001, zl1002, zl16, zl18, zl32, zl35, zl443, n_leT, n_leF, n_ltT, n_ltF, n_eqT, n_eqF, n_swT, n_swF, nI_add, n_sub, pk_mul, zd_n]
    unfold F_X0_calm_L38
    conv => lhs; rw [← qcl_0 (G := fun l => f (v + 1) l) (y := y)]
    refine zfor (fun i => (zwi S (zbr f b q0 (fun l => if l < i then f (v + 1) l else y l)), nI i)) nl (fun kd i hi => ?_) (fun kd => ?_) (by omega)
    · rw [← qcl_step (G := fun l => f (v + 1) l) (y := y) (i := i) (v := f (v + 1) i) rfl]
      simp (disch := omega) only [F_X0_calm_B38, zv, e_gi, e_gr, e_gl, e_si, e_sb, e_ai, e_ar, e_ti, e_ty, e_tz, e_cv, zc_some, zmo_some, zin_T, ↓reduceIte, zit_succ, zzr0, zzr1, true_and, and_true, and_self, or_false, false_or, or_true, true_or, not_true_eq_false, not_false_eq_true, zl0, zl1, zl2, zl3, zl4, zl5, zl6, zl7, zl8, zl9, zl10, zl11, zl12, zl20, zl24, zl31, zl36, zl40, zl42, zl44, zl48, zl49, zl50, zl55, zl57, zl60, zl97, zl99, zl100, zl102, zl104, zl109, zl113, zl114, zl119, zl126, zl255, zl400, zl1000, zl101, zl103, zl1001, zl1002, zl16, zl18, zl32, zl35, zl443, n_leT, n_leF, n_ltT, n_ltF, n_eqT, n_eqF, n_swT, n_swF, nI_add, n_sub, pk_mul, zd_n, hnl, zbr_o, zbr_w, zbr_y, zbr_2w, zbr_2y, b1, b2, b3, b4, b5, b6, b7, v1, v2, v6]
    · simp (disch := omega) only [F_X0_calm_B38, zv, e_gi, e_gr, e_gl, e_si, e_sb, e_ai, e_ar, e_ti, e_ty, e_tz, e_cv, zc_some, zmo_some, zin_T, ↓reduceIte, zit_succ, zzr0, zzr1, true_and, and_true, and_self, or_false, false_or, or_true, true_or, not_true_eq_false, not_false_eq_true, zl0, zl1, zl2, zl3, zl4, zl5, zl6, zl7, zl8, zl9, zl10, zl11, zl12, zl20, zl24, zl31, zl36, zl40, zl42, zl44, zl48, zl49, zl50, zl55, zl57, zl60, zl97, zl99, zl100, zl102, zl104, zl109, zl113, zl114, zl119, zl126, zl255, zl400, zl1000, zl101, zl103, zl1001, zl1002, zl16, zl18, zl32, zl35, zl443, n_leT, n_leF, n_ltT, n_ltF, n_eqT, n_eqF, n_swT, n_swF, nI_add, n_sub, pk_mul, zd_n, hnl, zbr_o, zbr_w, zbr_y, zbr_2w, zbr_2y, b1, b2, b3, b4, b5, b6, b7, v1]
theorem eX0_copyFrom (n : Nat) {S : zH} {f w : Nat → Nat → Int32} {y : Nat → Int32} {b b' nl : Nat} (hn : 513 < n) (hB : zBr S b) (hB' : zBr S b') (hbb : b' + 8 < b ∨ b + 8 < b') (hnl : nl ≤ 10) :
    F_X0_copyFrom n (zwi S (zbr f b w y)) b b' (nI nl) = some ((), zwi S (zbr f b (fun r k => f (b' + 2 + r) k) (fun l => if l < nl then f (b' + 8) l else y l))) := by
  obtain ⟨b1, b2, b3, b4, b5, b6, b7⟩ := hB
  obtain ⟨c1, c2, c3, c4, c5, c6, c7⟩ := hB'
  unfold F_X0_copyFrom F_X0_copyFrom_L2
  conv => lhs; rw [← qLay_0 (g := fun r k => f (b' + 2 + r) k) (w := w)]
  refine zfor (fun r => (zwi S (zbr f b (qLay (fun r k => f (b' + 2 + r) k) w r 0) y), nI r)) 6 (fun kc r hr => ?_) (fun kc => ?_) (by omega)
  · simp (disch := omega) only [F_X0_copyFrom_B2, zv, e_gi, e_gr, e_gl, e_si, e_sb, e_ai, e_ar, e_ti, e_ty, e_tz, e_cv, zc_some, zmo_some, zin_T, ↓reduceIte, zit_succ, zzr0, zzr1, true_and, and_true, and_self, or_false, false_or, or_true, true_or, not_true_eq_false, not_false_eq_true, zl0, zl1, zl2, zl3, zl4, zl5, zl6, zl7, zl8, zl9, zl10, zl11, zl12, zl20, zl24, zl31, zl36, zl40, zl42, zl44, zl48, zl49, zl50, zl55, zl57, zl60, zl97, zl99, zl100, zl102, zl104, zl109, zl113, zl114, zl119, zl126, zl255, zl400, zl1000, zl101, zl103, zl1001, zl1002, zl16, zl18, zl32, zl35, zl443, n_leT, n_leF, n_ltT, n_ltF, n_eqT, n_eqF, n_swT, n_swF, nI_add, n_sub, pk_mul, zd_n]
    unfold F_X0_copyFrom_L11
    refine zfor (fun i => (zwi S (zbr f b (qLay (fun r k => f (b' + 2 + r) k) w r i) y), nI i)) 4 (fun kd i hi => ?_) (fun kd => ?_) (by omega)
    · rw [← qLay_s (g := fun r k => f (b' + 2 + r) k) (w := w) (r := r) (i := i) (v := f (b' + 2 + r) i) rfl]
      simp (disch := omega) only [F_X0_copyFrom_B11, zv, e_gi, e_gr, e_gl, e_si, e_sb, e_ai, e_ar, e_ti, e_ty, e_tz, e_cv, zc_some, zmo_some, zin_T, ↓reduceIte, zit_succ, zzr0, zzr1, true_and, and_true, and_self, or_false, false_or, or_true, true_or, not_true_eq_false, not_false_eq_true, zl0, zl1, zl2, zl3, zl4, zl5, zl6, zl7, zl8, zl9, zl10, zl11, zl12, zl20, zl24, zl31, zl36, zl40, zl42, zl44, zl48, zl49, zl50, zl55, zl57, zl60, zl97, zl99, zl100, zl102, zl104, zl109, zl113, zl114, zl119, zl126, zl255, zl400, zl1000, zl101, zl103, zl1001, zl1002, zl16, zl18, zl32, zl35, zl443, n_leT, n_leF, n_ltT, n_ltF, n_eqT, n_eqF, n_swT, n_swF, nI_add, n_sub, pk_mul, zd_n, zbr_o, zbr_w, zbr_y, zbr_2w, zbr_2y, b1, b2, b3, b4, b5, b6, b7, c1, c2, c4, c5, c6]
    · simp (disch := omega) only [F_X0_copyFrom_B11, zv, e_gi, e_gr, e_gl, e_si, e_sb, e_ai, e_ar, e_ti, e_ty, e_tz, e_cv, zc_some, zmo_some, zin_T, ↓reduceIte, zit_succ, zzr0, zzr1, true_and, and_true, and_self, or_false, false_or, or_true, true_or, not_true_eq_false, not_false_eq_true, zl0, zl1, zl2, zl3, zl4, zl5, zl6, zl7, zl8, zl9, zl10, zl11, zl12, zl20, zl24, zl31, zl36, zl40, zl42, zl44, zl48, zl49, zl50, zl55, zl57, zl60, zl97, zl99, zl100, zl102, zl104, zl109, zl113, zl114, zl119, zl126, zl255, zl400, zl1000, zl101, zl103, zl1001, zl1002, zl16, zl18, zl32, zl35, zl443, n_leT, n_leF, n_ltT, n_ltF, n_eqT, n_eqF, n_swT, n_swF, nI_add, n_sub, pk_mul, zd_n, zbr_lay4]
  · rw [zbr_lay6]
    simp (disch := omega) only [F_X0_copyFrom_B2, zv, e_gi, e_gr, e_gl, e_si, e_sb, e_ai, e_ar, e_ti, e_ty, e_tz, e_cv, zc_some, zmo_some, zin_T, ↓reduceIte, zit_succ, zzr0, zzr1, true_and, and_true, and_self, or_false, false_or, or_true, true_or, not_true_eq_false, not_false_eq_true, zl0, zl1, zl2, zl3, zl4, zl5, zl6, zl7, zl8, zl9, zl10, zl11, zl12, zl20, zl24, zl31, zl36, zl40, zl42, zl44, zl48, zl49, zl50, zl55, zl57, zl60, zl97, zl99, zl100, zl102, zl104, zl109, zl113, zl114, zl119, zl126, zl255, zl400, zl1000, zl101, zl103, zl1001, zl1002, zl16, zl18, zl32, zl35, zl443, n_leT, n_leF, n_ltT, n_ltF, n_eqT, n_eqF, n_swT, n_swF, nI_add, n_sub, pk_mul, zd_n]
    unfold F_X0_copyFrom_L49
    conv => lhs; rw [← qcl_0 (G := fun l => f (b' + 8) l) (y := y)]
    refine zfor (fun i => (zwi S (zbr f b (fun r k => f (b' + 2 + r) k) (fun l => if l < i then f (b' + 8) l else y l)), nI i)) nl (fun kd i hi => ?_) (fun kd => ?_) (by omega)
    · rw [← qcl_step (G := fun l => f (b' + 8) l) (y := y) (i := i) (v := f (b' + 8) i) rfl]
      simp (disch := omega) only [F_X0_copyFrom_B49, zv, e_gi, e_gr, e_gl, e_si, e_sb, e_ai, e_ar, e_ti, e_ty, e_tz, e_cv, zc_some, zmo_some, zin_T, ↓reduceIte, zit_succ, zzr0, zzr1, true_and, and_true, and_self, or_false, false_or, or_true, true_or, not_true_eq_false, not_false_eq_true, zl0, zl1, zl2, zl3, zl4, zl5, zl6, zl7, zl8, zl9, zl10, zl11, zl12, zl20, zl24, zl31, zl36, zl40, zl42, zl44, zl48, zl49, zl50, zl55, zl57, zl60, zl97, zl99, zl100, zl102, zl104, zl109, zl113, zl114, zl119, zl126, zl255, zl400, zl1000, zl101, zl103, zl1001, zl1002, zl16, zl18, zl32, zl35, zl443, n_leT, n_leF, n_ltT, n_ltF, n_eqT, n_eqF, n_swT, n_swF, nI_add, n_sub, pk_mul, zd_n, zbr_o, zbr_w, zbr_y, zbr_2w, zbr_2y, b1, b2, b3, b4, b5, b6, b7, c1, c3, c7]
    · simp (disch := omega) only [F_X0_copyFrom_B49, F_X0_copyFrom_J78, zv, e_gi, e_gr, e_gl, e_si, e_sb, e_ai, e_ar, e_ti, e_ty, e_tz, e_cv, zc_some, zmo_some, zin_T, ↓reduceIte, zit_succ, zzr0, zzr1, true_and, and_true, and_self, or_false, false_or, or_true, true_or, not_true_eq_false, not_false_eq_true, zl0, zl1, zl2, zl3, zl4, zl5, zl6, zl7, zl8, zl9, zl10, zl11, zl12, zl20, zl24, zl31, zl36, zl40, zl42, zl44, zl48, zl49, zl50, zl55, zl57, zl60, zl97, zl99, zl100, zl102, zl104, zl109, zl113, zl114, zl119, zl126, zl255, zl400, zl1000, zl101, zl103, zl1001, zl1002, zl16, zl18, zl32, zl35, zl443, n_leT, n_leF, n_ltT, n_ltF, n_eqT, n_eqF, n_swT, n_swF, nI_add, n_sub, pk_mul, zd_n]
def qCnt (y : Nat → Int32) (x : Int32) (nl : Nat) : Int32 := zit (fun l s => s + (if y l = x then nI 1 else nI 0)) (nI 0) nl
theorem eX0_lyingIn (n : Nat) {S : zH} {f w : Nat → Nat → Int32} {y : Nat → Int32} {b v z nl : Nat} {x : Int32} (hn : 513 < n) (hB : zBr S b) (hV : zLvs S v z) (hvb : v + 4 < b) (hz : z ≤ 10) (hnl : f v 4 = nI nl) (hnz : nl ≤ z) :
    F_X0_lyingIn n (zwi S (zbr f b w y)) b x v = some (qCnt y x nl, zwi S (zbr f b w y)) := by
  obtain ⟨b1, b2, b3, b4, b5, b6, b7⟩ := hB
  obtain ⟨v1, v2, v3, v4, v5, v6, v7, v8, v9⟩ := hV
  unfold F_X0_lyingIn F_X0_lyingIn_L5
  refine zfor (fun i => (zwi S (zbr f b w y), qCnt y x i, nI i)) nl (fun kc i hi => ?_) (fun kc => ?_) (by omega)
  · show _ = kc (zwi S (zbr f b w y), qCnt y x i + (if y i = x then nI 1 else nI 0), nI (i + 1))
    by_cases hx : y i = x
    · simp (disch := omega) only [F_X0_lyingIn_B5, F_X0_lyingIn_J31, zv, e_gi, e_gr, e_gl, e_si, e_sb, e_ai, e_ar, e_ti, e_ty, e_tz, e_cv, zc_some, zmo_some, zin_T, ↓reduceIte, zit_succ, zzr0, zzr1, true_and, and_true, and_self, or_false, false_or, or_true, true_or, not_true_eq_false, not_false_eq_true, zl0, zl1, zl2, zl3, zl4, zl5, zl6, zl7, zl8, zl9, zl10, zl11, zl12, zl20, zl24, zl31, zl36, zl40, zl42, zl44, zl48, zl49, zl50, zl55, zl57, zl60, zl97, zl99, zl100, zl102, zl104, zl109, zl113, zl114, zl119, zl126, zl255, zl400, zl1000, zl101, zl103, zl1001, zl1002, zl16, zl18, zl32, zl35, zl443, n_leT, n_leF, n_ltT, n_ltF, n_eqT, n_eqF, n_swT, n_swF, nI_add, n_sub, pk_mul, zd_n, hnl, zbr_o, zbr_w, zbr_y, zbr_2w, zbr_2y, b1, b2, b3, b4, b5, b6, b7, v1, hx]
    · simp (disch := omega) only [F_X0_lyingIn_B5, F_X0_lyingIn_J31, zv, e_gi, e_gr, e_gl, e_si, e_sb, e_ai, e_ar, e_ti, e_ty, e_tz, e_cv, zc_some, zmo_some, zin_T, ↓reduceIte, zit_succ, zzr0, zzr1, true_and, and_true, and_self, or_false, false_or, or_true, true_or, not_true_eq_false, not_false_eq_true, zl0, zl1, zl2, zl3, zl4, zl5, zl6, zl7, zl8, zl9, zl10, zl11, zl12, zl20, zl24, zl31, zl36, zl40, zl42, zl44, zl48, zl49, zl50, zl55, zl57, zl60, zl97, zl99, zl100, zl102, zl104, zl109, zl113, zl114, zl119, zl126, zl255, zl400, zl1000, zl101, zl103, zl1001, zl1002, zl16, zl18, zl32, zl35, zl443, n_leT, n_leF, n_ltT, n_ltF, n_eqT, n_eqF, n_swT, n_swF, nI_add, n_sub, pk_mul, zd_n, hnl, zbr_o, zbr_w, zbr_y, zbr_2w, zbr_2y, b1, b2, b3, b4, b5, b6, b7, v1, hx]
  · simp (disch := omega) only [F_X0_lyingIn_B5, zv, e_gi, e_gr, e_gl, e_si, e_sb, e_ai, e_ar, e_ti, e_ty, e_tz, e_cv, zc_some, zmo_some, zin_T, ↓reduceIte, zit_succ, zzr0, zzr1, true_and, and_true, and_self, or_false, false_or, or_true, true_or, not_true_eq_false, not_false_eq_true, zl0, zl1, zl2, zl3, zl4, zl5, zl6, zl7, zl8, zl9, zl10, zl11, zl12, zl20, zl24, zl31, zl36, zl40, zl42, zl44, zl48, zl49, zl50, zl55, zl57, zl60, zl97, zl99, zl100, zl102, zl104, zl109, zl113, zl114, zl119, zl126, zl255, zl400, zl1000, zl101, zl103, zl1001, zl1002, zl16, zl18, zl32, zl35, zl443, n_leT, n_leF, n_ltT, n_ltF, n_eqT, n_eqF, n_swT, n_swF, nI_add, n_sub, pk_mul, zd_n, hnl, zbr_o, zbr_w, zbr_y, zbr_2w, zbr_2y, b1, b2, b3, b4, b5, b6, b7, v1]
