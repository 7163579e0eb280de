/-! ===== the years of the reference's river ===== -/
theorem eM_free (n : Nat) {S : zH} {F : Nat → Nat → Int32} {p : Nat} (hM : zMo S) (hpp : p < 10) : F_X11_isFree n (zwi S F) 85 (nI p) = some (if F 104 p = nI 0 ∧ ¬ nI p = F 85 47 then nI 1 else nI 0, zwi S F) := by
  have s67 := mo_s85 hM
  have r25 := mo_r25 hM
  have s86 := mo_s104 hM
  generalize hhd : F 85 47 = hd
  by_cases h3 : F 104 p = nI 0
  · by_cases h4 : nI p = hd
    · rw [if_neg (fun z => z.2 h4)]
      subst h4
      simp (disch := omega) only [F_X11_isFree, F_X11_isFree_J21, F_X11_isFree_J22, zv, e_gi, e_gr, e_gl, e_si, e_sb, e_ai, e_ar, e_ti, e_ty, e_tz, e_cv, zc_some, zmo_some, zin_T, ↓reduceIte, zit_succ, zzr0, zzr1, true_and, and_true, and_self, or_false, false_or, or_true, true_or, not_true_eq_false, not_false_eq_true, zl0, zl1, zl2, zl3, zl4, zl5, zl6, zl7, zl8, zl9, zl10, zl11, zl12, zl20, zl24, zl31, zl36, zl40, zl42, zl44, zl48, zl49, zl50, zl55, zl57, zl60, zl97, zl99, zl100, zl102, zl104, zl109, zl113, zl114, zl119, zl126, zl255, zl400, zl1000, zl101, zl103, zl1001, zl1002, zl16, zl18, zl32, zl35, zl443, n_leT, n_leF, n_ltT, n_ltF, n_eqT, n_eqF, n_swT, n_swF, nI_add, n_sub, pk_mul, zd_n, s67, r25, s86, h3, hhd]
    · rw [if_pos ⟨h3, h4⟩]
      simp (disch := omega) only [F_X11_isFree, F_X11_isFree_J22, zv, e_gi, e_gr, e_gl, e_si, e_sb, e_ai, e_ar, e_ti, e_ty, e_tz, e_cv, zc_some, zmo_some, zin_T, ↓reduceIte, zit_succ, zzr0, zzr1, true_and, and_true, and_self, or_false, false_or, or_true, true_or, not_true_eq_false, not_false_eq_true, zl0, zl1, zl2, zl3, zl4, zl5, zl6, zl7, zl8, zl9, zl10, zl11, zl12, zl20, zl24, zl31, zl36, zl40, zl42, zl44, zl48, zl49, zl50, zl55, zl57, zl60, zl97, zl99, zl100, zl102, zl104, zl109, zl113, zl114, zl119, zl126, zl255, zl400, zl1000, zl101, zl103, zl1001, zl1002, zl16, zl18, zl32, zl35, zl443, n_leT, n_leF, n_ltT, n_ltF, n_eqT, n_eqF, n_swT, n_swF, nI_add, n_sub, pk_mul, zd_n, s67, r25, s86, h3, hhd, h4]
  · rw [if_neg (fun z => h3 z.1)]
    simp (disch := omega) only [F_X11_isFree, F_X11_isFree_J21, F_X11_isFree_J22, zv, e_gi, e_gr, e_gl, e_si, e_sb, e_ai, e_ar, e_ti, e_ty, e_tz, e_cv, zc_some, zmo_some, zin_T, ↓reduceIte, zit_succ, zzr0, zzr1, true_and, and_true, and_self, or_false, false_or, or_true, true_or, not_true_eq_false, not_false_eq_true, zl0, zl1, zl2, zl3, zl4, zl5, zl6, zl7, zl8, zl9, zl10, zl11, zl12, zl20, zl24, zl31, zl36, zl40, zl42, zl44, zl48, zl49, zl50, zl55, zl57, zl60, zl97, zl99, zl100, zl102, zl104, zl109, zl113, zl114, zl119, zl126, zl255, zl400, zl1000, zl101, zl103, zl1001, zl1002, zl16, zl18, zl32, zl35, zl443, n_leT, n_leF, n_ltT, n_ltF, n_eqT, n_eqF, n_swT, n_swF, nI_add, n_sub, pk_mul, zd_n, s67, r25, s86, h3]
theorem eM_bends (n : Nat) {S : zH} {F0 : Nat → Nat → Int32} {pt : Nat} {W : Nat → Int32} (hn : 513 < n) (hM : zMo S) (hp : F0 85 23 = nI pt) (h2 : 2 ≤ pt) (h10 : pt ≤ 10) (hW : ∀ p, p < pt → F0 115 p = W p) :
    ∃ F, F_X11_layBends n (zwi S F0) 85 = some ((), zwi S F) ∧ (∀ p, 1 ≤ p → p + 1 < pt → F 116 p = qBend W p) ∧ ∀ a j, a ≠ 116 → F a j = F0 a j := by
  have s67 := mo_s85 hM
  have r45 := mo_r45 hM
  have s97 := mo_s115 hM
  have r46 := mo_r46 hM
  have s98 := mo_s116 hM
  unfold F_X11_layBends F_X11_layBends_L2
  have key9 := zforE (body := fun kc x => F_X11_layBends_B2 n kc x.1 85 x.2) (fun i x => ∃ F, x = (zwi S F, nI (i + 1)) ∧ (∀ p, 1 ≤ p → p < i + 1 → F 116 p = qBend W p) ∧ ∀ a j, a ≠ 116 → F a j = F0 a j) (pt - 2) (Q := fun x => ∃ F, x = some ((), zwi S F) ∧ (∀ p, 1 ≤ p → p + 1 < pt → F 116 p = qBend W p) ∧ ∀ a j, a ≠ 116 → F a j = F0 a j) (fun i x hi hx => ?_) (fun x hx => ?_) (n := n) (by omega) (x := (zwi S F0, nI 1)) ⟨F0, rfl, fun p q1 q2 => by omega, fun _ _ _ => rfl⟩
  · obtain ⟨x, ⟨F, e1, e3⟩, e2⟩ := key9
    exact ⟨F, by rw [← zl1] at e2; rw [e2, e1], e3⟩
  · obtain ⟨F, rfl, g1, g2⟩ := hx
    have q4 := (g2 85 23 (by omega)).trans hp
    have w0 := (g2 115 i (by omega)).trans (hW i (by omega))
    have w1 := (g2 115 (i + 1) (by omega)).trans (hW (i + 1) (by omega))
    have w2 := (g2 115 (i + 2) (by omega)).trans (hW (i + 2) (by omega))
    refine ⟨_, ⟨z2 F 116 (i + 1) (qBend W (i + 1)), rfl, fun p q1 q2 => ?_, fun a j q => by rw [z2n (by omega)]; exact g2 a j q⟩, fun kc => ?_⟩
    · by_cases e5 : p = i + 1
      · subst e5; exact z2_eq _ _ _ _
      · rw [z2n (by omega)]; exact g1 p q1 (by omega)
    · unfold qBend
      have e22 : i + 1 + 1 = i + 2 := rfl
      simp (disch := omega) only [F_X11_layBends_B2, zv, e_gi, e_gr, e_gl, e_si, e_sb, e_ai, e_ar, e_ti, e_ty, e_tz, e_cv, zc_some, zmo_some, zin_T, ↓reduceIte, zit_succ, zzr0, zzr1, true_and, and_true, and_self, or_false, false_or, or_true, true_or, not_true_eq_false, not_false_eq_true, zl0, zl1, zl2, zl3, zl4, zl5, zl6, zl7, zl8, zl9, zl10, zl11, zl12, zl20, zl24, zl31, zl36, zl40, zl42, zl44, zl48, zl49, zl50, zl55, zl57, zl60, zl97, zl99, zl100, zl102, zl104, zl109, zl113, zl114, zl119, zl126, zl255, zl400, zl1000, zl101, zl103, zl1001, zl1002, zl16, zl18, zl32, zl35, zl443, n_leT, n_leF, n_ltT, n_ltF, n_eqT, n_eqF, n_swT, n_swF, nI_add, n_sub, pk_mul, zd_n, s67, r45, s97, r46, s98, q4, Nat.add_sub_cancel, e22, w0, w1, w2]
  · obtain ⟨F, rfl, g1, g2⟩ := hx
    have q4 := (g2 85 23 (by omega)).trans hp
    refine ⟨_, ⟨F, rfl, fun p q1 q2 => g1 p q1 (by omega), g2⟩, fun kc => ?_⟩
    have e5 : pt - 2 + 1 = pt - 1 := by omega
    rw [e5]
    simp (disch := omega) only [F_X11_layBends_B2, zv, e_gi, e_gr, e_gl, e_si, e_sb, e_ai, e_ar, e_ti, e_ty, e_tz, e_cv, zc_some, zmo_some, zin_T, ↓reduceIte, zit_succ, zzr0, zzr1, true_and, and_true, and_self, or_false, false_or, or_true, true_or, not_true_eq_false, not_false_eq_true, zl0, zl1, zl2, zl3, zl4, zl5, zl6, zl7, zl8, zl9, zl10, zl11, zl12, zl20, zl24, zl31, zl36, zl40, zl42, zl44, zl48, zl49, zl50, zl55, zl57, zl60, zl97, zl99, zl100, zl102, zl104, zl109, zl113, zl114, zl119, zl126, zl255, zl400, zl1000, zl101, zl103, zl1001, zl1002, zl16, zl18, zl32, zl35, zl443, n_leT, n_leF, n_ltT, n_ltF, n_eqT, n_eqF, n_swT, n_swF, nI_add, n_sub, pk_mul, zd_n, s67, q4]
def qFy (fy y : Int32) (c : Nat) : Int32 := if fy = -nI 1 ∧ 0 < c then y else fy
theorem qFy_0 (fy y : Int32) : qFy fy y 0 = fy := if_neg (by omega)
theorem qFy_s {fy y : Int32} {c : Nat} (hy : ¬ y = -nI 1) : (if qFy fy y c = -nI 1 then y else qFy fy y c) = qFy fy y (c + 1) := by
  by_cases h : fy = -nI 1
  · have e2 : qFy fy y (c + 1) = y := if_pos ⟨h, by omega⟩
    by_cases hc : 0 < c
    · have e1 : qFy fy y c = y := if_pos ⟨h, hc⟩
      rw [e1, e2, if_neg hy]
    · have e1 : qFy fy y c = fy := if_neg (fun z => hc z.2)
      rw [e1, e2, if_pos h]
  · have e1 : qFy fy y c = fy := if_neg (fun z => h z.1)
    have e2 : qFy fy y (c + 1) = fy := if_neg (fun z => h z.1)
    rw [e1, e2, if_neg h]
theorem eM_over (n : Nat) {S : zH} {F : Nat → Nat → Int32} {pt i : Nat} {V : Nat → Int32} {ne y : Int32} {kc : zH × Int32 → Option (Unit × zH)} (hM : zMo S) (hp : F 85 23 = nI pt) (hi : i + 2 < pt) (h10 : pt ≤ 10) (hV : ∀ p, p < i + 3 → F 115 p = V p) :
    F_X11_goYear_B88 n kc (zwi S F) 85 y ne (nI (i + 1)) = F_X11_goYear_J168 n kc (zwi S F) 85 y ne (nI (i + 1)) (if yOv V (i + 1) ne = true then nI 1 else nI 0) := by
  have s67 := mo_s85 hM
  have r45 := mo_r45 hM
  have s97 := mo_s115 hM
  have w0 := hV i (by omega)
  have w1 := hV (i + 1) (by omega)
  have w2 := hV (i + 2) (by omega)
  unfold yOv
  rw [Nat.add_sub_cancel, show i + 1 + 1 = i + 2 from rfl]
  generalize ha : V (i + 1) - V i = a
  generalize hb : V (i + 1) - V (i + 2) = b
  have e22 : i + 1 + 1 = i + 2 := rfl
  have key : F_X11_goYear_B88 n kc (zwi S F) 85 y ne (nI (i + 1)) = if a ≤ ne then F_X11_goYear_J149 n kc (zwi S F) 85 y ne (nI (i + 1)) a b else if ne < b then F_X11_goYear_J163 n kc (zwi S F) 85 y ne (nI (i + 1)) else F_X11_goYear_J149 n kc (zwi S F) 85 y ne (nI (i + 1)) a b := by
    simp (disch := omega) only [F_X11_goYear_B88, zv, e_gi, e_gr, e_gl, e_si, e_sb, e_ai, e_ar, e_ti, e_ty, e_tz, e_cv, zc_some, zmo_some, zin_T, ↓reduceIte, zit_succ, zzr0, zzr1, true_and, and_true, and_self, or_false, false_or, or_true, true_or, not_true_eq_false, not_false_eq_true, zl0, zl1, zl2, zl3, zl4, zl5, zl6, zl7, zl8, zl9, zl10, zl11, zl12, zl20, zl24, zl31, zl36, zl40, zl42, zl44, zl48, zl49, zl50, zl55, zl57, zl60, zl97, zl99, zl100, zl102, zl104, zl109, zl113, zl114, zl119, zl126, zl255, zl400, zl1000, zl101, zl103, zl1001, zl1002, zl16, zl18, zl32, zl35, zl443, n_leT, n_leF, n_ltT, n_ltF, n_eqT, n_eqF, n_swT, n_swF, nI_add, n_sub, pk_mul, zd_n, s67, r45, s97, hp, Nat.add_sub_cancel, e22, w0, w1, w2, ha, hb]
  have le_lt : ∀ x y : Int32, (x ≤ y) = ¬ (y < x) := fun x y => propext ⟨fun h z => by have := i_le h; have := i_lt z; omega, fun h => Int32.le_iff_toInt_le.mpr (i_nlt h)⟩
  rw [key]
  by_cases h1 : ne < a
  · by_cases h2 : ne < b
    · simp only [F_X11_goYear_J163, zv, e_gi, e_gr, e_gl, e_si, e_sb, e_ai, e_ar, e_ti, e_ty, e_tz, e_cv, zc_some, zmo_some, zin_T, ↓reduceIte, zit_succ, zzr0, zzr1, true_and, and_true, and_self, or_false, false_or, or_true, true_or, not_true_eq_false, not_false_eq_true, zl0, zl1, zl2, zl3, zl4, zl5, zl6, zl7, zl8, zl9, zl10, zl11, zl12, zl20, zl24, zl31, zl36, zl40, zl42, zl44, zl48, zl49, zl50, zl55, zl57, zl60, zl97, zl99, zl100, zl102, zl104, zl109, zl113, zl114, zl119, zl126, zl255, zl400, zl1000, zl101, zl103, zl1001, zl1002, zl16, zl18, zl32, zl35, zl443, n_leT, n_leF, n_ltT, n_ltF, n_eqT, n_eqF, n_swT, n_swF, nI_add, n_sub, pk_mul, zd_n, le_lt, h1, h2]
    · by_cases h3 : a < -ne
      · by_cases h4 : b < -ne
        · simp only [F_X11_goYear_J149, F_X11_goYear_J163, zv, e_gi, e_gr, e_gl, e_si, e_sb, e_ai, e_ar, e_ti, e_ty, e_tz, e_cv, zc_some, zmo_some, zin_T, ↓reduceIte, zit_succ, zzr0, zzr1, true_and, and_true, and_self, or_false, false_or, or_true, true_or, not_true_eq_false, not_false_eq_true, zl0, zl1, zl2, zl3, zl4, zl5, zl6, zl7, zl8, zl9, zl10, zl11, zl12, zl20, zl24, zl31, zl36, zl40, zl42, zl44, zl48, zl49, zl50, zl55, zl57, zl60, zl97, zl99, zl100, zl102, zl104, zl109, zl113, zl114, zl119, zl126, zl255, zl400, zl1000, zl101, zl103, zl1001, zl1002, zl16, zl18, zl32, zl35, zl443, n_leT, n_leF, n_ltT, n_ltF, n_eqT, n_eqF, n_swT, n_swF, nI_add, n_sub, pk_mul, zd_n, le_lt, h1, h2, h3, h4, and_false, false_and]
        · simp only [F_X11_goYear_J149, F_X11_goYear_J167, zv, e_gi, e_gr, e_gl, e_si, e_sb, e_ai, e_ar, e_ti, e_ty, e_tz, e_cv, zc_some, zmo_some, zin_T, ↓reduceIte, zit_succ, zzr0, zzr1, true_and, and_true, and_self, or_false, false_or, or_true, true_or, not_true_eq_false, not_false_eq_true, zl0, zl1, zl2, zl3, zl4, zl5, zl6, zl7, zl8, zl9, zl10, zl11, zl12, zl20, zl24, zl31, zl36, zl40, zl42, zl44, zl48, zl49, zl50, zl55, zl57, zl60, zl97, zl99, zl100, zl102, zl104, zl109, zl113, zl114, zl119, zl126, zl255, zl400, zl1000, zl101, zl103, zl1001, zl1002, zl16, zl18, zl32, zl35, zl443, n_leT, n_leF, n_ltT, n_ltF, n_eqT, n_eqF, n_swT, n_swF, nI_add, n_sub, pk_mul, zd_n, le_lt, h1, h2, h3, h4, and_false, false_and, Bool.false_eq_true]
      · simp only [F_X11_goYear_J149, F_X11_goYear_J167, zv, e_gi, e_gr, e_gl, e_si, e_sb, e_ai, e_ar, e_ti, e_ty, e_tz, e_cv, zc_some, zmo_some, zin_T, ↓reduceIte, zit_succ, zzr0, zzr1, true_and, and_true, and_self, or_false, false_or, or_true, true_or, not_true_eq_false, not_false_eq_true, zl0, zl1, zl2, zl3, zl4, zl5, zl6, zl7, zl8, zl9, zl10, zl11, zl12, zl20, zl24, zl31, zl36, zl40, zl42, zl44, zl48, zl49, zl50, zl55, zl57, zl60, zl97, zl99, zl100, zl102, zl104, zl109, zl113, zl114, zl119, zl126, zl255, zl400, zl1000, zl101, zl103, zl1001, zl1002, zl16, zl18, zl32, zl35, zl443, n_leT, n_leF, n_ltT, n_ltF, n_eqT, n_eqF, n_swT, n_swF, nI_add, n_sub, pk_mul, zd_n, le_lt, h1, h2, h3, and_false, false_and, Bool.false_eq_true]
  · by_cases h3 : a < -ne
    · by_cases h4 : b < -ne
      · simp only [F_X11_goYear_J149, F_X11_goYear_J163, zv, e_gi, e_gr, e_gl, e_si, e_sb, e_ai, e_ar, e_ti, e_ty, e_tz, e_cv, zc_some, zmo_some, zin_T, ↓reduceIte, zit_succ, zzr0, zzr1, true_and, and_true, and_self, or_false, false_or, or_true, true_or, not_true_eq_false, not_false_eq_true, zl0, zl1, zl2, zl3, zl4, zl5, zl6, zl7, zl8, zl9, zl10, zl11, zl12, zl20, zl24, zl31, zl36, zl40, zl42, zl44, zl48, zl49, zl50, zl55, zl57, zl60, zl97, zl99, zl100, zl102, zl104, zl109, zl113, zl114, zl119, zl126, zl255, zl400, zl1000, zl101, zl103, zl1001, zl1002, zl16, zl18, zl32, zl35, zl443, n_leT, n_leF, n_ltT, n_ltF, n_eqT, n_eqF, n_swT, n_swF, nI_add, n_sub, pk_mul, zd_n, le_lt, h1, h3, h4, and_false, false_and]
      · simp only [F_X11_goYear_J149, F_X11_goYear_J167, zv, e_gi, e_gr, e_gl, e_si, e_sb, e_ai, e_ar, e_ti, e_ty, e_tz, e_cv, zc_some, zmo_some, zin_T, ↓reduceIte, zit_succ, zzr0, zzr1, true_and, and_true, and_self, or_false, false_or, or_true, true_or, not_true_eq_false, not_false_eq_true, zl0, zl1, zl2, zl3, zl4, zl5, zl6, zl7, zl8, zl9, zl10, zl11, zl12, zl20, zl24, zl31, zl36, zl40, zl42, zl44, zl48, zl49, zl50, zl55, zl57, zl60, zl97, zl99, zl100, zl102, zl104, zl109, zl113, zl114, zl119, zl126, zl255, zl400, zl1000, zl101, zl103, zl1001, zl1002, zl16, zl18, zl32, zl35, zl443, n_leT, n_leF, n_ltT, n_ltF, n_eqT, n_eqF, n_swT, n_swF, nI_add, n_sub, pk_mul, zd_n, le_lt, h1, h3, h4, and_false, false_and, Bool.false_eq_true]
    · simp only [F_X11_goYear_J149, F_X11_goYear_J167, zv, e_gi, e_gr, e_gl, e_si, e_sb, e_ai, e_ar, e_ti, e_ty, e_tz, e_cv, zc_some, zmo_some, zin_T, ↓reduceIte, zit_succ, zzr0, zzr1, true_and, and_true, and_self, or_false, false_or, or_true, true_or, not_true_eq_false, not_false_eq_true, zl0, zl1, zl2, zl3, zl4, zl5, zl6, zl7, zl8, zl9, zl10, zl11, zl12, zl20, zl24, zl31, zl36, zl40, zl42, zl44, zl48, zl49, zl50, zl55, zl57, zl60, zl97, zl99, zl100, zl102, zl104, zl109, zl113, zl114, zl119, zl126, zl255, zl400, zl1000, zl101, zl103, zl1001, zl1002, zl16, zl18, zl32, zl35, zl443, n_leT, n_leF, n_ltT, n_ltF, n_eqT, n_eqF, n_swT, n_swF, nI_add, n_sub, pk_mul, zd_n, le_lt, h1, h3, and_false, false_and, Bool.false_eq_true]
theorem eM_cutL (n : Nat) {S : zH} {F0 : Nat → Nat → Int32} {pt c0 : Nat} {V0 e : Nat → Int32} {ne hd fy y : Int32} (hn : 513 < n) (hM : zMo S) (hp : F0 85 23 = nI pt) (h2 : 2 ≤ pt) (h10 : pt ≤ 10) (hy : ¬ y = -nI 1) (hV : ∀ p, p < pt → F0 115 p = V0 p) (he : ∀ p, p < pt → F0 104 p = e p) (h47 : F0 85 47 = hd) (h48 : F0 85 48 = nI c0) (h49 : F0 85 49 = fy) :
    ∃ F, F_X11_goYear_L88 n (zwi S F0) 85 y ne (nI 1) = some ((), zwi S F) ∧ (∀ p, p < pt → F 115 p = (zit (yS hd ne e) (V0, 0) (pt - 2)).1 p) ∧ F 85 48 = nI (c0 + (zit (yS hd ne e) (V0, 0) (pt - 2)).2) ∧ F 85 49 = qFy fy y (zit (yS hd ne e) (V0, 0) (pt - 2)).2 ∧ ∀ a j, a ≠ 115 → ¬ (a = 85 ∧ (j = 48 ∨ j = 49)) → F a j = F0 a j := by
  have s67 := mo_s85 hM
  have r45 := mo_r45 hM
  have s97 := mo_s115 hM
  unfold F_X11_goYear_L88
  have key9 := zforE (body := fun kc x => F_X11_goYear_B88 n kc x.1 85 y ne x.2) (fun i x => ∃ F, x = (zwi S F, nI (i + 1)) ∧ (∀ p, p < pt → F 115 p = (zit (yS hd ne e) (V0, 0) i).1 p) ∧ F 85 48 = nI (c0 + (zit (yS hd ne e) (V0, 0) i).2) ∧ F 85 49 = qFy fy y (zit (yS hd ne e) (V0, 0) i).2 ∧ ∀ a j, a ≠ 115 → ¬ (a = 85 ∧ (j = 48 ∨ j = 49)) → F a j = F0 a j) (pt - 2) (Q := fun x => ∃ F, x = some ((), zwi S F) ∧ (∀ p, p < pt → F 115 p = (zit (yS hd ne e) (V0, 0) (pt - 2)).1 p) ∧ F 85 48 = nI (c0 + (zit (yS hd ne e) (V0, 0) (pt - 2)).2) ∧ F 85 49 = qFy fy y (zit (yS hd ne e) (V0, 0) (pt - 2)).2 ∧ ∀ a j, a ≠ 115 → ¬ (a = 85 ∧ (j = 48 ∨ j = 49)) → F a j = F0 a j) (fun i x hi hx => ?_) (fun x hx => ?_) (n := n) (by omega) (x := (zwi S F0, nI 1)) ⟨F0, rfl, hV, h48, by rw [zit_0, qFy_0]; exact h49, fun _ _ _ _ => rfl⟩
  · obtain ⟨x, ⟨F, e1, e3⟩, e2⟩ := key9
    exact ⟨F, by rw [e2, e1], e3⟩
  · obtain ⟨F, rfl, g1, g3, g4, g2⟩ := hx
    have q4 := (g2 85 23 (by omega) (by omega)).trans hp
    have qe := (g2 104 (i + 1) (by omega) (by omega)).trans (he (i + 1) (by omega))
    have qh := (g2 85 47 (by omega) (by omega)).trans h47
    have ef := eM_free n (S := S) (F := F) (p := i + 1) hM (by omega)
    have eo := fun kc => eM_over n (F := F) (i := i) (ne := ne) (y := y) (kc := kc) hM q4 (by omega) h10 (fun p hpp => g1 p (by omega))
    rw [qe, qh] at ef
    rw [zit_s']
    generalize zit (yS hd ne e) (V0, 0) i = s at g1 g3 g4 eo
    obtain ⟨V, c⟩ := s
    dsimp only at g1 g3 g4 eo ⊢
    unfold yS
    dsimp only
    by_cases a1 : e (i + 1) = nI 0 ∧ ¬ nI (i + 1) = hd
    · rw [if_pos a1] at ef
      by_cases a3 : yOv V (i + 1) ne = true
      · rw [if_pos ⟨a1.1, a1.2, a3⟩]
        have w0 := g1 i (by omega)
        have w2 := g1 (i + 2) (by omega)
        refine ⟨_, ⟨z2 (z2 (z2 F 115 (i + 1) ((V i + V (i + 2)) / nI 2)) 85 48 (nI (c0 + c + 1))) 85 49 (qFy fy y (c + 1)), rfl, fun p hpp => ?_, ?_, z2_eq _ _ _ _, fun a j q1 q2 => ?_⟩, fun kc => ?_⟩
        · rw [z2n (by omega), z2n (by omega)]
          dsimp only
          by_cases e5 : p = i + 1
          · subst e5
            rw [z2_eq, z1_eq]
          · rw [z2n (by omega), z1n e5]
            exact g1 p hpp
        · rw [z2n (by omega)]
          exact z2_eq _ _ _ _
        · rw [z2n (by omega), z2n (by omega), z2n (by omega)]
          exact g2 a j q1 q2
        · have e22 : i + 1 + 1 = i + 2 := rfl
          rw [eo kc, if_pos a3]
          unfold F_X11_goYear_J168
          rw [e_cv, if_pos s67, ef, zc_some, if_neg (show ¬ nI 1 = (0 : Int32) by decide), if_neg (show ¬ nI 1 = (0 : Int32) by decide)]
          have hs := qFy_s (fy := fy) (c := c) hy
          generalize qFy fy y (c + 1) = Z at hs
          generalize qFy fy y c = X at hs g4
          by_cases a5 : X = -nI 1
          · rw [if_pos a5] at hs
            subst hs
            simp (disch := omega) only [F_X11_goYear_J239, F_X11_goYear_J242, zv, e_gi, e_gr, e_gl, e_si, e_sb, e_ai, e_ar, e_ti, e_ty, e_tz, e_cv, zc_some, zmo_some, zin_T, ↓reduceIte, zit_succ, zzr0, zzr1, true_and, and_true, and_self, or_false, false_or, or_true, true_or, not_true_eq_false, not_false_eq_true, zl0, zl1, zl2, zl3, zl4, zl5, zl6, zl7, zl8, zl9, zl10, zl11, zl12, zl20, zl24, zl31, zl36, zl40, zl42, zl44, zl48, zl49, zl50, zl55, zl57, zl60, zl97, zl99, zl100, zl102, zl104, zl109, zl113, zl114, zl119, zl126, zl255, zl400, zl1000, zl101, zl103, zl1001, zl1002, zl16, zl18, zl32, zl35, zl443, n_leT, n_leF, n_ltT, n_ltF, n_eqT, n_eqF, n_swT, n_swF, nI_add, n_sub, pk_mul, zd_n, z2_eq, z2n, s67, r45, s97, Nat.add_sub_cancel, e22, w0, w2, g3, g4, a5]
          · rw [if_neg a5] at hs
            subst hs
            simp (disch := omega) only [F_X11_goYear_J239, F_X11_goYear_J242, zv, e_gi, e_gr, e_gl, e_si, e_sb, e_ai, e_ar, e_ti, e_ty, e_tz, e_cv, zc_some, zmo_some, zin_T, ↓reduceIte, zit_succ, zzr0, zzr1, true_and, and_true, and_self, or_false, false_or, or_true, true_or, not_true_eq_false, not_false_eq_true, zl0, zl1, zl2, zl3, zl4, zl5, zl6, zl7, zl8, zl9, zl10, zl11, zl12, zl20, zl24, zl31, zl36, zl40, zl42, zl44, zl48, zl49, zl50, zl55, zl57, zl60, zl97, zl99, zl100, zl102, zl104, zl109, zl113, zl114, zl119, zl126, zl255, zl400, zl1000, zl101, zl103, zl1001, zl1002, zl16, zl18, zl32, zl35, zl443, n_leT, n_leF, n_ltT, n_ltF, n_eqT, n_eqF, n_swT, n_swF, nI_add, n_sub, pk_mul, zd_n, z2_eq, z2n, s67, r45, s97, Nat.add_sub_cancel, e22, w0, w2, g3, g4, a5]
      · rw [if_neg (fun z => a3 z.2.2)]
        refine ⟨_, ⟨F, rfl, g1, g3, g4, g2⟩, fun kc => ?_⟩
        rw [eo kc, if_neg a3]
        unfold F_X11_goYear_J168
        rw [e_cv, if_pos s67, ef, zc_some, if_neg (show ¬ nI 1 = (0 : Int32) by decide), if_pos (show nI 0 = (0 : Int32) from rfl)]
        simp (disch := omega) only [F_X11_goYear_J242, zv, e_gi, e_gr, e_gl, e_si, e_sb, e_ai, e_ar, e_ti, e_ty, e_tz, e_cv, zc_some, zmo_some, zin_T, ↓reduceIte, zit_succ, zzr0, zzr1, true_and, and_true, and_self, or_false, false_or, or_true, true_or, not_true_eq_false, not_false_eq_true, zl0, zl1, zl2, zl3, zl4, zl5, zl6, zl7, zl8, zl9, zl10, zl11, zl12, zl20, zl24, zl31, zl36, zl40, zl42, zl44, zl48, zl49, zl50, zl55, zl57, zl60, zl97, zl99, zl100, zl102, zl104, zl109, zl113, zl114, zl119, zl126, zl255, zl400, zl1000, zl101, zl103, zl1001, zl1002, zl16, zl18, zl32, zl35, zl443, n_leT, n_leF, n_ltT, n_ltF, n_eqT, n_eqF, n_swT, n_swF, nI_add, n_sub, pk_mul, zd_n]
    · rw [if_neg a1] at ef
      rw [if_neg (fun z => a1 ⟨z.1, z.2.1⟩)]
      refine ⟨_, ⟨F, rfl, g1, g3, g4, g2⟩, fun kc => ?_⟩
      rw [eo kc]
      unfold F_X11_goYear_J168
      rw [e_cv, if_pos s67, ef, zc_some, if_pos (show nI 0 = (0 : Int32) from rfl)]
      simp (disch := omega) only [F_X11_goYear_J242, zv, e_gi, e_gr, e_gl, e_si, e_sb, e_ai, e_ar, e_ti, e_ty, e_tz, e_cv, zc_some, zmo_some, zin_T, ↓reduceIte, zit_succ, zzr0, zzr1, true_and, and_true, and_self, or_false, false_or, or_true, true_or, not_true_eq_false, not_false_eq_true, zl0, zl1, zl2, zl3, zl4, zl5, zl6, zl7, zl8, zl9, zl10, zl11, zl12, zl20, zl24, zl31, zl36, zl40, zl42, zl44, zl48, zl49, zl50, zl55, zl57, zl60, zl97, zl99, zl100, zl102, zl104, zl109, zl113, zl114, zl119, zl126, zl255, zl400, zl1000, zl101, zl103, zl1001, zl1002, zl16, zl18, zl32, zl35, zl443, n_leT, n_leF, n_ltT, n_ltF, n_eqT, n_eqF, n_swT, n_swF, nI_add, n_sub, pk_mul, zd_n]
  · obtain ⟨F, rfl, g1, g3, g4, g2⟩ := hx
    have q4 := (g2 85 23 (by omega) (by omega)).trans hp
    refine ⟨_, ⟨F, rfl, g1, g3, g4, g2⟩, fun kc => ?_⟩
    have e5 : pt - 2 + 1 = pt - 1 := by omega
    rw [e5]
    simp (disch := omega) only [F_X11_goYear_B88, zv, e_gi, e_gr, e_gl, e_si, e_sb, e_ai, e_ar, e_ti, e_ty, e_tz, e_cv, zc_some, zmo_some, zin_T, ↓reduceIte, zit_succ, zzr0, zzr1, true_and, and_true, and_self, or_false, false_or, or_true, true_or, not_true_eq_false, not_false_eq_true, zl0, zl1, zl2, zl3, zl4, zl5, zl6, zl7, zl8, zl9, zl10, zl11, zl12, zl20, zl24, zl31, zl36, zl40, zl42, zl44, zl48, zl49, zl50, zl55, zl57, zl60, zl97, zl99, zl100, zl102, zl104, zl109, zl113, zl114, zl119, zl126, zl255, zl400, zl1000, zl101, zl103, zl1001, zl1002, zl16, zl18, zl32, zl35, zl443, n_leT, n_leF, n_ltT, n_ltF, n_eqT, n_eqF, n_swT, n_swF, nI_add, n_sub, pk_mul, zd_n, s67, q4]
theorem eM_year (n : Nat) {S : zH} {F0 : Nat → Nat → Int32} {pt c0 : Nat} {W e : Nat → Int32} {ea ne hd fy y : Int32} (hn : 513 < n) (hM : zMo S) (hp : F0 85 23 = nI pt) (h2 : 2 ≤ pt) (h10 : pt ≤ 10) (hy : ¬ y = -nI 1) (hW : ∀ p, p < pt → F0 115 p = W p) (he : ∀ p, p < pt → F0 104 p = e p) (h47 : F0 85 47 = hd) (h48 : F0 85 48 = nI c0) (h49 : F0 85 49 = fy) :
    ∃ F, F_X11_goYear n (zwi S F0) 85 y ea ne = some ((), zwi S F) ∧ (∀ p, p < pt → F 115 p = (qYear pt ea ne hd e W).1 p) ∧ F 85 48 = nI (c0 + (qYear pt ea ne hd e W).2) ∧ F 85 49 = qFy fy y (qYear pt ea ne hd e W).2 ∧ ∀ a j, a ≠ 115 → a ≠ 116 → ¬ (a = 85 ∧ (j = 48 ∨ j = 49)) → F a j = F0 a j := by
  have s67 := mo_s85 hM
  have r45 := mo_r45 hM
  have s97 := mo_s115 hM
  have r46 := mo_r46 hM
  have s98 := mo_s116 hM
  obtain ⟨F1, b1, b2, b3⟩ := eM_bends n hn hM hp h2 h10 hW
  have mid : ∃ F, F_X11_goYear_L7 n (zwi S F1) 85 y ea ne (nI 1) = some ((), zwi S F) ∧ (∀ p, p < pt → F 115 p = (qYear pt ea ne hd e W).1 p) ∧ F 85 48 = nI (c0 + (qYear pt ea ne hd e W).2) ∧ F 85 49 = qFy fy y (qYear pt ea ne hd e W).2 ∧ ∀ a j, a ≠ 115 → a ≠ 116 → ¬ (a = 85 ∧ (j = 48 ∨ j = 49)) → F a j = F0 a j := by
    unfold F_X11_goYear_L7
    have key9 := zforE (body := fun kc x => F_X11_goYear_B7 n kc x.1 85 y ea ne x.2) (fun i x => ∃ F, x = (zwi S F, nI (i + 1)) ∧ (∀ p, p < pt → F 115 p = yA pt ea hd e W (i + 1) p) ∧ ∀ a j, a ≠ 115 → F a j = F1 a j) (pt - 2) (Q := fun x => ∃ F, x = some ((), zwi S F) ∧ (∀ p, p < pt → F 115 p = (qYear pt ea ne hd e W).1 p) ∧ F 85 48 = nI (c0 + (qYear pt ea ne hd e W).2) ∧ F 85 49 = qFy fy y (qYear pt ea ne hd e W).2 ∧ ∀ a j, a ≠ 115 → a ≠ 116 → ¬ (a = 85 ∧ (j = 48 ∨ j = 49)) → F a j = F0 a j) (fun i x hi hx => ?_) (fun x hx => ?_) (n := n) (by omega) (x := (zwi S F1, nI 1)) ⟨F1, rfl, fun p hpp => by rw [yA_1, b3 115 p (by omega)]; exact hW p hpp, fun _ _ _ => rfl⟩
    · obtain ⟨x, ⟨F, e1, e3⟩, e2⟩ := key9
      exact ⟨F, by rw [e2, e1], e3⟩
    · obtain ⟨F, rfl, g1, g2⟩ := hx
      have q4 := (g2 85 23 (by omega)).trans ((b3 85 23 (by omega)).trans hp)
      have qe := (g2 104 (i + 1) (by omega)).trans ((b3 104 (i + 1) (by omega)).trans (he (i + 1) (by omega)))
      have qh := (g2 85 47 (by omega)).trans ((b3 85 47 (by omega)).trans h47)
      have ef := eM_free n (S := S) (F := F) (p := i + 1) hM (by omega)
      rw [qe, qh] at ef
      have qb := (g2 116 (i + 1) (by omega)).trans (b2 (i + 1) (by omega) (by omega))
      have w1 : F 115 (i + 1) = W (i + 1) := by
        rw [g1 (i + 1) (by omega)]
        unfold yA
        exact if_neg (fun z => by omega)
      have hlt : ¬ nI pt - (1 : Int32) ≤ nI (i + 1) := by
        rw [zl1, n_sub (by omega)]
        exact nI_ge (by omega) (by omega)
      by_cases a1 : e (i + 1) = nI 0 ∧ ¬ nI (i + 1) = hd
      · rw [if_pos a1] at ef
        refine ⟨_, ⟨z2 F 115 (i + 1) (qClp (W (i + 1) + qBend W (i + 1) * ea / nI 20)), rfl, fun p hpp => ?_, fun a j q1 => by rw [z2n (by omega)]; exact g2 a j q1⟩, fun kc => ?_⟩
        · by_cases e5 : p = i + 1
          · rw [e5, z2_eq, yA_eq a1 (by omega)]
          · rw [z2n (by omega), g1 p hpp, yA_ne e5]
        · unfold F_X11_goYear_B7
          rw [e_gi, if_pos s67, q4]
          dsimp only [zv]
          rw [if_neg hlt, e_cv, if_pos s67, ef, zc_some, if_neg (show ¬ nI 1 = (0 : Int32) by decide)]
          unfold qClp
          generalize hX : W (i + 1) + qBend W (i + 1) * ea / nI 20 = X
          by_cases x1 : nI 0 ≤ X
          · by_cases x2 : X ≤ nI 99
            · simp (disch := omega) only [F_X11_goYear_J78, F_X11_goYear_J79, zv, e_gi, e_gr, e_gl, e_si, e_sb, e_ai, e_ar, e_ti, e_ty, e_tz, e_cv, zc_some, zmo_some, zin_T, ↓reduceIte, zit_succ, zzr0, zzr1, true_and, and_true, and_self, or_false, false_or, or_true, true_or, not_true_eq_false, not_false_eq_true, zl0, zl1, zl2, zl3, zl4, zl5, zl6, zl7, zl8, zl9, zl10, zl11, zl12, zl20, zl24, zl31, zl36, zl40, zl42, zl44, zl48, zl49, zl50, zl55, zl57, zl60, zl97, zl99, zl100, zl102, zl104, zl109, zl113, zl114, zl119, zl126, zl255, zl400, zl1000, zl101, zl103, zl1001, zl1002, zl16, zl18, zl32, zl35, zl443, n_leT, n_leF, n_ltT, n_ltF, n_eqT, n_eqF, n_swT, n_swF, nI_add, n_sub, pk_mul, zd_n, s67, r45, s97, r46, s98, w1, qb, hX, x1, x2]
            · simp (disch := omega) only [F_X11_goYear_J78, F_X11_goYear_J79, zv, e_gi, e_gr, e_gl, e_si, e_sb, e_ai, e_ar, e_ti, e_ty, e_tz, e_cv, zc_some, zmo_some, zin_T, ↓reduceIte, zit_succ, zzr0, zzr1, true_and, and_true, and_self, or_false, false_or, or_true, true_or, not_true_eq_false, not_false_eq_true, zl0, zl1, zl2, zl3, zl4, zl5, zl6, zl7, zl8, zl9, zl10, zl11, zl12, zl20, zl24, zl31, zl36, zl40, zl42, zl44, zl48, zl49, zl50, zl55, zl57, zl60, zl97, zl99, zl100, zl102, zl104, zl109, zl113, zl114, zl119, zl126, zl255, zl400, zl1000, zl101, zl103, zl1001, zl1002, zl16, zl18, zl32, zl35, zl443, n_leT, n_leF, n_ltT, n_ltF, n_eqT, n_eqF, n_swT, n_swF, nI_add, n_sub, pk_mul, zd_n, s67, r45, s97, r46, s98, w1, qb, hX, x1, x2]
          · simp (disch := omega) only [F_X11_goYear_J78, F_X11_goYear_J79, zv, e_gi, e_gr, e_gl, e_si, e_sb, e_ai, e_ar, e_ti, e_ty, e_tz, e_cv, zc_some, zmo_some, zin_T, ↓reduceIte, zit_succ, zzr0, zzr1, true_and, and_true, and_self, or_false, false_or, or_true, true_or, not_true_eq_false, not_false_eq_true, zl0, zl1, zl2, zl3, zl4, zl5, zl6, zl7, zl8, zl9, zl10, zl11, zl12, zl20, zl24, zl31, zl36, zl40, zl42, zl44, zl48, zl49, zl50, zl55, zl57, zl60, zl97, zl99, zl100, zl102, zl104, zl109, zl113, zl114, zl119, zl126, zl255, zl400, zl1000, zl101, zl103, zl1001, zl1002, zl16, zl18, zl32, zl35, zl443, n_leT, n_leF, n_ltT, n_ltF, n_eqT, n_eqF, n_swT, n_swF, nI_add, n_sub, pk_mul, zd_n, s67, r45, s97, r46, s98, w1, qb, hX, x1]
      · rw [if_neg a1] at ef
        refine ⟨_, ⟨F, rfl, fun p hpp => (g1 p hpp).trans (yA_same a1).symm, g2⟩, fun kc => ?_⟩
        unfold F_X11_goYear_B7
        rw [e_gi, if_pos s67, q4]
        dsimp only [zv]
        rw [if_neg hlt, e_cv, if_pos s67, ef, zc_some, if_pos (show nI 0 = (0 : Int32) from rfl)]
        simp (disch := omega) only [F_X11_goYear_J79, zv, e_gi, e_gr, e_gl, e_si, e_sb, e_ai, e_ar, e_ti, e_ty, e_tz, e_cv, zc_some, zmo_some, zin_T, ↓reduceIte, zit_succ, zzr0, zzr1, true_and, and_true, and_self, or_false, false_or, or_true, true_or, not_true_eq_false, not_false_eq_true, zl0, zl1, zl2, zl3, zl4, zl5, zl6, zl7, zl8, zl9, zl10, zl11, zl12, zl20, zl24, zl31, zl36, zl40, zl42, zl44, zl48, zl49, zl50, zl55, zl57, zl60, zl97, zl99, zl100, zl102, zl104, zl109, zl113, zl114, zl119, zl126, zl255, zl400, zl1000, zl101, zl103, zl1001, zl1002, zl16, zl18, zl32, zl35, zl443, n_leT, n_leF, n_ltT, n_ltF, n_eqT, n_eqF, n_swT, n_swF, nI_add, n_sub, pk_mul, zd_n]
    · obtain ⟨F, rfl, g1, g2⟩ := hx
      have q4 := (g2 85 23 (by omega)).trans ((b3 85 23 (by omega)).trans hp)
      have e5 : pt - 2 + 1 = pt - 1 := by omega
      rw [e5] at g1 ⊢
      obtain ⟨Z, z1', z2', z3, z4, z5⟩ := eM_cutL n (F0 := F) (c0 := c0) (ne := ne) (hd := hd) (fy := fy) (y := y) (e := e) hn hM q4 h2 h10 hy g1 (fun p hpp => (g2 104 p (by omega)).trans ((b3 104 p (by omega)).trans (he p hpp))) ((g2 85 47 (by omega)).trans ((b3 85 47 (by omega)).trans h47)) ((g2 85 48 (by omega)).trans ((b3 85 48 (by omega)).trans h48)) ((g2 85 49 (by omega)).trans ((b3 85 49 (by omega)).trans h49))
      rw [← qYear_d] at z2' z3 z4
      refine ⟨_, ⟨Z, rfl, z2', z3, z4, fun a j q1 q2 q3 => (z5 a j q1 q3).trans ((g2 a j q1).trans (b3 a j q2))⟩, fun kc => ?_⟩
      have hle : nI pt - (1 : Int32) ≤ nI (pt - 1) := by
        rw [zl1, n_sub (by omega)]
        exact nI_le (by omega) (by omega)
      unfold F_X11_goYear_B7
      rw [e_gi, if_pos s67, q4]
      dsimp only [zv]
      rw [if_pos hle]
      exact z1'
  obtain ⟨F, f1, f2⟩ := mid
  refine ⟨F, ?_, f2⟩
  unfold F_X11_goYear
  rw [e_cv, if_pos s67, b1, zc_some]
  exact f1
