/-! ===== the class's water: one tick ===== -/
def qPush (k m : Int32) : Int32 := if k = nI 1 then m else if k = nI 2 then -m else nI 0
def qBase (k m : Int32) : Int32 := if k = nI 3 then m else nI 0
def qWall10 (t : Nat → Int32) : Int32 := if (if t 5 = nI 1 then nI 2 * t 3 else t 3) ≤ nI 10 then (if t 5 = nI 1 then nI 2 * t 3 else t 3) else nI 10
def qStir (R H : Nat) (k m : Int32) (w : Nat → Nat → Int32) : Nat → Nat → Int32 := if k = nI 4 then qStraw H (qMove R H (qPush k m) w) else qMove R H (qPush k m) w
def qSlow (R H : Nat) (t : Nat → Int32) (k m : Int32) (w : Nat → Nat → Int32) : Nat → Nat → Int32 := qWall R H (qBase k m) (qWall10 t) (qFloor R (qBase k m) (t 2) w)
def qTick (R H : Nat) (t : Nat → Int32) (k m : Int32) (w : Nat → Nat → Int32) : Nat → Nat → Int32 := qBlend R H (t 4) (qSlow R H t k m (qStir R H k m w))
def qFix (R H : Nat) (w : Nat → Nat → Int32) : Prop := ∀ r k, r < R → k < H → qcl (w r k) = w r k
theorem i_eq {x y : Int32} (h : x.toInt = y.toInt) : x = y := Int32.toInt_inj.mp h
theorem i_nle {x y : Int32} (h : ¬ x ≤ y) : y.toInt < x.toInt := by rw [Int32.le_iff_toInt_le] at h; omega
theorem i_le {x y : Int32} (h : x ≤ y) : x.toInt ≤ y.toInt := Int32.le_iff_toInt_le.mp h
theorem i_lt {x y : Int32} (h : x < y) : x.toInt < y.toInt := Int32.lt_iff_toInt_lt.mp h
theorem i_nlt {x y : Int32} (h : ¬ x < y) : y.toInt ≤ x.toInt := by rw [Int32.lt_iff_toInt_lt] at h; omega
theorem n_leS (a b : Int32) : (a ≤ b) = (a.toInt ≤ b.toInt) := propext Int32.le_iff_toInt_le
theorem n_ltS (a b : Int32) : (a < b) = (a.toInt < b.toInt) := propext Int32.lt_iff_toInt_lt
theorem n_neg99 : (-nI 99).toInt = -99 := by decide
theorem n_99 : (nI 99).toInt = 99 := by decide
theorem qcl_eq (v : Int32) : (if -nI 99 < (if v < nI 99 then v else nI 99) then (if v < nI 99 then v else nI 99) else -nI 99) = qcl v := by
  unfold qcl
  have h1 := n_neg99
  have h2 := n_99
  by_cases ha : v < nI 99
  · rw [if_pos ha]
    have ha' := i_lt ha
    have hb : v ≤ nI 99 := Int32.le_iff_toInt_le.mpr (by omega)
    rw [if_pos hb]
    by_cases hc : -nI 99 < v
    · have hc' := i_lt hc
      rw [if_pos hc, if_pos (Int32.le_iff_toInt_le.mpr (by omega))]
    · have hc' := i_nlt hc
      rw [if_neg hc]
      by_cases hd : -nI 99 ≤ v
      · have hd' := i_le hd
        rw [if_pos hd]
        exact i_eq (by omega)
      · rw [if_neg hd]
  · rw [if_neg ha]
    have ha' := i_nlt ha
    rw [if_pos (Int32.lt_iff_toInt_lt.mpr (by omega) : -nI 99 < nI 99)]
    by_cases hb : v ≤ nI 99
    · have hb' := i_le hb
      have hv : v = nI 99 := i_eq (by omega)
      subst hv
      rw [if_pos hb, if_pos (Int32.le_iff_toInt_le.mpr (by omega))]
    · rw [if_neg hb]
theorem zit_id {α : Type} {g : Nat → α → α} {a : α} : ∀ {N : Nat}, (∀ i, i < N → g i a = a) → zit g a N = a
  | 0, _ => rfl
  | N + 1, h => by rw [zit_succ, zit_id (N := N) (fun i hi => h i (Nat.lt_succ_of_lt hi)), h N (Nat.lt_succ_self N)]
theorem z2_id {α : Type} {f : Nat → Nat → α} {a k : Nat} {v : α} (h : v = f a k) : z2 f a k v = f := by
  funext x y
  unfold z2
  by_cases hh : x = a ∧ y = k
  · rw [if_pos hh, h, hh.1, hh.2]
  · rw [if_neg hh]
theorem qMove_fix {R H : Nat} {w : Nat → Nat → Int32} (h : qFix R H w) : qMove R H (nI 0) w = w := by
  unfold qMove qMoveR
  refine zit_id (fun r hr => zit_id (fun i hi => z2_id ?_))
  rw [show w r (i + 1) + nI 0 = w r (i + 1) from Int32.add_zero _]
  exact h r (i + 1) hr (by omega)
theorem eX2_push (n : Nat) {S : zH} {f : Nat → Nat → Int32} {d : Nat} (hd : zsh S d = some (2, 2)) : F_X2_push n (zwi S f) d = some (qPush (f d 0) (f d 1), zwi S f) := by
  unfold F_X2_push qPush F_X2_push_J32
  by_cases h1 : f d 0 = nI 1
  · simp (disch := omega) only [zv, e_gi, e_gr, e_gl, e_si, e_sb, e_ai, e_ar, e_ti, e_ty, e_tz, e_cv, zc_some, zmo_some, zin_T, ↓reduceIte, zit_succ, zzr0, zzr1, true_and, and_true, and_self, or_false, false_or, or_true, true_or, not_true_eq_false, not_false_eq_true, zl0, zl1, zl2, zl3, zl4, zl5, zl6, zl7, zl8, zl9, zl10, zl11, zl12, zl20, zl24, zl31, zl36, zl40, zl42, zl44, zl48, zl49, zl50, zl55, zl57, zl60, zl97, zl99, zl100, zl102, zl104, zl109, zl113, zl114, zl119, zl126, zl255, zl400, zl1000, zl101, zl103, zl1001, zl1002, zl16, zl18, zl32, zl35, zl443, n_leT, n_leF, n_ltT, n_ltF, n_eqT, n_eqF, n_swT, n_swF, nI_add, n_sub, pk_mul, zd_n, hd, h1]
  · by_cases h2 : f d 0 = nI 2
    · simp (disch := omega) only [zv, e_gi, e_gr, e_gl, e_si, e_sb, e_ai, e_ar, e_ti, e_ty, e_tz, e_cv, zc_some, zmo_some, zin_T, ↓reduceIte, zit_succ, zzr0, zzr1, true_and, and_true, and_self, or_false, false_or, or_true, true_or, not_true_eq_false, not_false_eq_true, zl0, zl1, zl2, zl3, zl4, zl5, zl6, zl7, zl8, zl9, zl10, zl11, zl12, zl20, zl24, zl31, zl36, zl40, zl42, zl44, zl48, zl49, zl50, zl55, zl57, zl60, zl97, zl99, zl100, zl102, zl104, zl109, zl113, zl114, zl119, zl126, zl255, zl400, zl1000, zl101, zl103, zl1001, zl1002, zl16, zl18, zl32, zl35, zl443, n_leT, n_leF, n_ltT, n_ltF, n_eqT, n_eqF, n_swT, n_swF, nI_add, n_sub, pk_mul, zd_n, hd, h2]
    · simp (disch := omega) only [zv, e_gi, e_gr, e_gl, e_si, e_sb, e_ai, e_ar, e_ti, e_ty, e_tz, e_cv, zc_some, zmo_some, zin_T, ↓reduceIte, zit_succ, zzr0, zzr1, true_and, and_true, and_self, or_false, false_or, or_true, true_or, not_true_eq_false, not_false_eq_true, zl0, zl1, zl2, zl3, zl4, zl5, zl6, zl7, zl8, zl9, zl10, zl11, zl12, zl20, zl24, zl31, zl36, zl40, zl42, zl44, zl48, zl49, zl50, zl55, zl57, zl60, zl97, zl99, zl100, zl102, zl104, zl109, zl113, zl114, zl119, zl126, zl255, zl400, zl1000, zl101, zl103, zl1001, zl1002, zl16, zl18, zl32, zl35, zl443, n_leT, n_leF, n_ltT, n_ltF, n_eqT, n_eqF, n_swT, n_swF, nI_add, n_sub, pk_mul, zd_n, hd, h1, h2]
theorem eX2_base (n : Nat) {S : zH} {f : Nat → Nat → Int32} {d : Nat} (hd : zsh S d = some (2, 2)) : F_X2_base n (zwi S f) d = some (qBase (f d 0) (f d 1), zwi S f) := by
  unfold F_X2_base qBase F_X2_base_J16
  by_cases h1 : f d 0 = nI 3
  · simp (disch := omega) only [zv, e_gi, e_gr, e_gl, e_si, e_sb, e_ai, e_ar, e_ti, e_ty, e_tz, e_cv, zc_some, zmo_some, zin_T, ↓reduceIte, zit_succ, zzr0, zzr1, true_and, and_true, and_self, or_false, false_or, or_true, true_or, not_true_eq_false, not_false_eq_true, zl0, zl1, zl2, zl3, zl4, zl5, zl6, zl7, zl8, zl9, zl10, zl11, zl12, zl20, zl24, zl31, zl36, zl40, zl42, zl44, zl48, zl49, zl50, zl55, zl57, zl60, zl97, zl99, zl100, zl102, zl104, zl109, zl113, zl114, zl119, zl126, zl255, zl400, zl1000, zl101, zl103, zl1001, zl1002, zl16, zl18, zl32, zl35, zl443, n_leT, n_leF, n_ltT, n_ltF, n_eqT, n_eqF, n_swT, n_swF, nI_add, n_sub, pk_mul, zd_n, hd, h1]
  · simp (disch := omega) only [zv, e_gi, e_gr, e_gl, e_si, e_sb, e_ai, e_ar, e_ti, e_ty, e_tz, e_cv, zc_some, zmo_some, zin_T, ↓reduceIte, zit_succ, zzr0, zzr1, true_and, and_true, and_self, or_false, false_or, or_true, true_or, not_true_eq_false, not_false_eq_true, zl0, zl1, zl2, zl3, zl4, zl5, zl6, zl7, zl8, zl9, zl10, zl11, zl12, zl20, zl24, zl31, zl36, zl40, zl42, zl44, zl48, zl49, zl50, zl55, zl57, zl60, zl97, zl99, zl100, zl102, zl104, zl109, zl113, zl114, zl119, zl126, zl255, zl400, zl1000, zl101, zl103, zl1001, zl1002, zl16, zl18, zl32, zl35, zl443, n_leT, n_leF, n_ltT, n_ltF, n_eqT, n_eqF, n_swT, n_swF, nI_add, n_sub, pk_mul, zd_n, hd, h1]
theorem eX0_moveR (n : Nat) {S : zH} {f w : Nat → Nat → Int32} {y : Nat → Int32} {b c d H r : Nat} {p : Int32} {kc8 : zH × Int32 → Option (Unit × zH)} (hn : 513 < n) (hB : zBr S b) (hC : zCu S c) (hcb : c + 1 < b) (hH : f (c + 1) 1 = nI H) (hH4 : H ≤ 4) (hH1 : 1 ≤ H) (hr : r < 6) :
    F_X0_move_L24 n kc8 (zwi S (zbr f b w y)) b c d p (nI r) (nI 1) = kc8 (zwi S (zbr f b (qMoveR H p r w) y), nI (r + 1)) := by
  obtain ⟨b1, b2, b3, b4, b5, b6, b7⟩ := hB
  unfold F_X0_move_L24
  refine zfor (fun i => (zwi S (zbr f b (zit (fun i w => z2 w r (i + 1) (qcl (w r (i + 1) + p))) w i) y), nI (i + 1))) (H - 1) (fun kc i hi => ?_) (fun kc => ?_) (by omega)
  · simp (disch := omega) only [F_X0_move_B24, zv, e_gi, e_gr, e_gl, e_si, e_sb, e_ai, e_ar, e_ti, e_ty, e_tz, e_cv, zc_some, zmo_some, zin_T, ↓reduceIte, zit_succ, zzr0, zzr1, true_and, and_true, and_self, or_false, false_or, or_true, true_or, not_true_eq_false, not_false_eq_true, zl0, zl1, zl2, zl3, zl4, zl5, zl6, zl7, zl8, zl9, zl10, zl11, zl12, zl20, zl24, zl31, zl36, zl40, zl42, zl44, zl48, zl49, zl50, zl55, zl57, zl60, zl97, zl99, zl100, zl102, zl104, zl109, zl113, zl114, zl119, zl126, zl255, zl400, zl1000, zl101, zl103, zl1001, zl1002, zl16, zl18, zl32, zl35, zl443, n_leT, n_leF, n_ltT, n_ltF, n_eqT, n_eqF, n_swT, n_swF, nI_add, n_sub, pk_mul, zd_n, eX1_heights n hC, hC.1, hH, zbr_o, zbr_w, zbr_y, zbr_2w, zbr_2y, b1, b2, b3, b4, b5, b6, b7, qcl_eq]
  · rw [show H - 1 + 1 = H by omega]
    simp (disch := omega) only [F_X0_move_B24, zv, e_gi, e_gr, e_gl, e_si, e_sb, e_ai, e_ar, e_ti, e_ty, e_tz, e_cv, zc_some, zmo_some, zin_T, ↓reduceIte, zit_succ, zzr0, zzr1, true_and, and_true, and_self, or_false, false_or, or_true, true_or, not_true_eq_false, not_false_eq_true, zl0, zl1, zl2, zl3, zl4, zl5, zl6, zl7, zl8, zl9, zl10, zl11, zl12, zl20, zl24, zl31, zl36, zl40, zl42, zl44, zl48, zl49, zl50, zl55, zl57, zl60, zl97, zl99, zl100, zl102, zl104, zl109, zl113, zl114, zl119, zl126, zl255, zl400, zl1000, zl101, zl103, zl1001, zl1002, zl16, zl18, zl32, zl35, zl443, n_leT, n_leF, n_ltT, n_ltF, n_eqT, n_eqF, n_swT, n_swF, nI_add, n_sub, pk_mul, zd_n, eX1_heights n hC, hC.1, hH, zbr_o, zbr_w, zbr_y, zbr_2w, zbr_2y, b1, b2, b3, b4, b5, b6, b7]
    rfl
theorem eX0_move (n : Nat) {S : zH} {f w : Nat → Nat → Int32} {y : Nat → Int32} {b c d H R : Nat} (hn : 513 < n) (hB : zBr S b) (hC : zCu S c) (hcb : c + 1 < b) (hd : zsh S d = some (2, 2)) (hdb : d < b ∨ b + 8 < d) (hR : f (c + 1) 0 = nI R) (hR6 : R ≤ 6) (hH : f (c + 1) 1 = nI H) (hH4 : H ≤ 4) (hH1 : 1 ≤ H) (hw : qFix R H w) :
    F_X0_move n (zwi S (zbr f b w y)) b c d = some ((), zwi S (zbr f b (qStir R H (f d 0) (f d 1) w) y)) := by
  have hB' := hB
  obtain ⟨b1, b2, b3, b4, b5, b6, b7⟩ := hB
  unfold F_X0_move qStir
  simp (disch := omega) only [zv, e_gi, e_gr, e_gl, e_si, e_sb, e_ai, e_ar, e_ti, e_ty, e_tz, e_cv, zc_some, zmo_some, zin_T, ↓reduceIte, zit_succ, zzr0, zzr1, true_and, and_true, and_self, or_false, false_or, or_true, true_or, not_true_eq_false, not_false_eq_true, hd, eX2_push n hd, zbr_o, zbr_w, zbr_y, zbr_2w, zbr_2y, b1, b2, b3, b4, b5, b6, b7]
  unfold F_X0_move_L8
  by_cases hp : qPush (f d 0) (f d 1) = nI 0
  · rw [hp, qMove_fix hw]
    refine zend (by omega) (fun kc => ?_)
    have e := eX0_straw n (y := y) (w := w) hn hB' hC hcb hd hdb hH hH4
    rcases Nat.eq_zero_or_pos R with h0 | h0
    · subst h0
      simp (disch := omega) only [F_X0_move_B8, F_X0_move_J81, zv, e_gi, e_gr, e_gl, e_si, e_sb, e_ai, e_ar, e_ti, e_ty, e_tz, e_cv, zc_some, zmo_some, zin_T, ↓reduceIte, zit_succ, zzr0, zzr1, true_and, and_true, and_self, or_false, false_or, or_true, true_or, not_true_eq_false, not_false_eq_true, zl0, zl1, zl2, zl3, zl4, zl5, zl6, zl7, zl8, zl9, zl10, zl11, zl12, zl20, zl24, zl31, zl36, zl40, zl42, zl44, zl48, zl49, zl50, zl55, zl57, zl60, zl97, zl99, zl100, zl102, zl104, zl109, zl113, zl114, zl119, zl126, zl255, zl400, zl1000, zl101, zl103, zl1001, zl1002, zl16, zl18, zl32, zl35, zl443, n_leT, n_leF, n_ltT, n_ltF, n_eqT, n_eqF, n_swT, n_swF, nI_add, n_sub, pk_mul, zd_n, eX1_rings n hC, hC.1, hR, zbr_o, zbr_w, zbr_y, zbr_2w, zbr_2y, b1, b2, b3, b4, b5, b6, b7, e]
    · simp (disch := omega) only [F_X0_move_B8, F_X0_move_J81, zv, e_gi, e_gr, e_gl, e_si, e_sb, e_ai, e_ar, e_ti, e_ty, e_tz, e_cv, zc_some, zmo_some, zin_T, ↓reduceIte, zit_succ, zzr0, zzr1, true_and, and_true, and_self, or_false, false_or, or_true, true_or, not_true_eq_false, not_false_eq_true, zl0, zl1, zl2, zl3, zl4, zl5, zl6, zl7, zl8, zl9, zl10, zl11, zl12, zl20, zl24, zl31, zl36, zl40, zl42, zl44, zl48, zl49, zl50, zl55, zl57, zl60, zl97, zl99, zl100, zl102, zl104, zl109, zl113, zl114, zl119, zl126, zl255, zl400, zl1000, zl101, zl103, zl1001, zl1002, zl16, zl18, zl32, zl35, zl443, n_leT, n_leF, n_ltT, n_ltF, n_eqT, n_eqF, n_swT, n_swF, nI_add, n_sub, pk_mul, zd_n, eX1_rings n hC, hC.1, hR, zbr_o, zbr_w, zbr_y, zbr_2w, zbr_2y, b1, b2, b3, b4, b5, b6, b7, e]
  · refine zfor (fun r => (zwi S (zbr f b (zit (fun r w => qMoveR H (qPush (f d 0) (f d 1)) r w) w r) y), nI r)) R (fun kc r hr => ?_) (fun kc => ?_) (by omega)
    · have e : ∀ w', F_X0_move_L24 n kc (zwi S (zbr f b w' y)) b c d (qPush (f d 0) (f d 1)) (nI r) (nI 1) = kc (zwi S (zbr f b (qMoveR H (qPush (f d 0) (f d 1)) r w') y), nI (r + 1)) := fun w' => eX0_moveR n hn hB' hC hcb hH hH4 hH1 (by omega)
      simp (disch := omega) only [F_X0_move_B8, zv, e_gi, e_gr, e_gl, e_si, e_sb, e_ai, e_ar, e_ti, e_ty, e_tz, e_cv, zc_some, zmo_some, zin_T, ↓reduceIte, zit_succ, zzr0, zzr1, true_and, and_true, and_self, or_false, false_or, or_true, true_or, not_true_eq_false, not_false_eq_true, zl0, zl1, zl2, zl3, zl4, zl5, zl6, zl7, zl8, zl9, zl10, zl11, zl12, zl20, zl24, zl31, zl36, zl40, zl42, zl44, zl48, zl49, zl50, zl55, zl57, zl60, zl97, zl99, zl100, zl102, zl104, zl109, zl113, zl114, zl119, zl126, zl255, zl400, zl1000, zl101, zl103, zl1001, zl1002, zl16, zl18, zl32, zl35, zl443, n_leT, n_leF, n_ltT, n_ltF, n_eqT, n_eqF, n_swT, n_swF, nI_add, n_sub, pk_mul, zd_n, eX1_rings n hC, hC.1, hR, zbr_o, zbr_w, zbr_y, zbr_2w, zbr_2y, b1, b2, b3, b4, b5, b6, b7, hp, e]
    · have e := eX0_straw n (y := y) (w := qMove R H (qPush (f d 0) (f d 1)) w) hn hB' hC hcb hd hdb hH hH4
      unfold qMove at e ⊢
      simp (disch := omega) only [F_X0_move_B8, F_X0_move_J81, zv, e_gi, e_gr, e_gl, e_si, e_sb, e_ai, e_ar, e_ti, e_ty, e_tz, e_cv, zc_some, zmo_some, zin_T, ↓reduceIte, zit_succ, zzr0, zzr1, true_and, and_true, and_self, or_false, false_or, or_true, true_or, not_true_eq_false, not_false_eq_true, zl0, zl1, zl2, zl3, zl4, zl5, zl6, zl7, zl8, zl9, zl10, zl11, zl12, zl20, zl24, zl31, zl36, zl40, zl42, zl44, zl48, zl49, zl50, zl55, zl57, zl60, zl97, zl99, zl100, zl102, zl104, zl109, zl113, zl114, zl119, zl126, zl255, zl400, zl1000, zl101, zl103, zl1001, zl1002, zl16, zl18, zl32, zl35, zl443, n_leT, n_leF, n_ltT, n_ltF, n_eqT, n_eqF, n_swT, n_swF, nI_add, n_sub, pk_mul, zd_n, eX1_rings n hC, hC.1, hR, zbr_o, zbr_w, zbr_y, zbr_2w, zbr_2y, b1, b2, b3, b4, b5, b6, b7, e]
theorem eX1_wall (n : Nat) {S : zH} {f : Nat → Nat → Int32} {c u : Nat} (hC : zCu S c) (hu : f (c + 1) 3 = nI u) (hu9 : u ≤ 9) : F_X1_wallTenths n (zwi S f) c = some (qWall10 (f (c + 1)), zwi S f) := by
  obtain ⟨c1, c2, c3⟩ := hC
  unfold F_X1_wallTenths F_X1_wallTenths_J32 qWall10
  by_cases h5 : f (c + 1) 5 = nI 1
  · by_cases h6 : 2 * u < 10
    · simp (disch := omega) only [zv, e_gi, e_gr, e_gl, e_si, e_sb, e_ai, e_ar, e_ti, e_ty, e_tz, e_cv, zc_some, zmo_some, zin_T, ↓reduceIte, zit_succ, zzr0, zzr1, true_and, and_true, and_self, or_false, false_or, or_true, true_or, not_true_eq_false, not_false_eq_true, zl0, zl1, zl2, zl3, zl4, zl5, zl6, zl7, zl8, zl9, zl10, zl11, zl12, zl20, zl24, zl31, zl36, zl40, zl42, zl44, zl48, zl49, zl50, zl55, zl57, zl60, zl97, zl99, zl100, zl102, zl104, zl109, zl113, zl114, zl119, zl126, zl255, zl400, zl1000, zl101, zl103, zl1001, zl1002, zl16, zl18, zl32, zl35, zl443, n_leT, n_leF, n_ltT, n_ltF, n_eqT, n_eqF, n_swT, n_swF, nI_add, n_sub, pk_mul, zd_n, c1, c2, c3, h5, hu]
    · by_cases h7 : 2 * u = 10
      · simp (disch := omega) only [zv, e_gi, e_gr, e_gl, e_si, e_sb, e_ai, e_ar, e_ti, e_ty, e_tz, e_cv, zc_some, zmo_some, zin_T, ↓reduceIte, zit_succ, zzr0, zzr1, true_and, and_true, and_self, or_false, false_or, or_true, true_or, not_true_eq_false, not_false_eq_true, zl0, zl1, zl2, zl3, zl4, zl5, zl6, zl7, zl8, zl9, zl10, zl11, zl12, zl20, zl24, zl31, zl36, zl40, zl42, zl44, zl48, zl49, zl50, zl55, zl57, zl60, zl97, zl99, zl100, zl102, zl104, zl109, zl113, zl114, zl119, zl126, zl255, zl400, zl1000, zl101, zl103, zl1001, zl1002, zl16, zl18, zl32, zl35, zl443, n_leT, n_leF, n_ltT, n_ltF, n_eqT, n_eqF, n_swT, n_swF, nI_add, n_sub, pk_mul, zd_n, c1, c2, c3, h5, hu, h7]
      · simp (disch := omega) only [zv, e_gi, e_gr, e_gl, e_si, e_sb, e_ai, e_ar, e_ti, e_ty, e_tz, e_cv, zc_some, zmo_some, zin_T, ↓reduceIte, zit_succ, zzr0, zzr1, true_and, and_true, and_self, or_false, false_or, or_true, true_or, not_true_eq_false, not_false_eq_true, zl0, zl1, zl2, zl3, zl4, zl5, zl6, zl7, zl8, zl9, zl10, zl11, zl12, zl20, zl24, zl31, zl36, zl40, zl42, zl44, zl48, zl49, zl50, zl55, zl57, zl60, zl97, zl99, zl100, zl102, zl104, zl109, zl113, zl114, zl119, zl126, zl255, zl400, zl1000, zl101, zl103, zl1001, zl1002, zl16, zl18, zl32, zl35, zl443, n_leT, n_leF, n_ltT, n_ltF, n_eqT, n_eqF, n_swT, n_swF, nI_add, n_sub, pk_mul, zd_n, c1, c2, c3, h5, hu]
  · simp (disch := omega) only [zv, e_gi, e_gr, e_gl, e_si, e_sb, e_ai, e_ar, e_ti, e_ty, e_tz, e_cv, zc_some, zmo_some, zin_T, ↓reduceIte, zit_succ, zzr0, zzr1, true_and, and_true, and_self, or_false, false_or, or_true, true_or, not_true_eq_false, not_false_eq_true, zl0, zl1, zl2, zl3, zl4, zl5, zl6, zl7, zl8, zl9, zl10, zl11, zl12, zl20, zl24, zl31, zl36, zl40, zl42, zl44, zl48, zl49, zl50, zl55, zl57, zl60, zl97, zl99, zl100, zl102, zl104, zl109, zl113, zl114, zl119, zl126, zl255, zl400, zl1000, zl101, zl103, zl1001, zl1002, zl16, zl18, zl32, zl35, zl443, n_leT, n_leF, n_ltT, n_ltF, n_eqT, n_eqF, n_swT, n_swF, nI_add, n_sub, pk_mul, zd_n, c1, c2, c3, h5, hu]
theorem eX0_wall (n : Nat) {S : zH} {f w : Nat → Nat → Int32} {y : Nat → Int32} {b c H R : Nat} {ba t : Int32} (hn : 513 < n) (hB : zBr S b) (hC : zCu S c) (hcb : c + 1 < b) (hR6 : R ≤ 6) (hR1 : 1 ≤ R) (hH : f (c + 1) 1 = nI H) (hH4 : H ≤ 4) :
    F_X0_slow_L66 n (zwi S (zbr f b w y)) b c ba (nI (R - 1)) t (nI 0) = some ((), zwi S (zbr f b (qWall R H ba t w) y)) := by
  obtain ⟨b1, b2, b3, b4, b5, b6, b7⟩ := hB
  unfold F_X0_slow_L66
  refine zfor (fun i => (zwi S (zbr f b (zit (fun i w => z2 w (R - 1) i (qDrag ba t (w (R - 1) i))) w i) y), nI i)) H (fun kc i hi => ?_) (fun kc => ?_) (by omega)
  · simp (disch := omega) only [F_X0_slow_B66, F_X0_left, qDrag, zv, e_gi, e_gr, e_gl, e_si, e_sb, e_ai, e_ar, e_ti, e_ty, e_tz, e_cv, zc_some, zmo_some, zin_T, ↓reduceIte, zit_succ, zzr0, zzr1, true_and, and_true, and_self, or_false, false_or, or_true, true_or, not_true_eq_false, not_false_eq_true, zl0, zl1, zl2, zl3, zl4, zl5, zl6, zl7, zl8, zl9, zl10, zl11, zl12, zl20, zl24, zl31, zl36, zl40, zl42, zl44, zl48, zl49, zl50, zl55, zl57, zl60, zl97, zl99, zl100, zl102, zl104, zl109, zl113, zl114, zl119, zl126, zl255, zl400, zl1000, zl101, zl103, zl1001, zl1002, zl16, zl18, zl32, zl35, zl443, n_leT, n_leF, n_ltT, n_ltF, n_eqT, n_eqF, n_swT, n_swF, nI_add, n_sub, pk_mul, zd_n, eX1_heights n hC, hC.1, hH, zbr_o, zbr_w, zbr_y, zbr_2w, zbr_2y, b1, b2, b3, b4, b5, b6, b7]
  · simp (disch := omega) only [F_X0_slow_B66, F_X0_slow_J115, zv, e_gi, e_gr, e_gl, e_si, e_sb, e_ai, e_ar, e_ti, e_ty, e_tz, e_cv, zc_some, zmo_some, zin_T, ↓reduceIte, zit_succ, zzr0, zzr1, true_and, and_true, and_self, or_false, false_or, or_true, true_or, not_true_eq_false, not_false_eq_true, zl0, zl1, zl2, zl3, zl4, zl5, zl6, zl7, zl8, zl9, zl10, zl11, zl12, zl20, zl24, zl31, zl36, zl40, zl42, zl44, zl48, zl49, zl50, zl55, zl57, zl60, zl97, zl99, zl100, zl102, zl104, zl109, zl113, zl114, zl119, zl126, zl255, zl400, zl1000, zl101, zl103, zl1001, zl1002, zl16, zl18, zl32, zl35, zl443, n_leT, n_leF, n_ltT, n_ltF, n_eqT, n_eqF, n_swT, n_swF, nI_add, n_sub, pk_mul, zd_n, eX1_heights n hC, hC.1, hH, zbr_o, zbr_w, zbr_y, zbr_2w, zbr_2y, b1, b2, b3, b4, b5, b6, b7]
    rfl
theorem eX0_slow (n : Nat) {S : zH} {f w : Nat → Nat → Int32} {y : Nat → Int32} {b c H R u : Nat} {ba : Int32} (hn : 513 < n) (hB : zBr S b) (hC : zCu S c) (hcb : c + 1 < b) (hR : f (c + 1) 0 = nI R) (hR6 : R ≤ 6) (hR1 : 1 ≤ R) (hH : f (c + 1) 1 = nI H) (hH4 : H ≤ 4) (hu : f (c + 1) 3 = nI u) (hu9 : u ≤ 9) :
    F_X0_slow n (zwi S (zbr f b w y)) b c ba = some ((), zwi S (zbr f b (qWall R H ba (qWall10 (f (c + 1))) (qFloor R ba (f (c + 1) 2) w)) y)) := by
  have hB' := hB
  obtain ⟨b1, b2, b3, b4, b5, b6, b7⟩ := hB
  unfold F_X0_slow
  simp (disch := omega) only [zv, e_gi, e_gr, e_gl, e_si, e_sb, e_ai, e_ar, e_ti, e_ty, e_tz, e_cv, zc_some, zmo_some, zin_T, ↓reduceIte, zit_succ, zzr0, zzr1, true_and, and_true, and_self, or_false, false_or, or_true, true_or, not_true_eq_false, not_false_eq_true, zl0, zl1, zl2, zl3, zl4, zl5, zl6, zl7, zl8, zl9, zl10, zl11, zl12, zl20, zl24, zl31, zl36, zl40, zl42, zl44, zl48, zl49, zl50, zl55, zl57, zl60, zl97, zl99, zl100, zl102, zl104, zl109, zl113, zl114, zl119, zl126, zl255, zl400, zl1000, zl101, zl103, zl1001, zl1002, zl16, zl18, zl32, zl35, zl443, n_leT, n_leF, n_ltT, n_ltF, n_eqT, n_eqF, n_swT, n_swF, nI_add, n_sub, pk_mul, zd_n, eX1_floor n hC, hC.1, zbr_o, zbr_w, zbr_y, zbr_2w, zbr_2y, b1, b2, b3, b4, b5, b6, b7]
  unfold F_X0_slow_L8
  refine zfor (fun r => (zwi S (zbr f b (zit (fun r w => z2 w r 0 (qDrag ba (f (c + 1) 2) (w r 0))) w r) y), nI r)) R (fun kc r hr => ?_) (fun kc => ?_) (by omega)
  · simp (disch := omega) only [F_X0_slow_B8, F_X0_left, qDrag, zv, e_gi, e_gr, e_gl, e_si, e_sb, e_ai, e_ar, e_ti, e_ty, e_tz, e_cv, zc_some, zmo_some, zin_T, ↓reduceIte, zit_succ, zzr0, zzr1, true_and, and_true, and_self, or_false, false_or, or_true, true_or, not_true_eq_false, not_false_eq_true, zl0, zl1, zl2, zl3, zl4, zl5, zl6, zl7, zl8, zl9, zl10, zl11, zl12, zl20, zl24, zl31, zl36, zl40, zl42, zl44, zl48, zl49, zl50, zl55, zl57, zl60, zl97, zl99, zl100, zl102, zl104, zl109, zl113, zl114, zl119, zl126, zl255, zl400, zl1000, zl101, zl103, zl1001, zl1002, zl16, zl18, zl32, zl35, zl443, n_leT, n_leF, n_ltT, n_ltF, n_eqT, n_eqF, n_swT, n_swF, nI_add, n_sub, pk_mul, zd_n, eX1_rings n hC, hC.1, hR, zbr_o, zbr_w, zbr_y, zbr_2w, zbr_2y, b1, b2, b3, b4, b5, b6, b7]
  · have e := eX0_wall n (y := y) (w := qFloor R ba (f (c + 1) 2) w) (ba := ba) (t := qWall10 (f (c + 1))) hn hB' hC hcb hR6 hR1 hH hH4
    have e2 : ∀ w', F_X1_wallTenths n (zwi S (zbr f b w' y)) c = some (qWall10 (f (c + 1)), zwi S (zbr f b w' y)) := fun w' => by
      have h3 : ∀ k, zbr f b w' y (c + 1) k = f (c + 1) k := fun k => zbr_o (by omega)
      rw [eX1_wall n hC (u := u) ((h3 3).trans hu) hu9]
      unfold qWall10
      rw [h3, h3]
    unfold qFloor at e ⊢
    simp (disch := omega) only [F_X0_slow_B8, zv, e_gi, e_gr, e_gl, e_si, e_sb, e_ai, e_ar, e_ti, e_ty, e_tz, e_cv, zc_some, zmo_some, zin_T, ↓reduceIte, zit_succ, zzr0, zzr1, true_and, and_true, and_self, or_false, false_or, or_true, true_or, not_true_eq_false, not_false_eq_true, zl0, zl1, zl2, zl3, zl4, zl5, zl6, zl7, zl8, zl9, zl10, zl11, zl12, zl20, zl24, zl31, zl36, zl40, zl42, zl44, zl48, zl49, zl50, zl55, zl57, zl60, zl97, zl99, zl100, zl102, zl104, zl109, zl113, zl114, zl119, zl126, zl255, zl400, zl1000, zl101, zl103, zl1001, zl1002, zl16, zl18, zl32, zl35, zl443, n_leT, n_leF, n_ltT, n_ltF, n_eqT, n_eqF, n_swT, n_swF, nI_add, n_sub, pk_mul, zd_n, eX1_rings n hC, hC.1, hR, zbr_o, zbr_w, zbr_y, zbr_2w, zbr_2y, b1, b2, b3, b4, b5, b6, b7, e2, e]
theorem eX0_blendR (n : Nat) {S : zH} {f w : Nat → Nat → Int32} {y : Nat → Int32} {b c H r : Nat} {m : Int32} {kc : zH × Int32 → Option (Unit × zH)} (hn : 513 < n) (hB : zBr S b) (hr : r < 6) (hH4 : H ≤ 4) :
    F_X0_blend_L27 n kc (zwi S (zbr f b w y)) b c m (nI (H - 1)) (nI r) (nI 0) = kc (zwi S (zbr f b (qBlendR H m r w) y), nI (r + 1)) := by
  obtain ⟨b1, b2, b3, b4, b5, b6, b7⟩ := hB
  unfold F_X0_blend_L27
  refine zfor (fun i => (zwi S (zbr f b (zit (fun i w => z2 (z2 w r i (w r i + (w r (i + 1) - w r i) * m / nI 20)) r (i + 1) (w r (i + 1) - (w r (i + 1) - w r i) * m / nI 20)) w i) y), nI i)) (H - 1) (fun kc i hi => ?_) (fun kc => ?_) (by omega)
  · simp (disch := omega) only [F_X0_blend_B27, zv, e_gi, e_gr, e_gl, e_si, e_sb, e_ai, e_ar, e_ti, e_ty, e_tz, e_cv, zc_some, zmo_some, zin_T, ↓reduceIte, zit_succ, zzr0, zzr1, true_and, and_true, and_self, or_false, false_or, or_true, true_or, not_true_eq_false, not_false_eq_true, zl0, zl1, zl2, zl3, zl4, zl5, zl6, zl7, zl8, zl9, zl10, zl11, zl12, zl20, zl24, zl31, zl36, zl40, zl42, zl44, zl48, zl49, zl50, zl55, zl57, zl60, zl97, zl99, zl100, zl102, zl104, zl109, zl113, zl114, zl119, zl126, zl255, zl400, zl1000, zl101, zl103, zl1001, zl1002, zl16, zl18, zl32, zl35, zl443, n_leT, n_leF, n_ltT, n_ltF, n_eqT, n_eqF, n_swT, n_swF, nI_add, n_sub, pk_mul, zd_n, zbr_o, zbr_w, zbr_y, zbr_2w, zbr_2y, b1, b2, b3, b4, b5, b6, b7, z2_ne]
  · simp (disch := omega) only [F_X0_blend_B27, zv, e_gi, e_gr, e_gl, e_si, e_sb, e_ai, e_ar, e_ti, e_ty, e_tz, e_cv, zc_some, zmo_some, zin_T, ↓reduceIte, zit_succ, zzr0, zzr1, true_and, and_true, and_self, or_false, false_or, or_true, true_or, not_true_eq_false, not_false_eq_true, zl0, zl1, zl2, zl3, zl4, zl5, zl6, zl7, zl8, zl9, zl10, zl11, zl12, zl20, zl24, zl31, zl36, zl40, zl42, zl44, zl48, zl49, zl50, zl55, zl57, zl60, zl97, zl99, zl100, zl102, zl104, zl109, zl113, zl114, zl119, zl126, zl255, zl400, zl1000, zl101, zl103, zl1001, zl1002, zl16, zl18, zl32, zl35, zl443, n_leT, n_leF, n_ltT, n_ltF, n_eqT, n_eqF, n_swT, n_swF, nI_add, n_sub, pk_mul, zd_n, zbr_o, zbr_w, zbr_y, zbr_2w, zbr_2y, b1, b2, b3, b4, b5, b6, b7]
    rfl
theorem eX0_blend (n : Nat) {S : zH} {f w : Nat → Nat → Int32} {y : Nat → Int32} {b c H R : Nat} (hn : 513 < n) (hB : zBr S b) (hC : zCu S c) (hcb : c + 1 < b) (hR : f (c + 1) 0 = nI R) (hR6 : R ≤ 6) (hH : f (c + 1) 1 = nI H) (hH4 : H ≤ 4) (hH1 : 1 ≤ H) :
    F_X0_blend n (zwi S (zbr f b w y)) b c = some ((), zwi S (zbr f b (qBlend R H (f (c + 1) 4) w) y)) := by
  have hB' := hB
  obtain ⟨b1, b2, b3, b4, b5, b6, b7⟩ := hB
  unfold F_X0_blend
  simp (disch := omega) only [zv, e_gi, e_gr, e_gl, e_si, e_sb, e_ai, e_ar, e_ti, e_ty, e_tz, e_cv, zc_some, zmo_some, zin_T, ↓reduceIte, zit_succ, zzr0, zzr1, true_and, and_true, and_self, or_false, false_or, or_true, true_or, not_true_eq_false, not_false_eq_true, zl0, zl1, zl2, zl3, zl4, zl5, zl6, zl7, zl8, zl9, zl10, zl11, zl12, zl20, zl24, zl31, zl36, zl40, zl42, zl44, zl48, zl49, zl50, zl55, zl57, zl60, zl97, zl99, zl100, zl102, zl104, zl109, zl113, zl114, zl119, zl126, zl255, zl400, zl1000, zl101, zl103, zl1001, zl1002, zl16, zl18, zl32, zl35, zl443, n_leT, n_leF, n_ltT, n_ltF, n_eqT, n_eqF, n_swT, n_swF, nI_add, n_sub, pk_mul, zd_n, eX1_mix n hC, eX1_heights n hC, hC.1, hH, zbr_o, zbr_w, zbr_y, zbr_2w, zbr_2y, b1, b2, b3, b4, b5, b6, b7]
  unfold F_X0_blend_L15
  refine zfor (fun r => (zwi S (zbr f b (zit (fun r w => qBlendR H (f (c + 1) 4) r w) w r) y), nI r)) R (fun kc r hr => ?_) (fun kc => ?_) (by omega)
  · have e : ∀ w', F_X0_blend_L27 n kc (zwi S (zbr f b w' y)) b c (f (c + 1) 4) (nI (H - 1)) (nI r) (nI 0) = kc (zwi S (zbr f b (qBlendR H (f (c + 1) 4) r w') y), nI (r + 1)) := fun w' => eX0_blendR n hn hB' (by omega) hH4
    simp (disch := omega) only [F_X0_blend_B15, zv, e_gi, e_gr, e_gl, e_si, e_sb, e_ai, e_ar, e_ti, e_ty, e_tz, e_cv, zc_some, zmo_some, zin_T, ↓reduceIte, zit_succ, zzr0, zzr1, true_and, and_true, and_self, or_false, false_or, or_true, true_or, not_true_eq_false, not_false_eq_true, zl0, zl1, zl2, zl3, zl4, zl5, zl6, zl7, zl8, zl9, zl10, zl11, zl12, zl20, zl24, zl31, zl36, zl40, zl42, zl44, zl48, zl49, zl50, zl55, zl57, zl60, zl97, zl99, zl100, zl102, zl104, zl109, zl113, zl114, zl119, zl126, zl255, zl400, zl1000, zl101, zl103, zl1001, zl1002, zl16, zl18, zl32, zl35, zl443, n_leT, n_leF, n_ltT, n_ltF, n_eqT, n_eqF, n_swT, n_swF, nI_add, n_sub, pk_mul, zd_n, eX1_rings n hC, hC.1, hR, zbr_o, zbr_w, zbr_y, zbr_2w, zbr_2y, b1, b2, b3, b4, b5, b6, b7, e]
  · simp (disch := omega) only [F_X0_blend_B15, zv, e_gi, e_gr, e_gl, e_si, e_sb, e_ai, e_ar, e_ti, e_ty, e_tz, e_cv, zc_some, zmo_some, zin_T, ↓reduceIte, zit_succ, zzr0, zzr1, true_and, and_true, and_self, or_false, false_or, or_true, true_or, not_true_eq_false, not_false_eq_true, zl0, zl1, zl2, zl3, zl4, zl5, zl6, zl7, zl8, zl9, zl10, zl11, zl12, zl20, zl24, zl31, zl36, zl40, zl42, zl44, zl48, zl49, zl50, zl55, zl57, zl60, zl97, zl99, zl100, zl102, zl104, zl109, zl113, zl114, zl119, zl126, zl255, zl400, zl1000, zl101, zl103, zl1001, zl1002, zl16, zl18, zl32, zl35, zl443, n_leT, n_leF, n_ltT, n_ltF, n_eqT, n_eqF, n_swT, n_swF, nI_add, n_sub, pk_mul, zd_n, eX1_rings n hC, hC.1, hR, zbr_o, zbr_w, zbr_y, zbr_2w, zbr_2y, b1, b2, b3, b4, b5, b6, b7]
    rfl
