/-! ===== the water: pure ===== -/
def qcl (v : Int32) : Int32 := if v ≤ nI 99 then (if -nI 99 ≤ v then v else -nI 99) else nI 99
def qMoveR (H : Nat) (p : Int32) (r : Nat) (w : Nat → Nat → Int32) : Nat → Nat → Int32 := zit (fun i w => z2 w r (i + 1) (qcl (w r (i + 1) + p))) w (H - 1)
def qMove (R H : Nat) (p : Int32) (w : Nat → Nat → Int32) : Nat → Nat → Int32 := zit (fun r w => qMoveR H p r w) w R
def qStraw (H : Nat) (w : Nat → Nat → Int32) : Nat → Nat → Int32 := zit (fun i w => z2 w 0 i (w 0 i / nI 2)) w H
def qDrag (base t x : Int32) : Int32 := base + (x - base) * (nI 10 - t) / nI 10
def qFloor (R : Nat) (base t : Int32) (w : Nat → Nat → Int32) : Nat → Nat → Int32 := zit (fun r w => z2 w r 0 (qDrag base t (w r 0))) w R
def qWall (R H : Nat) (base t : Int32) (w : Nat → Nat → Int32) : Nat → Nat → Int32 := zit (fun i w => z2 w (R - 1) i (qDrag base t (w (R - 1) i))) w H
def qBlendR (H : Nat) (m : Int32) (r : Nat) (w : Nat → Nat → Int32) : Nat → Nat → Int32 := zit (fun i w => z2 (z2 w r i (w r i + (w r (i + 1) - w r i) * m / nI 20)) r (i + 1) (w r (i + 1) - (w r (i + 1) - w r i) * m / nI 20)) w (H - 1)
def qBlend (R H : Nat) (m : Int32) (w : Nat → Nat → Int32) : Nat → Nat → Int32 := zit (fun r w => qBlendR H m r w) w R
def qSum (H r : Nat) (w : Nat → Nat → Int32) : Int32 := zit (fun i s => s + w r (i + 1) * w r (i + 1)) (nI 0) (H - 1)
def qSecond (H r : Nat) (w : Nat → Nat → Int32) : Int32 := (qSum H r w / nI (H - 1) - w r 0 * w r 0) / nI 100
def qPull (H : Nat) (w : Nat → Nat → Int32) (r : Nat) (wt : Int32) : Int32 := qSecond H r w - wt * w r 0 * w r 0 / nI 1000
/-- where a leaf goes -/
def qGoes (R H : Nat) (w : Nat → Nat → Int32) (x wt st : Int32) : Int32 :=
  if qPull H w x.toNatClampNeg wt ≤ st ∨ x ≤ nI 0 then (if -st ≤ qPull H w x.toNatClampNeg wt ∨ nI R - nI 1 ≤ x then x else x + nI 1) else x - nI 1
def qLeaves (R H : Nat) (wt st : Nat → Int32) (w : Nat → Nat → Int32) (y : Nat → Int32) (nl : Nat) : Nat → Int32 := zit (fun l y => z1 y l (qGoes R H w (y l) (wt l) (st l))) y nl
/-! ===== where the water of a Brew lies ===== -/
def zbr (f : Nat → Nat → Int32) (b : Nat) (w : Nat → Nat → Int32) (y : Nat → Int32) : Nat → Nat → Int32 := fun a k => if b + 2 ≤ a ∧ a < b + 8 ∧ k < 4 then w (a - (b + 2)) k else if a = b + 8 ∧ k < 10 then y k else f a k
theorem zbr_w {f : Nat → Nat → Int32} {b : Nat} {w : Nat → Nat → Int32} {y : Nat → Int32} {r k : Nat} (h : r < 6 ∧ k < 4) : zbr f b w y (b + 2 + r) k = w r k := by
  unfold zbr
  rw [if_pos (by omega)]
  congr 1
  omega
theorem zbr_y {f : Nat → Nat → Int32} {b : Nat} {w : Nat → Nat → Int32} {y : Nat → Int32} {l : Nat} (h : l < 10) : zbr f b w y (b + 8) l = y l := by
  unfold zbr
  rw [if_neg (by omega), if_pos (by omega)]
theorem zbr_o {f : Nat → Nat → Int32} {b : Nat} {w : Nat → Nat → Int32} {y : Nat → Int32} {a k : Nat} (h : a < b + 2 ∨ b + 8 < a) : zbr f b w y a k = f a k := by
  unfold zbr
  rw [if_neg (by omega), if_neg (by omega)]
theorem zbr_2w {f : Nat → Nat → Int32} {b : Nat} {w : Nat → Nat → Int32} {y : Nat → Int32} {r k : Nat} {v : Int32} (h : r < 6 ∧ k < 4) : z2 (zbr f b w y) (b + 2 + r) k v = zbr f b (z2 w r k v) y := by
  funext a j
  unfold zbr z2
  dsimp only
  by_cases h1 : a = b + 2 + r ∧ j = k
  · rw [if_pos h1, if_pos (by omega), if_pos (by omega)]
  · rw [if_neg h1]
    by_cases h2 : b + 2 ≤ a ∧ a < b + 8 ∧ j < 4
    · rw [if_pos h2, if_pos h2, if_neg (by omega)]
    · rw [if_neg h2, if_neg h2]
theorem zbr_2y {f : Nat → Nat → Int32} {b : Nat} {w : Nat → Nat → Int32} {y : Nat → Int32} {l : Nat} {v : Int32} (h : l < 10) : z2 (zbr f b w y) (b + 8) l v = zbr f b w (z1 y l v) := by
  funext a j
  unfold zbr z2 z1
  dsimp only
  by_cases h1 : a = b + 8 ∧ j = l
  · rw [if_pos h1, if_neg (by omega), if_pos (by omega), if_pos h1.2]
  · rw [if_neg h1]
    by_cases h2 : b + 2 ≤ a ∧ a < b + 8 ∧ j < 4
    · rw [if_pos h2, if_pos h2]
    · rw [if_neg h2, if_neg h2]
      by_cases h3 : a = b + 8 ∧ j < 10
      · rw [if_pos h3, if_pos h3, if_neg (by omega)]
      · rw [if_neg h3, if_neg h3]
theorem zbr_zbr (f : Nat → Nat → Int32) (b : Nat) (w w' : Nat → Nat → Int32) (y y' : Nat → Int32) : zbr (zbr f b w y) b w' y' = zbr f b w' y' := by
  funext a j
  unfold zbr
  by_cases h2 : b + 2 ≤ a ∧ a < b + 8 ∧ j < 4
  · rw [if_pos h2, if_pos h2]
  · rw [if_neg h2, if_neg h2, if_neg h2]
    by_cases h3 : a = b + 8 ∧ j < 10
    · rw [if_pos h3, if_pos h3]
    · rw [if_neg h3, if_neg h3, if_neg h3]
theorem zbr_self (f : Nat → Nat → Int32) (b : Nat) : zbr f b (fun r k => f (b + 2 + r) k) (fun l => f (b + 8) l) = f := by
  funext a j
  unfold zbr
  dsimp only
  by_cases h2 : b + 2 ≤ a ∧ a < b + 8 ∧ j < 4
  · rw [if_pos h2, show b + 2 + (a - (b + 2)) = a by omega]
  · rw [if_neg h2]
    by_cases h3 : a = b + 8 ∧ j < 10
    · rw [if_pos h3, h3.1]
    · rw [if_neg h3]
/-- a Brew at b -/
def zBr (S : zH) (b : Nat) : Prop := zsh S b = some (0, 2) ∧ zr S b 0 = some (b + 1) ∧ zr S b 1 = some (b + 8) ∧ zsh S (b + 1) = some (23, 6) ∧ (∀ r, r < 6 → zr S (b + 1) r = some (b + 2 + r)) ∧ (∀ r, r < 6 → zsh S (b + 2 + r) = some (20, 4)) ∧ zsh S (b + 8) = some (20, 10)
/-- a Cup at c -/
def zCu (S : zH) (c : Nat) : Prop := zsh S c = some (1, 2) ∧ zr S c 0 = some (c + 1) ∧ zsh S (c + 1) = some (20, 6)
/-- Leaves at v, of so many places -/
def zLvs (S : zH) (v z : Nat) : Prop := zsh S v = some (4, 5) ∧ zr S v 0 = some (v + 1) ∧ zr S v 1 = some (v + 2) ∧ zr S v 2 = some (v + 3) ∧ zr S v 3 = some (v + 4) ∧ zsh S (v + 1) = some (20, z) ∧ zsh S (v + 2) = some (20, z) ∧ zsh S (v + 3) = some (20, z) ∧ zsh S (v + 4) = some (20, z)
/-! ===== the class's water ===== -/
theorem eX1_rings (n : Nat) {S : zH} {f : Nat → Nat → Int32} {c : Nat} (hC : zCu S c) : F_X1_rings n (zwi S f) c = some (f (c + 1) 0, zwi S f) := by
  obtain ⟨c1, c2, c3⟩ := hC
  unfold F_X1_rings
  simp (disch := omega) only [zv, e_gi, e_gr, e_gl, e_si, e_sb, e_ai, e_ar, e_ti, e_ty, e_tz, e_cv, zc_some, zmo_some, zin_T, ↓reduceIte, zit_succ, zzr0, zzr1, true_and, and_true, and_self, or_false, false_or, or_true, true_or, not_true_eq_false, not_false_eq_true, zl0, zl1, zl2, zl3, zl4, zl5, zl6, zl7, zl8, zl9, zl10, zl11, zl12, zl20, zl24, zl31, zl36, zl40, zl42, zl44, zl48, zl49, zl50, zl55, zl57, zl60, zl97, zl99, zl100, zl102, zl104, zl109, zl113, zl114, zl119, zl126, zl255, zl400, zl1000, zl101, zl103, zl1001, zl1002, zl16, zl18, zl32, zl35, zl443, n_leT, n_leF, n_ltT, n_ltF, n_eqT, n_eqF, n_swT, n_swF, nI_add, n_sub, pk_mul, zd_n, c1, c2, c3]
theorem eX1_heights (n : Nat) {S : zH} {f : Nat → Nat → Int32} {c : Nat} (hC : zCu S c) : F_X1_heights n (zwi S f) c = some (f (c + 1) 1, zwi S f) := by
  obtain ⟨c1, c2, c3⟩ := hC
  unfold F_X1_heights
  simp (disch := omega) only [zv, e_gi, e_gr, e_gl, e_si, e_sb, e_ai, e_ar, e_ti, e_ty, e_tz, e_cv, zc_some, zmo_some, zin_T, ↓reduceIte, zit_succ, zzr0, zzr1, true_and, and_true, and_self, or_false, false_or, or_true, true_or, not_true_eq_false, not_false_eq_true, zl0, zl1, zl2, zl3, zl4, zl5, zl6, zl7, zl8, zl9, zl10, zl11, zl12, zl20, zl24, zl31, zl36, zl40, zl42, zl44, zl48, zl49, zl50, zl55, zl57, zl60, zl97, zl99, zl100, zl102, zl104, zl109, zl113, zl114, zl119, zl126, zl255, zl400, zl1000, zl101, zl103, zl1001, zl1002, zl16, zl18, zl32, zl35, zl443, n_leT, n_leF, n_ltT, n_ltF, n_eqT, n_eqF, n_swT, n_swF, nI_add, n_sub, pk_mul, zd_n, c1, c2, c3]
theorem eX1_floor (n : Nat) {S : zH} {f : Nat → Nat → Int32} {c : Nat} (hC : zCu S c) : F_X1_floorTenths n (zwi S f) c = some (f (c + 1) 2, zwi S f) := by
  obtain ⟨c1, c2, c3⟩ := hC
  unfold F_X1_floorTenths
  simp (disch := omega) only [zv, e_gi, e_gr, e_gl, e_si, e_sb, e_ai, e_ar, e_ti, e_ty, e_tz, e_cv, zc_some, zmo_some, zin_T, ↓reduceIte, zit_succ, zzr0, zzr1, true_and, and_true, and_self, or_false, false_or, or_true, true_or, not_true_eq_false, not_false_eq_true, zl0, zl1, zl2, zl3, zl4, zl5, zl6, zl7, zl8, zl9, zl10, zl11, zl12, zl20, zl24, zl31, zl36, zl40, zl42, zl44, zl48, zl49, zl50, zl55, zl57, zl60, zl97, zl99, zl100, zl102, zl104, zl109, zl113, zl114, zl119, zl126, zl255, zl400, zl1000, zl101, zl103, zl1001, zl1002, zl16, zl18, zl32, zl35, zl443, n_leT, n_leF, n_ltT, n_ltF, n_eqT, n_eqF, n_swT, n_swF, nI_add, n_sub, pk_mul, zd_n, c1, c2, c3]
theorem eX1_mix (n : Nat) {S : zH} {f : Nat → Nat → Int32} {c : Nat} (hC : zCu S c) : F_X1_mixTwentieths n (zwi S f) c = some (f (c + 1) 4, zwi S f) := by
  obtain ⟨c1, c2, c3⟩ := hC
  unfold F_X1_mixTwentieths
  simp (disch := omega) only [zv, e_gi, e_gr, e_gl, e_si, e_sb, e_ai, e_ar, e_ti, e_ty, e_tz, e_cv, zc_some, zmo_some, zin_T, ↓reduceIte, zit_succ, zzr0, zzr1, true_and, and_true, and_self, or_false, false_or, or_true, true_or, not_true_eq_false, not_false_eq_true, zl0, zl1, zl2, zl3, zl4, zl5, zl6, zl7, zl8, zl9, zl10, zl11, zl12, zl20, zl24, zl31, zl36, zl40, zl42, zl44, zl48, zl49, zl50, zl55, zl57, zl60, zl97, zl99, zl100, zl102, zl104, zl109, zl113, zl114, zl119, zl126, zl255, zl400, zl1000, zl101, zl103, zl1001, zl1002, zl16, zl18, zl32, zl35, zl443, n_leT, n_leF, n_ltT, n_ltF, n_eqT, n_eqF, n_swT, n_swF, nI_add, n_sub, pk_mul, zd_n, c1, c2, c3]
/-- the straw, and what is behind it -/
theorem eX0_straw (n : Nat) {S : zH} {f w : Nat → Nat → Int32} {y : Nat → Int32} {b c d H : Nat} (hn : 513 < n) (hB : zBr S b) (hC : zCu S c) (hcb : c + 1 < b) (hd : zsh S d = some (2, 2)) (hdb : d < b ∨ b + 8 < d) (hH : f (c + 1) 1 = nI H) (hH4 : H ≤ 4) :
    F_X0_move_L84 n (zwi S (zbr f b w y)) b c d (nI 0) = some ((), zwi S (zbr f b (if f d 0 = nI 4 then qStraw H w else w) y)) := by
  obtain ⟨b1, b2, b3, b4, b5, b6, b7⟩ := hB
  unfold F_X0_move_L84
  by_cases h4 : f d 0 = nI 4
  · rw [if_pos h4]
    refine zfor (fun i => (zwi S (zbr f b (zit (fun i w => z2 w 0 i (w 0 i / nI 2)) w i) y), nI i)) H (fun kc i hi => ?_) (fun kc => ?_) (by omega)
    · have c5 := b5 0 (by omega)
      have c6 := b6 0 (by omega)
      simp (disch := omega) only [F_X0_move_B84, zv, e_gi, e_gr, e_gl, e_si, e_sb, e_ai, e_ar, e_ti, e_ty, e_tz, e_cv, zc_some, zmo_some, zin_T, ↓reduceIte, zit_succ, zzr0, zzr1, true_and, and_true, and_self, or_false, false_or, or_true, true_or, not_true_eq_false, not_false_eq_true, zl0, zl1, zl2, zl3, zl4, zl5, zl6, zl7, zl8, zl9, zl10, zl11, zl12, zl20, zl24, zl31, zl36, zl40, zl42, zl44, zl48, zl49, zl50, zl55, zl57, zl60, zl97, zl99, zl100, zl102, zl104, zl109, zl113, zl114, zl119, zl126, zl255, zl400, zl1000, zl101, zl103, zl1001, zl1002, zl16, zl18, zl32, zl35, zl443, n_leT, n_leF, n_ltT, n_ltF, n_eqT, n_eqF, n_swT, n_swF, nI_add, n_sub, pk_mul, zd_n, eX1_heights n hC, hC.1, hd, b1, b2, b4, c5, c6, zbr_o, hH, h4, zbr_w, zbr_2w]
    · simp (disch := omega) only [F_X0_move_B84, F_X0_move_J120, zv, e_gi, e_gr, e_gl, e_si, e_sb, e_ai, e_ar, e_ti, e_ty, e_tz, e_cv, zc_some, zmo_some, zin_T, ↓reduceIte, zit_succ, zzr0, zzr1, true_and, and_true, and_self, or_false, false_or, or_true, true_or, not_true_eq_false, not_false_eq_true, zl0, zl1, zl2, zl3, zl4, zl5, zl6, zl7, zl8, zl9, zl10, zl11, zl12, zl20, zl24, zl31, zl36, zl40, zl42, zl44, zl48, zl49, zl50, zl55, zl57, zl60, zl97, zl99, zl100, zl102, zl104, zl109, zl113, zl114, zl119, zl126, zl255, zl400, zl1000, zl101, zl103, zl1001, zl1002, zl16, zl18, zl32, zl35, zl443, n_leT, n_leF, n_ltT, n_ltF, n_eqT, n_eqF, n_swT, n_swF, nI_add, n_sub, pk_mul, zd_n, eX1_heights n hC, hC.1, hd, b1, b2, b4, zbr_o, hH, h4, zbr_w, zbr_2w]
      rfl
  · rw [if_neg h4]
    refine zend (by omega) (fun kc => ?_)
    by_cases h0 : H = 0
    · subst h0
      simp (disch := omega) only [F_X0_move_B84, F_X0_move_J120, zv, e_gi, e_gr, e_gl, e_si, e_sb, e_ai, e_ar, e_ti, e_ty, e_tz, e_cv, zc_some, zmo_some, zin_T, ↓reduceIte, zit_succ, zzr0, zzr1, true_and, and_true, and_self, or_false, false_or, or_true, true_or, not_true_eq_false, not_false_eq_true, zl0, zl1, zl2, zl3, zl4, zl5, zl6, zl7, zl8, zl9, zl10, zl11, zl12, zl20, zl24, zl31, zl36, zl40, zl42, zl44, zl48, zl49, zl50, zl55, zl57, zl60, zl97, zl99, zl100, zl102, zl104, zl109, zl113, zl114, zl119, zl126, zl255, zl400, zl1000, zl101, zl103, zl1001, zl1002, zl16, zl18, zl32, zl35, zl443, n_leT, n_leF, n_ltT, n_ltF, n_eqT, n_eqF, n_swT, n_swF, nI_add, n_sub, pk_mul, zd_n, eX1_heights n hC, hC.1, hd, b1, b2, b4, zbr_o, hH, h4]
    · simp (disch := omega) only [F_X0_move_B84, F_X0_move_J120, zv, e_gi, e_gr, e_gl, e_si, e_sb, e_ai, e_ar, e_ti, e_ty, e_tz, e_cv, zc_some, zmo_some, zin_T, ↓reduceIte, zit_succ, zzr0, zzr1, true_and, and_true, and_self, or_false, false_or, or_true, true_or, not_true_eq_false, not_false_eq_true, zl0, zl1, zl2, zl3, zl4, zl5, zl6, zl7, zl8, zl9, zl10, zl11, zl12, zl20, zl24, zl31, zl36, zl40, zl42, zl44, zl48, zl49, zl50, zl55, zl57, zl60, zl97, zl99, zl100, zl102, zl104, zl109, zl113, zl114, zl119, zl126, zl255, zl400, zl1000, zl101, zl103, zl1001, zl1002, zl16, zl18, zl32, zl35, zl443, n_leT, n_leF, n_ltT, n_ltF, n_eqT, n_eqF, n_swT, n_swF, nI_add, n_sub, pk_mul, zd_n, eX1_heights n hC, hC.1, hd, b1, b2, b4, zbr_o, hH, h4]
