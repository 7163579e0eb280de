/-! ===== the digest: what it is, and the class's way ===== -/
def mx (h : Int64) (x : Int32) : Int64 := (31 : Int64) * h + x.toInt64
def mF (g : Nat → Int32) (h : Int64) (N : Nat) : Int64 := zit (fun i h => mx h (g i)) h N
def mG (g g' : Nat → Int32) (h : Int64) (N : Nat) : Int64 := zit (fun i h => mx (mx h (g i)) (g' i)) h N
theorem mF_s (g : Nat → Int32) (h : Int64) (N : Nat) : mF g h (N + 1) = (31 : Int64) * mF g h N + (g N).toInt64 := rfl
theorem mG_s (g g' : Nat → Int32) (h : Int64) (N : Nat) : mG g g' h (N + 1) = (31 : Int64) * ((31 : Int64) * mG g g' h N + (g N).toInt64) + (g' N).toInt64 := rfl
def dRd (f : Nat → Nat → Int32) (H : Nat) (h : Int64) (R : Nat) : Int64 := zit (fun r h => mF (fun k => f 87 (4 * r + k)) h H) h R
theorem dRd_s (f : Nat → Nat → Int32) (H : Nat) (h : Int64) (R : Nat) : dRd f H h (R + 1) = mF (fun k => f 87 (4 * R + k)) (dRd f H h R) H := rfl
def dCup (f : Nat → Nat → Int32) (R H : Nat) (h : Int64) : Int64 := mF (f 97) (mF (fun r => qSecond H r (gW f)) (dRd f H (mF (f 86) h 6) R) R) R
def dLv (f : Nat → Nat → Int32) (H : Nat) (h : Int64) (nl : Nat) : Int64 := zit (fun l h => mF (qAbout f H l) h 6) h nl
theorem dLv_s (f : Nat → Nat → Int32) (H : Nat) (h : Int64) (nl : Nat) : dLv f H h (nl + 1) = mF (qAbout f H nl) (dLv f H h nl) 6 := rfl
def dRow (f : Nat → Nat → Int32) (R H nd nl k : Nat) (h : Int64) : Int64 := mF (qE f R H nd k) (mG (fun i => f 99 (6 * k + i)) (fun i => f 100 (6 * k + i)) (mx h (f 98 k)) (f 98 k).toNatClampNeg) nl
def dRw (f : Nat → Nat → Int32) (R H nd nl : Nat) (h : Int64) (nr : Nat) : Int64 := zit (fun k h => dRow f R H nd nl k h) h nr
theorem dRw_s (f : Nat → Nat → Int32) (R H nd nl : Nat) (h : Int64) (nr : Nat) : dRw f R H nd nl h (nr + 1) = dRow f R H nd nl nr (dRw f R H nd nl h nr) := rfl
def dCn (R nd nl nr np pt pl cu fi i : Nat) : Int32 := if i = 0 then nI R else if i = 1 then nI nd else if i = 2 then nI nl else if i = 3 then nI nr else if i = 4 then nI np else if i = 5 then nI pt else if i = 6 then nI pl else if i = 7 then nI cu else nI fi
theorem zfor0 {σ β : Type} {body : (σ → Option β) → σ → Option β} (st : Nat → σ) (N : Nat) {X : Option β} {x : σ} (h0 : x = st 0) (hs : ∀ kc i, i < N → body kc (st i) = kc (st (i + 1))) (he : ∀ kc, body kc (st N) = X) {n : Nat} (hn : N < n) : zloop body n x = X := by
  rw [h0]
  exact zfor st N hs he hn
theorem eC_dCup (n : Nat) {S : zH} {f : Nat → Nat → Int32} {c c' r r' tr R H cu : Nat} {h : Int64} (hn : 513 < n) (hS : zKl S c c' r r' tr) (hcu : I_cu f c R H cu) (hR : 1 ≤ R) (hbr : I_br f R H) (hwa : I_wa f) : F_X10_withCup n (zwi S f) 0 h = some (dCup f R H h, zwi S f) := by
  obtain ⟨hc6, hR0, hH0, hRH, -⟩ := hcu
  have hR6 : R ≤ 6 ∧ 2 ≤ H ∧ H ≤ 4 := by omega
  have h0 : zsh S 0 = some (9, 20) := cl_s0 hS
  have r4 : zr S 0 4 = some c := cl_c hS
  have hC := cl_Cu hS
  have hcc := cl_cc hS
  obtain ⟨c1, c2, c3⟩ := hC
  have hR1 : f (c + 1) 0 = nI R := (hc6 0 (by omega)).trans hR0
  have hH1 : f (c + 1) 1 = nI H := (hc6 1 (by omega)).trans hH0
  have eC := eC_hasCup n h0 r4 (cl_Cu hS) hR1 hR6.1
  rw [if_neg (by omega)] at eC
  have er := eX1_rings n (f := f) (cl_Cu hS)
  have eh := eX1_heights n (f := f) (cl_Cu hS)
  rw [hR1] at er
  rw [hH1] at eh
  have r14 : zr S 0 14 = some 33 := cl_r0_14 hS
  have r17 : zr S 0 17 = some 63 := cl_r0_17 hS
  have s63 : zsh S 63 = some (20, 6) := cl_s63 hS
  obtain ⟨b1, b2, b3, b4, b5, b6, b7⟩ := cl_b hS
  have l4 : ∀ h, F_X10_withCup_L155 n (zwi S f) 0 h (nI 0) = some (mF (f 97) h R, zwi S f) := fun h => by
    unfold F_X10_withCup_L155
    refine zfor0 (fun i => (zwi S f, mF (f 97) h i, nI i)) R rfl (fun kc i hi => ?_) (fun kc => ?_) (by omega)
    · have w1 := (hwa i (by omega)).1
      simp (disch := omega) only [F_X10_withCup_B155, zv, e_gi, e_gr, e_gl, e_si, e_sb, e_ai, e_ar, e_ti, e_ty, e_tz, e_cv, zc_some, zmo_some, zin_T, ↓reduceIte, zit_succ, zzr0, zzr1, true_and, and_true, and_self, or_false, false_or, or_true, true_or, not_true_eq_false, not_false_eq_true, zl0, zl1, zl2, zl3, zl4, zl5, zl6, zl7, zl8, zl9, zl10, zl11, zl12, zl20, zl24, zl31, zl36, zl40, zl42, zl44, zl48, zl49, zl50, zl55, zl57, zl60, zl97, zl99, zl100, zl102, zl104, zl109, zl113, zl114, zl119, zl126, zl255, zl400, zl1000, zl101, zl103, zl1001, zl1002, zl16, zl18, zl32, zl35, zl443, n_leT, n_leF, n_ltT, n_ltF, n_eqT, n_eqF, n_swT, n_swF, nI_add, n_sub, pk_mul, zd_n, h0, r4, c1, er, r17, s63, w1, mF_s]
    · simp (disch := omega) only [F_X10_withCup_B155, zv, e_gi, e_gr, e_gl, e_si, e_sb, e_ai, e_ar, e_ti, e_ty, e_tz, e_cv, zc_some, zmo_some, zin_T, ↓reduceIte, zit_succ, zzr0, zzr1, true_and, and_true, and_self, or_false, false_or, or_true, true_or, not_true_eq_false, not_false_eq_true, zl0, zl1, zl2, zl3, zl4, zl5, zl6, zl7, zl8, zl9, zl10, zl11, zl12, zl20, zl24, zl31, zl36, zl40, zl42, zl44, zl48, zl49, zl50, zl55, zl57, zl60, zl97, zl99, zl100, zl102, zl104, zl109, zl113, zl114, zl119, zl126, zl255, zl400, zl1000, zl101, zl103, zl1001, zl1002, zl16, zl18, zl32, zl35, zl443, n_leT, n_leF, n_ltT, n_ltF, n_eqT, n_eqF, n_swT, n_swF, nI_add, n_sub, pk_mul, zd_n, h0, r4, c1, er]
  have l3 : ∀ h, F_X10_withCup_L110 n (zwi S f) 0 h (nI 0) = some (mF (f 97) (mF (fun r => qSecond H r (gW f)) h R) R, zwi S f) := fun h => by
    unfold F_X10_withCup_L110
    refine zfor0 (fun i => (zwi S f, mF (fun r => qSecond H r (gW f)) h i, nI i)) R rfl (fun kc i hi => ?_) (fun kc => ?_) (by omega)
    · have e3 := eX0_second n (f := f) (w := gW f) (y := fun l => f (33 + 8) l) (r := i) hn (cl_b hS) hR6.2.2 hR6.2.1 (by omega)
      rw [br_33 hbr] at e3
      simp (disch := omega) only [F_X10_withCup_B110, zv, e_gi, e_gr, e_gl, e_si, e_sb, e_ai, e_ar, e_ti, e_ty, e_tz, e_cv, zc_some, zmo_some, zin_T, ↓reduceIte, zit_succ, zzr0, zzr1, true_and, and_true, and_self, or_false, false_or, or_true, true_or, not_true_eq_false, not_false_eq_true, zl0, zl1, zl2, zl3, zl4, zl5, zl6, zl7, zl8, zl9, zl10, zl11, zl12, zl20, zl24, zl31, zl36, zl40, zl42, zl44, zl48, zl49, zl50, zl55, zl57, zl60, zl97, zl99, zl100, zl102, zl104, zl109, zl113, zl114, zl119, zl126, zl255, zl400, zl1000, zl101, zl103, zl1001, zl1002, zl16, zl18, zl32, zl35, zl443, n_leT, n_leF, n_ltT, n_ltF, n_eqT, n_eqF, n_swT, n_swF, nI_add, n_sub, pk_mul, zd_n, h0, r4, c1, er, eh, r14, b1, e3, mF_s]
    · simp (disch := omega) only [F_X10_withCup_B110, zv, e_gi, e_gr, e_gl, e_si, e_sb, e_ai, e_ar, e_ti, e_ty, e_tz, e_cv, zc_some, zmo_some, zin_T, ↓reduceIte, zit_succ, zzr0, zzr1, true_and, and_true, and_self, or_false, false_or, or_true, true_or, not_true_eq_false, not_false_eq_true, zl0, zl1, zl2, zl3, zl4, zl5, zl6, zl7, zl8, zl9, zl10, zl11, zl12, zl20, zl24, zl31, zl36, zl40, zl42, zl44, zl48, zl49, zl50, zl55, zl57, zl60, zl97, zl99, zl100, zl102, zl104, zl109, zl113, zl114, zl119, zl126, zl255, zl400, zl1000, zl101, zl103, zl1001, zl1002, zl16, zl18, zl32, zl35, zl443, n_leT, n_leF, n_ltT, n_ltF, n_eqT, n_eqF, n_swT, n_swF, nI_add, n_sub, pk_mul, zd_n, h0, r4, c1, er, l4]
  have l2 : ∀ h, F_X10_withCup_L47 n (zwi S f) 0 h (nI 0) = some (mF (f 97) (mF (fun r => qSecond H r (gW f)) (dRd f H h R) R) R, zwi S f) := fun h => by
    unfold F_X10_withCup_L47
    refine zfor0 (fun i => (zwi S f, dRd f H h i, nI i)) R rfl (fun kc i hi => ?_) (fun kc => ?_) (by omega)
    · simp (disch := omega) only [F_X10_withCup_B47, zv, e_gi, e_gr, e_gl, e_si, e_sb, e_ai, e_ar, e_ti, e_ty, e_tz, e_cv, zc_some, zmo_some, zin_T, ↓reduceIte, zit_succ, zzr0, zzr1, true_and, and_true, and_self, or_false, false_or, or_true, true_or, not_true_eq_false, not_false_eq_true, zl0, zl1, zl2, zl3, zl4, zl5, zl6, zl7, zl8, zl9, zl10, zl11, zl12, zl20, zl24, zl31, zl36, zl40, zl42, zl44, zl48, zl49, zl50, zl55, zl57, zl60, zl97, zl99, zl100, zl102, zl104, zl109, zl113, zl114, zl119, zl126, zl255, zl400, zl1000, zl101, zl103, zl1001, zl1002, zl16, zl18, zl32, zl35, zl443, n_leT, n_leF, n_ltT, n_ltF, n_eqT, n_eqF, n_swT, n_swF, nI_add, n_sub, pk_mul, zd_n, h0, r4, c1, er]
      unfold F_X10_withCup_L62
      rw [dRd_s]
      refine zfor0 (fun j => (zwi S f, mF (fun k => f 87 (4 * i + k)) (dRd f H h i) j, nI j)) H rfl (fun kd j hj => ?_) (fun kd => ?_) (by omega)
      · have b5' := b5 i (by omega)
        have b6' := b6 i (by omega)
        have w1 : f (33 + 2 + i) j = f 87 (4 * i + j) := hbr.1 i j (by omega) (by omega)
        simp (disch := omega) only [F_X10_withCup_B62, zv, e_gi, e_gr, e_gl, e_si, e_sb, e_ai, e_ar, e_ti, e_ty, e_tz, e_cv, zc_some, zmo_some, zin_T, ↓reduceIte, zit_succ, zzr0, zzr1, true_and, and_true, and_self, or_false, false_or, or_true, true_or, not_true_eq_false, not_false_eq_true, zl0, zl1, zl2, zl3, zl4, zl5, zl6, zl7, zl8, zl9, zl10, zl11, zl12, zl20, zl24, zl31, zl36, zl40, zl42, zl44, zl48, zl49, zl50, zl55, zl57, zl60, zl97, zl99, zl100, zl102, zl104, zl109, zl113, zl114, zl119, zl126, zl255, zl400, zl1000, zl101, zl103, zl1001, zl1002, zl16, zl18, zl32, zl35, zl443, n_leT, n_leF, n_ltT, n_ltF, n_eqT, n_eqF, n_swT, n_swF, nI_add, n_sub, pk_mul, zd_n, h0, r4, c1, eh, r14, b1, b2, b4, b5', b6', w1, mF_s]
      · simp (disch := omega) only [F_X10_withCup_B62, zv, e_gi, e_gr, e_gl, e_si, e_sb, e_ai, e_ar, e_ti, e_ty, e_tz, e_cv, zc_some, zmo_some, zin_T, ↓reduceIte, zit_succ, zzr0, zzr1, true_and, and_true, and_self, or_false, false_or, or_true, true_or, not_true_eq_false, not_false_eq_true, zl0, zl1, zl2, zl3, zl4, zl5, zl6, zl7, zl8, zl9, zl10, zl11, zl12, zl20, zl24, zl31, zl36, zl40, zl42, zl44, zl48, zl49, zl50, zl55, zl57, zl60, zl97, zl99, zl100, zl102, zl104, zl109, zl113, zl114, zl119, zl126, zl255, zl400, zl1000, zl101, zl103, zl1001, zl1002, zl16, zl18, zl32, zl35, zl443, n_leT, n_leF, n_ltT, n_ltF, n_eqT, n_eqF, n_swT, n_swF, nI_add, n_sub, pk_mul, zd_n, h0, r4, c1, eh]
    · simp (disch := omega) only [F_X10_withCup_B47, zv, e_gi, e_gr, e_gl, e_si, e_sb, e_ai, e_ar, e_ti, e_ty, e_tz, e_cv, zc_some, zmo_some, zin_T, ↓reduceIte, zit_succ, zzr0, zzr1, true_and, and_true, and_self, or_false, false_or, or_true, true_or, not_true_eq_false, not_false_eq_true, zl0, zl1, zl2, zl3, zl4, zl5, zl6, zl7, zl8, zl9, zl10, zl11, zl12, zl20, zl24, zl31, zl36, zl40, zl42, zl44, zl48, zl49, zl50, zl55, zl57, zl60, zl97, zl99, zl100, zl102, zl104, zl109, zl113, zl114, zl119, zl126, zl255, zl400, zl1000, zl101, zl103, zl1001, zl1002, zl16, zl18, zl32, zl35, zl443, n_leT, n_leF, n_ltT, n_ltF, n_eqT, n_eqF, n_swT, n_swF, nI_add, n_sub, pk_mul, zd_n, h0, r4, c1, er, l3]
  unfold F_X10_withCup
  rw [e_cv, if_pos h0, eC, zc_some, if_neg (show ¬ nI 1 = (0 : Int32) by decide)]
  unfold F_X10_withCup_L14 dCup
  refine zfor0 (fun i => (zwi S f, mF (f 86) h i, nI i)) 6 rfl (fun kc i hi => ?_) (fun kc => ?_) (by omega)
  · have w1 := hc6 i (by omega)
    simp (disch := omega) only [F_X10_withCup_B14, zv, e_gi, e_gr, e_gl, e_si, e_sb, e_ai, e_ar, e_ti, e_ty, e_tz, e_cv, zc_some, zmo_some, zin_T, ↓reduceIte, zit_succ, zzr0, zzr1, true_and, and_true, and_self, or_false, false_or, or_true, true_or, not_true_eq_false, not_false_eq_true, zl0, zl1, zl2, zl3, zl4, zl5, zl6, zl7, zl8, zl9, zl10, zl11, zl12, zl20, zl24, zl31, zl36, zl40, zl42, zl44, zl48, zl49, zl50, zl55, zl57, zl60, zl97, zl99, zl100, zl102, zl104, zl109, zl113, zl114, zl119, zl126, zl255, zl400, zl1000, zl101, zl103, zl1001, zl1002, zl16, zl18, zl32, zl35, zl443, n_leT, n_leF, n_ltT, n_ltF, n_eqT, n_eqF, n_swT, n_swF, nI_add, n_sub, pk_mul, zd_n, h0, r4, c1, c2, c3, w1, mF_s]
  · simp (disch := omega) only [F_X10_withCup_B14, zv, e_gi, e_gr, e_gl, e_si, e_sb, e_ai, e_ar, e_ti, e_ty, e_tz, e_cv, zc_some, zmo_some, zin_T, ↓reduceIte, zit_succ, zzr0, zzr1, true_and, and_true, and_self, or_false, false_or, or_true, true_or, not_true_eq_false, not_false_eq_true, zl0, zl1, zl2, zl3, zl4, zl5, zl6, zl7, zl8, zl9, zl10, zl11, zl12, zl20, zl24, zl31, zl36, zl40, zl42, zl44, zl48, zl49, zl50, zl55, zl57, zl60, zl97, zl99, zl100, zl102, zl104, zl109, zl113, zl114, zl119, zl126, zl255, zl400, zl1000, zl101, zl103, zl1001, zl1002, zl16, zl18, zl32, zl35, zl443, n_leT, n_leF, n_ltT, n_ltF, n_eqT, n_eqF, n_swT, n_swF, nI_add, n_sub, pk_mul, zd_n, l2]
theorem eC_dDo (n : Nat) {S : zH} {f : Nat → Nat → Int32} {c c' r r' tr nd : Nat} {da : Nat → Nat} {h : Int64} (hn : 513 < n) (hS : zKl S c c' r r' tr) (hdo : I_do S f nd da) : F_X10_withDoings n (zwi S f) 0 h = some (mG (f 89) (f 90) h nd, zwi S f) := by
  obtain ⟨d1, d2, d3, d4, d5, d6⟩ := hdo
  have h0 : zsh S 0 = some (9, 20) := cl_s0 hS
  unfold F_X10_withDoings F_X10_withDoings_L5
  refine zfor0 (fun i => (zwi S f, mG (f 89) (f 90) h i, nI i)) nd rfl (fun kc i hi => ?_) (fun kc => ?_) (by omega)
  · obtain ⟨k1, k2, k3, k4, k5, k6, -, -⟩ := d6 i hi
    have eh := eC_hasDoing n (nI i) h0 d2
    rw [qHas_n (by omega)] at eh
    have ed : F_X10_doingOrRest n (zwi S f) 0 (nI i) = some (da i, zwi S f) := by
      simp (disch := omega) only [F_X10_doingOrRest, F_X10_doingOrRest_J21, zv, e_gi, e_gr, e_gl, e_si, e_sb, e_ai, e_ar, e_ti, e_ty, e_tz, e_cv, zc_some, zmo_some, zin_T, ↓reduceIte, zit_succ, zzr0, zzr1, true_and, and_true, and_self, or_false, false_or, or_true, true_or, not_true_eq_false, not_false_eq_true, zl0, zl1, zl2, zl3, zl4, zl5, zl6, zl7, zl8, zl9, zl10, zl11, zl12, zl20, zl24, zl31, zl36, zl40, zl42, zl44, zl48, zl49, zl50, zl55, zl57, zl60, zl97, zl99, zl100, zl102, zl104, zl109, zl113, zl114, zl119, zl126, zl255, zl400, zl1000, zl101, zl103, zl1001, zl1002, zl16, zl18, zl32, zl35, zl443, n_leT, n_leF, n_ltT, n_ltF, n_eqT, n_eqF, n_swT, n_swF, nI_add, n_sub, pk_mul, zd_n, h0, eh, cl_r0_2 hS, cl_s4 hS, k1]
    simp (disch := omega) only [F_X10_withDoings_B5, zv, e_gi, e_gr, e_gl, e_si, e_sb, e_ai, e_ar, e_ti, e_ty, e_tz, e_cv, zc_some, zmo_some, zin_T, ↓reduceIte, zit_succ, zzr0, zzr1, true_and, and_true, and_self, or_false, false_or, or_true, true_or, not_true_eq_false, not_false_eq_true, zl0, zl1, zl2, zl3, zl4, zl5, zl6, zl7, zl8, zl9, zl10, zl11, zl12, zl20, zl24, zl31, zl36, zl40, zl42, zl44, zl48, zl49, zl50, zl55, zl57, zl60, zl97, zl99, zl100, zl102, zl104, zl109, zl113, zl114, zl119, zl126, zl255, zl400, zl1000, zl101, zl103, zl1001, zl1002, zl16, zl18, zl32, zl35, zl443, n_leT, n_leF, n_ltT, n_ltF, n_eqT, n_eqF, n_swT, n_swF, nI_add, n_sub, pk_mul, zd_n, h0, d2, ed, k2, k5, k6, mG_s]
  · simp (disch := omega) only [F_X10_withDoings_B5, zv, e_gi, e_gr, e_gl, e_si, e_sb, e_ai, e_ar, e_ti, e_ty, e_tz, e_cv, zc_some, zmo_some, zin_T, ↓reduceIte, zit_succ, zzr0, zzr1, true_and, and_true, and_self, or_false, false_or, or_true, true_or, not_true_eq_false, not_false_eq_true, zl0, zl1, zl2, zl3, zl4, zl5, zl6, zl7, zl8, zl9, zl10, zl11, zl12, zl20, zl24, zl31, zl36, zl40, zl42, zl44, zl48, zl49, zl50, zl55, zl57, zl60, zl97, zl99, zl100, zl102, zl104, zl109, zl113, zl114, zl119, zl126, zl255, zl400, zl1000, zl101, zl103, zl1001, zl1002, zl16, zl18, zl32, zl35, zl443, n_leT, n_leF, n_ltT, n_ltF, n_eqT, n_eqF, n_swT, n_swF, nI_add, n_sub, pk_mul, zd_n, h0, d2]
theorem eC_dLv (n : Nat) {S : zH} {f : Nat → Nat → Int32} {c c' r r' tr R H cu nl : Nat} {h : Int64} (hn : 513 < n) (hS : zKl S c c' r r' tr) (hcu : I_cu f c R H cu) (hlv : I_lv f R nl) (hbr : I_br f R H) : F_X10_withLeaves n (zwi S f) 0 h = some (dLv f H h nl, zwi S f) := by
  have h0 : zsh S 0 = some (9, 20) := cl_s0 hS
  have r12 : zr S 0 12 = some 23 := cl_r0_12 hS
  have s23 : zsh S 23 = some (4, 5) := cl_sl hS
  have l3 := hlv.2.2.1
  have l1 := hlv.1
  have l2 := hlv.2.1
  have hcc := cl_cc hS
  obtain ⟨hc6, hR0, hH0, hRH, -⟩ := hcu
  have hR1 : f (c + 1) 0 = nI R := (hc6 0 (by omega)).trans hR0
  have hH1 : f (c + 1) 1 = nI H := (hc6 1 (by omega)).trans hH0
  unfold F_X10_withLeaves F_X10_withLeaves_L5
  refine zfor0 (fun i => (zwi S f, dLv f H h i, nI i)) nl rfl (fun kc i hi => ?_) (fun kc => ?_) (by omega)
  · simp (disch := omega) only [F_X10_withLeaves_B5, zv, e_gi, e_gr, e_gl, e_si, e_sb, e_ai, e_ar, e_ti, e_ty, e_tz, e_cv, zc_some, zmo_some, zin_T, ↓reduceIte, zit_succ, zzr0, zzr1, true_and, and_true, and_self, or_false, false_or, or_true, true_or, not_true_eq_false, not_false_eq_true, zl0, zl1, zl2, zl3, zl4, zl5, zl6, zl7, zl8, zl9, zl10, zl11, zl12, zl20, zl24, zl31, zl36, zl40, zl42, zl44, zl48, zl49, zl50, zl55, zl57, zl60, zl97, zl99, zl100, zl102, zl104, zl109, zl113, zl114, zl119, zl126, zl255, zl400, zl1000, zl101, zl103, zl1001, zl1002, zl16, zl18, zl32, zl35, zl443, n_leT, n_leF, n_ltT, n_ltF, n_eqT, n_eqF, n_swT, n_swF, nI_add, n_sub, pk_mul, zd_n, h0, r12, s23, l3]
    unfold F_X10_withLeaves_L20
    rw [dLv_s]
    refine zfor0 (fun j => (zwi S f, mF (qAbout f H i) (dLv f H h i) j, nI j)) 6 rfl (fun kd j hj => ?_) (fun kd => ?_) (by omega)
    · have ea := eC_about n (a := j) hn hS hR1 (by omega) hH1 (by omega) (by omega) hlv hbr hi (by omega)
      simp (disch := omega) only [F_X10_withLeaves_B20, zv, e_gi, e_gr, e_gl, e_si, e_sb, e_ai, e_ar, e_ti, e_ty, e_tz, e_cv, zc_some, zmo_some, zin_T, ↓reduceIte, zit_succ, zzr0, zzr1, true_and, and_true, and_self, or_false, false_or, or_true, true_or, not_true_eq_false, not_false_eq_true, zl0, zl1, zl2, zl3, zl4, zl5, zl6, zl7, zl8, zl9, zl10, zl11, zl12, zl20, zl24, zl31, zl36, zl40, zl42, zl44, zl48, zl49, zl50, zl55, zl57, zl60, zl97, zl99, zl100, zl102, zl104, zl109, zl113, zl114, zl119, zl126, zl255, zl400, zl1000, zl101, zl103, zl1001, zl1002, zl16, zl18, zl32, zl35, zl443, n_leT, n_leF, n_ltT, n_ltF, n_eqT, n_eqF, n_swT, n_swF, nI_add, n_sub, pk_mul, zd_n, h0, ea, mF_s]
    · simp (disch := omega) only [F_X10_withLeaves_B20, zv, e_gi, e_gr, e_gl, e_si, e_sb, e_ai, e_ar, e_ti, e_ty, e_tz, e_cv, zc_some, zmo_some, zin_T, ↓reduceIte, zit_succ, zzr0, zzr1, true_and, and_true, and_self, or_false, false_or, or_true, true_or, not_true_eq_false, not_false_eq_true, zl0, zl1, zl2, zl3, zl4, zl5, zl6, zl7, zl8, zl9, zl10, zl11, zl12, zl20, zl24, zl31, zl36, zl40, zl42, zl44, zl48, zl49, zl50, zl55, zl57, zl60, zl97, zl99, zl100, zl102, zl104, zl109, zl113, zl114, zl119, zl126, zl255, zl400, zl1000, zl101, zl103, zl1001, zl1002, zl16, zl18, zl32, zl35, zl443, n_leT, n_leF, n_ltT, n_ltF, n_eqT, n_eqF, n_swT, n_swF, nI_add, n_sub, pk_mul, zd_n]
  · simp (disch := omega) only [F_X10_withLeaves_B5, zv, e_gi, e_gr, e_gl, e_si, e_sb, e_ai, e_ar, e_ti, e_ty, e_tz, e_cv, zc_some, zmo_some, zin_T, ↓reduceIte, zit_succ, zzr0, zzr1, true_and, and_true, and_self, or_false, false_or, or_true, true_or, not_true_eq_false, not_false_eq_true, zl0, zl1, zl2, zl3, zl4, zl5, zl6, zl7, zl8, zl9, zl10, zl11, zl12, zl20, zl24, zl31, zl36, zl40, zl42, zl44, zl48, zl49, zl50, zl55, zl57, zl60, zl97, zl99, zl100, zl102, zl104, zl109, zl113, zl114, zl119, zl126, zl255, zl400, zl1000, zl101, zl103, zl1001, zl1002, zl16, zl18, zl32, zl35, zl443, n_leT, n_leF, n_ltT, n_ltF, n_eqT, n_eqF, n_swT, n_swF, nI_add, n_sub, pk_mul, zd_n, h0, r12, s23, l3]
theorem eC_dPi (n : Nat) {S : zH} {f : Nat → Nat → Int32} {c c' r r' tr np : Nat} {h : Int64} (hn : 513 < n) (hS : zKl S c c' r r' tr) (hpi : I_pi f np) : F_X10_withPictures n (zwi S f) 0 h = some (mG (f 101) (f 102) h np, zwi S f) := by
  obtain ⟨p1, p2, p3, p4⟩ := hpi
  have h0 : zsh S 0 = some (9, 20) := cl_s0 hS
  have r19 : zr S 0 19 = some 64 := cl_r0_19 hS
  have s64 : zsh S 64 = some (6, 3) := cl_s64 hS
  unfold F_X10_withPictures F_X10_withPictures_L5
  refine zfor0 (fun i => (zwi S f, mG (f 101) (f 102) h i, nI i)) np rfl (fun kc i hi => ?_) (fun kc => ?_) (by omega)
  · obtain ⟨y1, y2, -⟩ := p4 i hi
    simp (disch := omega) only [F_X10_withPictures_B5, zv, e_gi, e_gr, e_gl, e_si, e_sb, e_ai, e_ar, e_ti, e_ty, e_tz, e_cv, zc_some, zmo_some, zin_T, ↓reduceIte, zit_succ, zzr0, zzr1, true_and, and_true, and_self, or_false, false_or, or_true, true_or, not_true_eq_false, not_false_eq_true, zl0, zl1, zl2, zl3, zl4, zl5, zl6, zl7, zl8, zl9, zl10, zl11, zl12, zl20, zl24, zl31, zl36, zl40, zl42, zl44, zl48, zl49, zl50, zl55, zl57, zl60, zl97, zl99, zl100, zl102, zl104, zl109, zl113, zl114, zl119, zl126, zl255, zl400, zl1000, zl101, zl103, zl1001, zl1002, zl16, zl18, zl32, zl35, zl443, n_leT, n_leF, n_ltT, n_ltF, n_eqT, n_eqF, n_swT, n_swF, nI_add, n_sub, pk_mul, zd_n, h0, r19, s64, p2, cl_r64_0 hS, cl_r64_1 hS, cl_s65 hS, cl_s66 hS, y1, y2, mG_s]
  · simp (disch := omega) only [F_X10_withPictures_B5, zv, e_gi, e_gr, e_gl, e_si, e_sb, e_ai, e_ar, e_ti, e_ty, e_tz, e_cv, zc_some, zmo_some, zin_T, ↓reduceIte, zit_succ, zzr0, zzr1, true_and, and_true, and_self, or_false, false_or, or_true, true_or, not_true_eq_false, not_false_eq_true, zl0, zl1, zl2, zl3, zl4, zl5, zl6, zl7, zl8, zl9, zl10, zl11, zl12, zl20, zl24, zl31, zl36, zl40, zl42, zl44, zl48, zl49, zl50, zl55, zl57, zl60, zl97, zl99, zl100, zl102, zl104, zl109, zl113, zl114, zl119, zl126, zl255, zl400, zl1000, zl101, zl103, zl1001, zl1002, zl16, zl18, zl32, zl35, zl443, n_leT, n_leF, n_ltT, n_ltF, n_eqT, n_eqF, n_swT, n_swF, nI_add, n_sub, pk_mul, zd_n, h0, r19, s64, p2]
theorem eC_dRv (n : Nat) {S : zH} {f : Nat → Nat → Int32} {c c' r r' tr pt : Nat} {h : Int64} (hn : 513 < n) (hS : zKl S c c' r r' tr) (hrv : I_rv f r pt) : F_X10_withRiver n (zwi S f) 0 h = some (mG (f 103) (f 104) h pt, zwi S f) := by
  obtain ⟨p0, p1, p2, p3, p4⟩ := hrv
  have h0 : zsh S 0 = some (9, 20) := cl_s0 hS
  have r7 : zr S 0 7 = some r := cl_r hS
  obtain ⟨c1, c2, c3, c4, c5, c6, c7, c8, c9⟩ := cl_Rv hS
  unfold F_X10_withRiver F_X10_withRiver_L5
  refine zfor0 (fun i => (zwi S f, mG (f 103) (f 104) h i, nI i)) pt rfl (fun kc i hi => ?_) (fun kc => ?_) (by omega)
  · obtain ⟨y1, y2, -, y3⟩ := p4 i hi
    rcases y3 with y3 | y3
    · simp (disch := omega) only [F_X10_withRiver_B5, F_X10_withRiver_J58, zv, e_gi, e_gr, e_gl, e_si, e_sb, e_ai, e_ar, e_ti, e_ty, e_tz, e_cv, zc_some, zmo_some, zin_T, ↓reduceIte, zit_succ, zzr0, zzr1, true_and, and_true, and_self, or_false, false_or, or_true, true_or, not_true_eq_false, not_false_eq_true, zl0, zl1, zl2, zl3, zl4, zl5, zl6, zl7, zl8, zl9, zl10, zl11, zl12, zl20, zl24, zl31, zl36, zl40, zl42, zl44, zl48, zl49, zl50, zl55, zl57, zl60, zl97, zl99, zl100, zl102, zl104, zl109, zl113, zl114, zl119, zl126, zl255, zl400, zl1000, zl101, zl103, zl1001, zl1002, zl16, zl18, zl32, zl35, zl443, n_leT, n_leF, n_ltT, n_ltF, n_eqT, n_eqF, n_swT, n_swF, nI_add, n_sub, pk_mul, zd_n, h0, r7, c1, c2, c3, c6, c7, p2, y1, y2, y3, mG_s]
    · simp (disch := omega) only [F_X10_withRiver_B5, F_X10_withRiver_J58, zv, e_gi, e_gr, e_gl, e_si, e_sb, e_ai, e_ar, e_ti, e_ty, e_tz, e_cv, zc_some, zmo_some, zin_T, ↓reduceIte, zit_succ, zzr0, zzr1, true_and, and_true, and_self, or_false, false_or, or_true, true_or, not_true_eq_false, not_false_eq_true, zl0, zl1, zl2, zl3, zl4, zl5, zl6, zl7, zl8, zl9, zl10, zl11, zl12, zl20, zl24, zl31, zl36, zl40, zl42, zl44, zl48, zl49, zl50, zl55, zl57, zl60, zl97, zl99, zl100, zl102, zl104, zl109, zl113, zl114, zl119, zl126, zl255, zl400, zl1000, zl101, zl103, zl1001, zl1002, zl16, zl18, zl32, zl35, zl443, n_leT, n_leF, n_ltT, n_ltF, n_eqT, n_eqF, n_swT, n_swF, nI_add, n_sub, pk_mul, zd_n, h0, r7, c1, c2, c3, c6, c7, p2, y1, y2, y3, mG_s]
  · simp (disch := omega) only [F_X10_withRiver_B5, zv, e_gi, e_gr, e_gl, e_si, e_sb, e_ai, e_ar, e_ti, e_ty, e_tz, e_cv, zc_some, zmo_some, zin_T, ↓reduceIte, zit_succ, zzr0, zzr1, true_and, and_true, and_self, or_false, false_or, or_true, true_or, not_true_eq_false, not_false_eq_true, zl0, zl1, zl2, zl3, zl4, zl5, zl6, zl7, zl8, zl9, zl10, zl11, zl12, zl20, zl24, zl31, zl36, zl40, zl42, zl44, zl48, zl49, zl50, zl55, zl57, zl60, zl97, zl99, zl100, zl102, zl104, zl109, zl113, zl114, zl119, zl126, zl255, zl400, zl1000, zl101, zl103, zl1001, zl1002, zl16, zl18, zl32, zl35, zl443, n_leT, n_leF, n_ltT, n_ltF, n_eqT, n_eqF, n_swT, n_swF, nI_add, n_sub, pk_mul, zd_n, h0, r7, c1, p2]
theorem eC_dRw (n : Nat) {S : zH} {f : Nat → Nat → Int32} {g c c' r r' tr pl nd R H cu nl nr np pt fi : Nat} {da ra : Nat → Nat} {h : Int64} (hn : 513 < n) (hI : zI S f g c c' r r' tr pl nd da R H cu nl nr ra np pt fi) :
    ∃ F, F_X10_withRows n (zwi S f) 0 h = some (dRw f R H nd nl h nr, zwi S F) ∧ ∀ a j, a < 44 ∨ 50 < a → F a j = f a j := by
  have hI' := hI
  obtain ⟨hS, hpg, hdo, hcu, hg, hlv, hbr, hwa, hrw, hpi, hrv, hfi, him⟩ := hI
  have h0 : zsh S 0 = some (9, 20) := cl_s0 hS
  have r12 : zr S 0 12 = some 23 := cl_r0_12 hS
  have s23 : zsh S 23 = some (4, 5) := cl_sl hS
  have r9 : zr S 0 9 = some 19 := cl_r0_9 hS
  have s19 : zsh S 19 = some (25, 6) := cl_s19 hS
  have r15 : zr S 0 15 = some 42 := cl_r0_15 hS
  obtain ⟨b1, b2, b3, b4, b5, b6, b7⟩ := cl_t hS
  have l1 := hlv.1
  have l2 := hlv.2.1
  have l3 := hlv.2.2.1
  have w1 := hrw.1
  have w2 := hrw.2.1
  have w4 := hrw.2.2.2
  have htz := cl_tz hS
  have htt := cl_tt hS
  have hRH := hcu.2.2.2.1
  unfold F_X10_withRows F_X10_withRows_L5
  have key9 := zforE (body := fun kc x => F_X10_withRows_B5 n kc x.1 0 x.2.1 x.2.2) (fun i x => ∃ F, x = (zwi S F, dRw f R H nd nl h i, nI i) ∧ ∀ a j, a < 44 ∨ 50 < a → F a j = f a j) nr (Q := fun x => ∃ F, x = some (dRw f R H nd nl h nr, zwi S F) ∧ ∀ a j, a < 44 ∨ 50 < a → F a j = f a j) (fun k x hk hx => ?_) (fun x hx => ?_) (n := n) (by omega) (x := (zwi S f, h, (0 : Int32))) ⟨f, rfl, fun _ _ _ => rfl⟩
  · obtain ⟨x, ⟨F, e1, e3⟩, e2⟩ := key9
    exact ⟨F, by rw [e2, e1], e3⟩
  · obtain ⟨F, rfl, hF⟩ := hx
    obtain ⟨k1, k2, k3, k4, it, q1, q2, q3, q4⟩ := w4 k hk
    obtain ⟨a1, a2, a3, a4, a5⟩ := k2
    have fl : F 23 4 = nI nl := (hF 23 4 (by omega)).trans l3
    have fr : F 0 11 = nI nr := (hF 0 11 (by omega)).trans w2
    have fk : F (ra k) 2 = nI it := (hF _ _ (by omega)).trans q2
    have fe : (f 98 k).toNatClampNeg = it := by rw [q3, n_clamp (by omega)]
    -- where the leaves end
    have l5 : ∀ (kc : zH × Int64 × Int32 → Option (Int64 × zH)) (F' : Nat → Nat → Int32) (h : Int64), F' 23 4 = nI nl → (∀ l, l < nl → F' 50 l = qE f R H nd k l) → F_X10_withRows_L110 n kc (zwi S F') 0 h (nI k) (nI 0) = kc (zwi S F', mF (qE f R H nd k) h nl, nI (k + 1)) := fun kc F' h hl' hq => by
      unfold F_X10_withRows_L110
      refine zfor0 (fun j => (zwi S F', mF (qE f R H nd k) h j, nI j)) nl rfl (fun kd j hj => ?_) (fun kd => ?_) (by omega)
      · have := hq j hj
        simp (disch := omega) only [F_X10_withRows_B110, zv, e_gi, e_gr, e_gl, e_si, e_sb, e_ai, e_ar, e_ti, e_ty, e_tz, e_cv, zc_some, zmo_some, zin_T, ↓reduceIte, zit_succ, zzr0, zzr1, true_and, and_true, and_self, or_false, false_or, or_true, true_or, not_true_eq_false, not_false_eq_true, zl0, zl1, zl2, zl3, zl4, zl5, zl6, zl7, zl8, zl9, zl10, zl11, zl12, zl20, zl24, zl31, zl36, zl40, zl42, zl44, zl48, zl49, zl50, zl55, zl57, zl60, zl97, zl99, zl100, zl102, zl104, zl109, zl113, zl114, zl119, zl126, zl255, zl400, zl1000, zl101, zl103, zl1001, zl1002, zl16, zl18, zl32, zl35, zl443, n_leT, n_leF, n_ltT, n_ltF, n_eqT, n_eqF, n_swT, n_swF, nI_add, n_sub, pk_mul, zd_n, h0, r12, s23, hl', r15, b1, b3, b7, this, mF_s]
      · simp (disch := omega) only [F_X10_withRows_B110, zv, e_gi, e_gr, e_gl, e_si, e_sb, e_ai, e_ar, e_ti, e_ty, e_tz, e_cv, zc_some, zmo_some, zin_T, ↓reduceIte, zit_succ, zzr0, zzr1, true_and, and_true, and_self, or_false, false_or, or_true, true_or, not_true_eq_false, not_false_eq_true, zl0, zl1, zl2, zl3, zl4, zl5, zl6, zl7, zl8, zl9, zl10, zl11, zl12, zl20, zl24, zl31, zl36, zl40, zl42, zl44, zl48, zl49, zl50, zl55, zl57, zl60, zl97, zl99, zl100, zl102, zl104, zl109, zl113, zl114, zl119, zl126, zl255, zl400, zl1000, zl101, zl103, zl1001, zl1002, zl16, zl18, zl32, zl35, zl443, n_leT, n_leF, n_ltT, n_ltF, n_eqT, n_eqF, n_swT, n_swF, nI_add, n_sub, pk_mul, zd_n, h0, r12, s23, hl']
    have ex : ∃ F', (∀ (kc : zH × Int64 × Int32 → Option (Int64 × zH)) (h : Int64), F_X10_withRows_L39 n kc (zwi S F) 0 h (nI k) (ra k) (nI 0) = kc (zwi S F', mF (qE f R H nd k) (mG (fun i => f 99 (6 * k + i)) (fun i => f 100 (6 * k + i)) h it) nl, nI (k + 1))) ∧ ∀ a j, a < 44 ∨ 50 < a → F' a j = f a j := by
      have step : ∀ (kc kd : zH × Int64 × Int32 → Option (Int64 × zH)) (h : Int64) (i : Nat), i < it → F_X10_withRows_B39 n kc kd (zwi S F) 0 (mG (fun i => f 99 (6 * k + i)) (fun i => f 100 (6 * k + i)) h i) (nI k) (ra k) (nI i) = kd (zwi S F, mG (fun i => f 99 (6 * k + i)) (fun i => f 100 (6 * k + i)) h (i + 1), nI (i + 1)) := fun kc kd h i hi => by
        obtain ⟨y1, y2, -⟩ := q4 i hi
        have z1' := (hF (ra k + 1) i (by omega)).trans y1
        have z2' := (hF (ra k + 2) i (by omega)).trans y2
        have hlt : ¬ nI it ≤ nI i := nI_ge (by omega) (by omega)
        rw [mG_s]
        unfold F_X10_withRows_B39
        rw [e_gi, if_pos a1, fk, if_neg hlt]
        simp (disch := omega) only [zv, e_gi, e_gr, e_gl, e_si, e_sb, e_ai, e_ar, e_ti, e_ty, e_tz, e_cv, zc_some, zmo_some, zin_T, ↓reduceIte, zit_succ, zzr0, zzr1, true_and, and_true, and_self, or_false, false_or, or_true, true_or, not_true_eq_false, not_false_eq_true, zl0, zl1, zl2, zl3, zl4, zl5, zl6, zl7, zl8, zl9, zl10, zl11, zl12, zl20, zl24, zl31, zl36, zl40, zl42, zl44, zl48, zl49, zl50, zl55, zl57, zl60, zl97, zl99, zl100, zl102, zl104, zl109, zl113, zl114, zl119, zl126, zl255, zl400, zl1000, zl101, zl103, zl1001, zl1002, zl16, zl18, zl32, zl35, zl443, n_leT, n_leF, n_ltT, n_ltF, n_eqT, n_eqF, n_swT, n_swF, nI_add, n_sub, pk_mul, zd_n, a1, a2, a3, a4, a5, z1', z2']
      by_cases hn0 : nl = 0
      · refine ⟨F, fun kc h => ?_, hF⟩
        unfold F_X10_withRows_L39
        refine zfor0 (fun i => (zwi S F, mG (fun i => f 99 (6 * k + i)) (fun i => f 100 (6 * k + i)) h i, nI i)) it rfl (fun kd i hi => step kc kd h i hi) (fun kd => ?_) (by omega)
        have := fun h => l5 kc F h fl (fun l hl => by omega)
        dsimp only
        unfold F_X10_withRows_B39
        rw [e_gi, if_pos a1, fk, if_pos (nI_le (Nat.le_refl _) (by omega)), e_gr, if_pos h0, r12, zmo_some, e_gi, if_pos s23, fl, if_pos (show nI nl ≤ (0 : Int32) by rw [hn0]; decide)]
        unfold F_X10_withRows_J107
        exact this _
      · obtain ⟨F', t1, t2, t3, -⟩ := tC n hn hI' (by omega) hk hF
        refine ⟨F', fun kc h => ?_, t2⟩
        unfold F_X10_withRows_L39
        refine zfor0 (fun i => (zwi S F, mG (fun i => f 99 (6 * k + i)) (fun i => f 100 (6 * k + i)) h i, nI i)) it rfl (fun kd i hi => step kc kd h i hi) (fun kd => ?_) (by omega)
        have := fun h => l5 kc F' h ((t2 23 4 (by omega)).trans l3) t3
        have hlt : ¬ nI nl ≤ (0 : Int32) := show ¬ nI nl ≤ nI 0 from nI_ge (by omega) (by omega)
        dsimp only
        unfold F_X10_withRows_B39
        rw [e_gi, if_pos a1, fk, if_pos (nI_le (Nat.le_refl _) (by omega)), e_gr, if_pos h0, r12, zmo_some, e_gi, if_pos s23, fl, if_neg hlt, e_gr, if_pos h0, r12, zmo_some, e_cv, if_pos h0, t1.1, zc_some]
        unfold F_X10_withRows_J107
        exact this _
    obtain ⟨F', x1, x2⟩ := ex
    refine ⟨_, ⟨F', rfl, x2⟩, fun kc => ?_⟩
    rw [dRw_s]
    unfold dRow
    rw [fe, q3]
    have hlt : ¬ nI nr ≤ nI k := nI_ge hk (by omega)
    dsimp only
    unfold F_X10_withRows_B5
    rw [e_gi, if_pos h0, fr, if_neg hlt, e_gr, if_pos h0, r9, zmo_some, e_ar _ _ _ _ _ _ (by omega), s19, zin_T (show k < 6 by omega), if_pos rfl, k1, zmo_some]
    dsimp only [zv]
    rw [e_gi, if_pos a1, fk]
    exact x1 kc _
  · obtain ⟨F, rfl, hF⟩ := hx
    have fr : F 0 11 = nI nr := (hF 0 11 (by omega)).trans w2
    exact ⟨_, ⟨F, rfl, hF⟩, fun kc => by simp (disch := omega) only [F_X10_withRows_B5, zv, e_gi, e_gr, e_gl, e_si, e_sb, e_ai, e_ar, e_ti, e_ty, e_tz, e_cv, zc_some, zmo_some, zin_T, ↓reduceIte, zit_succ, zzr0, zzr1, true_and, and_true, and_self, or_false, false_or, or_true, true_or, not_true_eq_false, not_false_eq_true, zl0, zl1, zl2, zl3, zl4, zl5, zl6, zl7, zl8, zl9, zl10, zl11, zl12, zl20, zl24, zl31, zl36, zl40, zl42, zl44, zl48, zl49, zl50, zl55, zl57, zl60, zl97, zl99, zl100, zl102, zl104, zl109, zl113, zl114, zl119, zl126, zl255, zl400, zl1000, zl101, zl103, zl1001, zl1002, zl16, zl18, zl32, zl35, zl443, n_leT, n_leF, n_ltT, n_ltF, n_eqT, n_eqF, n_swT, n_swF, nI_add, n_sub, pk_mul, zd_n, h0, fr]⟩
