/-! ===== the drag pictures ===== -/
def qDs (K : Nat) (off : Nat → Int32) (i : Nat) : Int32 × Int32 := if i = 0 then (nI 0, nI K) else (nI (qBe off (i - 1)).1, (qBe off (i - 1)).2)
theorem qDs_0 (K : Nat) (off : Nat → Int32) : qDs K off 0 = (nI 0, nI K) := if_pos rfl
theorem qDs_s {K : Nat} {off : Nat → Int32} (hK : 10000 ≤ K ∧ K < 2147483648) (h : ∃ k, k < 10000 ∧ off 0 = nI k) (i : Nat) : qDs K off (i + 1) = if (qDs K off i).2 ≤ off i then qDs K off i else (nI i, off i) := by
  unfold qDs
  rw [if_neg (Nat.succ_ne_zero i), Nat.add_sub_cancel]
  cases i with
  | zero =>
    obtain ⟨k, hk, e⟩ := h
    rw [if_pos rfl, e, if_neg (nI_ge (by omega) (by omega)), ← e]
    rfl
  | succ i =>
    rw [if_neg (Nat.succ_ne_zero i), Nat.add_sub_cancel, qBe_s]
    by_cases hq : (qBe off i).2 ≤ off (i + 1)
    · rw [if_pos hq, if_pos hq]
    · rw [if_neg hq, if_neg hq]
theorem qDs_K (K K' : Nat) (off : Nat → Int32) {i : Nat} (h : i ≠ 0) : qDs K off i = qDs K' off i := by
  unfold qDs
  rw [if_neg h, if_neg h]
def qDr (f : Nat → Nat → Int32) (np v : Nat) : Int32 := zit (fun p s => s + qabs (f 101 p * (nI 10 - nI v) / nI 10 - f 102 p)) (nI 0) np
theorem qDr_s (f : Nat → Nat → Int32) (np v : Nat) : qDr f (np + 1) v = qDr f np v + qabs (f 101 np * (nI 10 - nI v) / nI 10 - f 102 np) := rfl
theorem qabs_b {x : Int32} (h : -198 ≤ x.toInt ∧ x.toInt ≤ 198) : ∃ k, k ≤ 198 ∧ qabs x = nI k := by
  unfold qabs
  have e0 : (nI 0).toInt = 0 := by decide
  by_cases hx : nI 0 ≤ x
  · have := i_le hx
    rw [if_pos hx]
    refine ⟨x.toInt.toNat, by omega, i_eq ?_⟩
    rw [n_int (by omega)]
    omega
  · have := i_nle hx
    rw [if_neg hx]
    refine ⟨(-x.toInt).toNat, by omega, i_eq ?_⟩
    rw [n_int (by omega), Int32.toInt_neg, i_bm (by omega)]
    omega
theorem qb_left {x : Int32} {u : Nat} (hx : qb x) (hu : u ≤ 10) : qb (x * (nI 10 - nI u) / nI 10) := by
  obtain ⟨h1, h2⟩ := hx
  rw [n_sub hu]
  have hs : (nI (10 - u)).toInt = ((10 - u : Nat) : Int) := n_int (by omega)
  have hm := i_mulb (a := x.toInt) (b := ((10 - u : Nat) : Int)) (by omega) (by omega)
  have e2 : (x * nI (10 - u)).toInt = x.toInt * ((10 - u : Nat) : Int) := by
    rw [i_mul (by rw [hs]; omega), hs]
  have q := q_td (d := x.toInt) (s := ((10 - u : Nat) : Int)) (c := 10) (by omega) (by omega) (by omega)
  have e3 : (x * nI (10 - u) / nI 10).toInt = (x.toInt * ((10 - u : Nat) : Int)).tdiv 10 := by
    have := i_div (a := x * nI (10 - u)) (b := nI 10)
    rw [show (nI 10).toInt = 10 by decide, e2] at this
    refine this ?_
    rcases Int.le_total 0 x.toInt with z | z
    · have := q.1 z; omega
    · have := q.2 z; omega
  unfold qb
  rw [e3]
  rcases Int.le_total 0 x.toInt with z | z
  · have := q.1 z
    omega
  · have := q.2 z
    omega
theorem qDr_n {f : Nat → Nat → Int32} {v : Nat} (hv : v ≤ 10) : ∀ {np : Nat}, np ≤ 12 → (∀ p, p < np → qb (f 101 p) ∧ qb (f 102 p)) → ∃ k, k ≤ 198 * np ∧ qDr f np v = nI k
  | 0, _, _ => ⟨0, by omega, rfl⟩
  | np + 1, hn, h => by
    obtain ⟨k, h1, h2⟩ := qDr_n hv (np := np) (by omega) (fun p hp => h p (by omega))
    obtain ⟨p1, p2⟩ := h np (by omega)
    have q1 := qb_left p1 hv
    have e : (f 101 np * (nI 10 - nI v) / nI 10 - f 102 np).toInt = (f 101 np * (nI 10 - nI v) / nI 10).toInt - (f 102 np).toInt := i_sub (by unfold qb at q1 p2; omega)
    obtain ⟨z, hz, e2⟩ := qabs_b (x := f 101 np * (nI 10 - nI v) / nI 10 - f 102 np) (by unfold qb at q1 p2; omega)
    exact ⟨k + z, by omega, by rw [qDr_s, h2, e2, nI_add]⟩
theorem zq1000000 : (1000000 : Int32) = nI 1000000 := rfl
theorem zq268435456 : (268435456 : Int32) = nI 268435456 := rfl
theorem k_drag {g n : Nat} (hn : 513 < n) {h : zH} (hI : zInv g h) : zOk g (F_X10_drag n h 0) (fun h => F_X11_drag n h 85) := by
  obtain ⟨S, f, c, c', r, r', tr, pl, nd, da, R, H, cu, nl, nr, ra, np, pt, fi, rfl, hI⟩ := hI
  have hI' := hI
  obtain ⟨hS, hpg, hdo, ⟨hc6, hR, hH, hRH, hu2, hu3, hu4, hcu, hcu2⟩, hg, hlv, hbr, hwa, hrw, hpi, hrv, hfi, him⟩ := hI
  have hM := cl_M hS
  have hC := cl_Cu hS
  have hcc := cl_cc hS
  have hrr := cl_rr hS
  have htt := cl_tt hS
  have hR1 : f (c + 1) 0 = nI R := (hc6 0 (by omega)).trans hR
  have hH1 : f (c + 1) 1 = nI H := (hc6 1 (by omega)).trans hH
  have hR6 : R ≤ 6 ∧ H ≤ 4 := by rcases hRH with h | h <;> omega
  have hRk : (R = 0 ∧ f 85 1 = nI 0) ∨ (1 ≤ R ∧ R ≤ 6 ∧ f 85 1 = nI 1) := hRH.imp (fun h => ⟨h.1, h.2.2⟩) (fun h => ⟨by omega, h.2.1, h.2.2.2.2⟩)
  obtain ⟨p1, p2, p3, p4⟩ := hpi
  have h00 : ∃ k, k < 10000 ∧ qDr f np 0 = nI k := by
    obtain ⟨k, k1, k2⟩ := qDr_n (f := f) (v := 0) (by omega) p1 (fun p hp => (p4 p hp).2.2)
    exact ⟨k, by omega, k2⟩
  have c1 : ∀ v, v < 10 → F_X6_offBy n (zwi S f) 64 (nI v) = some (qDr f np v, zwi S f) := fun v hv => by
    unfold F_X6_offBy F_X6_offBy_L4
    refine zfor (fun p => (zwi S f, qDr f p v, nI p)) np (fun kc p hp => ?_) (fun kc => ?_) (by omega)
    · obtain ⟨y1, y2, -⟩ := p4 p hp
      rw [qDr_s]
      simp (disch := omega) only [F_X6_offBy_B4, F_X0_left, zv, e_gi, e_gr, e_ai, zc_some, zmo_some, zin_T, ↓reduceIte, zl0, zl1, zl10, n_leF, nI_add, zd_n, qabs_c, cl_r64_0 hS, cl_r64_1 hS, cl_s64 hS, cl_s65 hS, cl_s66 hS, p2, y1, y2]
    · simp (disch := omega) only [F_X6_offBy_B4, zv, e_gi, e_gr, e_gl, e_si, e_sb, e_ai, e_ar, e_ti, e_ty, e_tz, e_cv, zc_some, zmo_some, zin_T, ↓reduceIte, zit_succ, zzr0, zzr1, true_and, and_true, and_self, or_false, false_or, or_true, true_or, not_true_eq_false, not_false_eq_true, zl0, zl1, zl2, zl3, zl4, zl5, zl6, zl7, zl8, zl9, zl10, zl11, zl12, zl20, zl24, zl31, zl36, zl40, zl42, zl44, zl48, zl49, zl50, zl55, zl57, zl60, zl97, zl99, zl100, zl102, zl104, zl109, zl113, zl114, zl119, zl126, zl255, zl400, zl1000, zl101, zl103, zl1001, zl1002, zl16, zl18, zl32, zl35, zl443, n_leT, n_leF, n_ltT, n_ltF, n_eqT, n_eqF, n_swT, n_swF, nI_add, n_sub, pk_mul, zd_n, cl_s0 hS, cl_r0_0 hS, cl_r0_1 hS, cl_r0_2 hS, cl_r0_9 hS, cl_r0_12 hS, cl_r0_13 hS, cl_r0_14 hS, cl_r0_15 hS, cl_r0_16 hS, cl_r0_17 hS, cl_r0_19 hS, cl_r1_0 hS, cl_r51_0 hS, cl_r51_1 hS, cl_r51_2 hS, cl_r64_0 hS, cl_r64_1 hS, cl_s1 hS, cl_s2 hS, cl_s3 hS, cl_s4 hS, cl_s19 hS, cl_s51 hS, cl_s61 hS, cl_s62 hS, cl_s63 hS, cl_s64 hS, cl_s65 hS, cl_s66 hS, cl_c hS, cl_c' hS, cl_r hS, cl_r' hS, cl_tr hS, cl_sb hS, cl_st hS, cl_sk hS, cl_sl hS, cl_sw hS, cl_sc hS, cl_sc' hS, cl_sr hS, cl_sr' hS, cl_sq hS, mo_s85 hM, mo_r0 hM, mo_s86 hM, mo_r3 hM, mo_s87 hM, mo_r4 hM, mo_s88 hM, mo_r6 hM, mo_s89 hM, mo_r7 hM, mo_s90 hM, mo_r9 hM, mo_s91 hM, mo_r10 hM, mo_s92 hM, mo_r11 hM, mo_s93 hM, mo_r12 hM, mo_s94 hM, mo_r13 hM, mo_s95 hM, mo_r14 hM, mo_s96 hM, mo_r15 hM, mo_s97 hM, mo_r17 hM, mo_s98 hM, mo_r18 hM, mo_s99 hM, mo_r19 hM, mo_s100 hM, mo_r21 hM, mo_s101 hM, mo_r22 hM, mo_s102 hM, mo_r24 hM, mo_s103 hM, mo_r25 hM, mo_s104 hM, mo_r28 hM, mo_s105 hM, mo_r32 hM, mo_s106 hM, mo_r33 hM, mo_s107 hM, mo_r34 hM, mo_s108 hM, mo_r35 hM, mo_s109 hM, mo_r38 hM, mo_s110 hM, mo_r40 hM, mo_s111 hM, mo_r41 hM, mo_s112 hM, mo_r43 hM, mo_s113 hM, mo_r44 hM, mo_s114 hM, mo_r45 hM, mo_s115 hM, mo_r46 hM, mo_s116 hM, p2]
  have c2 : F_X6_bestFloor n (zwi S f) 64 = some ((qDs 1000000 (qDr f np) 10).1, zwi S f) := by
    unfold F_X6_bestFloor
    rw [zq1000000]
    unfold F_X6_bestFloor_L7
    have st0 : (zwi S f, nI 0, nI 1000000, nI 0) = (zwi S f, (qDs 1000000 (qDr f np) 0).1, (qDs 1000000 (qDr f np) 0).2, nI 0) := by rw [qDs_0]
    rw [zl0, st0]
    refine zfor (fun v => (zwi S f, (qDs 1000000 (qDr f np) v).1, (qDs 1000000 (qDr f np) v).2, nI v)) 10 (fun kc v hv => ?_) (fun kc => ?_) (by omega)
    · have e := c1 v hv
      rw [qDs_s (by omega) h00]
      by_cases hq : (qDs 1000000 (qDr f np) v).2 ≤ qDr f np v
      · simp (disch := omega) only [F_X6_bestFloor_B7, F_X6_bestFloor_J31, zv, e_gi, e_gr, e_gl, e_si, e_sb, e_ai, e_ar, e_ti, e_ty, e_tz, e_cv, zc_some, zmo_some, zin_T, ↓reduceIte, zit_succ, zzr0, zzr1, true_and, and_true, and_self, or_false, false_or, or_true, true_or, not_true_eq_false, not_false_eq_true, zl0, zl1, zl2, zl3, zl4, zl5, zl6, zl7, zl8, zl9, zl10, zl11, zl12, zl20, zl24, zl31, zl36, zl40, zl42, zl44, zl48, zl49, zl50, zl55, zl57, zl60, zl97, zl99, zl100, zl102, zl104, zl109, zl113, zl114, zl119, zl126, zl255, zl400, zl1000, zl101, zl103, zl1001, zl1002, zl16, zl18, zl32, zl35, zl443, n_leT, n_leF, n_ltT, n_ltF, n_eqT, n_eqF, n_swT, n_swF, nI_add, n_sub, pk_mul, zd_n, cl_s0 hS, cl_r0_0 hS, cl_r0_1 hS, cl_r0_2 hS, cl_r0_9 hS, cl_r0_12 hS, cl_r0_13 hS, cl_r0_14 hS, cl_r0_15 hS, cl_r0_16 hS, cl_r0_17 hS, cl_r0_19 hS, cl_r1_0 hS, cl_r51_0 hS, cl_r51_1 hS, cl_r51_2 hS, cl_r64_0 hS, cl_r64_1 hS, cl_s1 hS, cl_s2 hS, cl_s3 hS, cl_s4 hS, cl_s19 hS, cl_s51 hS, cl_s61 hS, cl_s62 hS, cl_s63 hS, cl_s64 hS, cl_s65 hS, cl_s66 hS, cl_c hS, cl_c' hS, cl_r hS, cl_r' hS, cl_tr hS, cl_sb hS, cl_st hS, cl_sk hS, cl_sl hS, cl_sw hS, cl_sc hS, cl_sc' hS, cl_sr hS, cl_sr' hS, cl_sq hS, mo_s85 hM, mo_r0 hM, mo_s86 hM, mo_r3 hM, mo_s87 hM, mo_r4 hM, mo_s88 hM, mo_r6 hM, mo_s89 hM, mo_r7 hM, mo_s90 hM, mo_r9 hM, mo_s91 hM, mo_r10 hM, mo_s92 hM, mo_r11 hM, mo_s93 hM, mo_r12 hM, mo_s94 hM, mo_r13 hM, mo_s95 hM, mo_r14 hM, mo_s96 hM, mo_r15 hM, mo_s97 hM, mo_r17 hM, mo_s98 hM, mo_r18 hM, mo_s99 hM, mo_r19 hM, mo_s100 hM, mo_r21 hM, mo_s101 hM, mo_r22 hM, mo_s102 hM, mo_r24 hM, mo_s103 hM, mo_r25 hM, mo_s104 hM, mo_r28 hM, mo_s105 hM, mo_r32 hM, mo_s106 hM, mo_r33 hM, mo_s107 hM, mo_r34 hM, mo_s108 hM, mo_r35 hM, mo_s109 hM, mo_r38 hM, mo_s110 hM, mo_r40 hM, mo_s111 hM, mo_r41 hM, mo_s112 hM, mo_r43 hM, mo_s113 hM, mo_r44 hM, mo_s114 hM, mo_r45 hM, mo_s115 hM, mo_r46 hM, mo_s116 hM, e, hq]
      · simp (disch := omega) only [F_X6_bestFloor_B7, F_X6_bestFloor_J31, zv, e_gi, e_gr, e_gl, e_si, e_sb, e_ai, e_ar, e_ti, e_ty, e_tz, e_cv, zc_some, zmo_some, zin_T, ↓reduceIte, zit_succ, zzr0, zzr1, true_and, and_true, and_self, or_false, false_or, or_true, true_or, not_true_eq_false, not_false_eq_true, zl0, zl1, zl2, zl3, zl4, zl5, zl6, zl7, zl8, zl9, zl10, zl11, zl12, zl20, zl24, zl31, zl36, zl40, zl42, zl44, zl48, zl49, zl50, zl55, zl57, zl60, zl97, zl99, zl100, zl102, zl104, zl109, zl113, zl114, zl119, zl126, zl255, zl400, zl1000, zl101, zl103, zl1001, zl1002, zl16, zl18, zl32, zl35, zl443, n_leT, n_leF, n_ltT, n_ltF, n_eqT, n_eqF, n_swT, n_swF, nI_add, n_sub, pk_mul, zd_n, cl_s0 hS, cl_r0_0 hS, cl_r0_1 hS, cl_r0_2 hS, cl_r0_9 hS, cl_r0_12 hS, cl_r0_13 hS, cl_r0_14 hS, cl_r0_15 hS, cl_r0_16 hS, cl_r0_17 hS, cl_r0_19 hS, cl_r1_0 hS, cl_r51_0 hS, cl_r51_1 hS, cl_r51_2 hS, cl_r64_0 hS, cl_r64_1 hS, cl_s1 hS, cl_s2 hS, cl_s3 hS, cl_s4 hS, cl_s19 hS, cl_s51 hS, cl_s61 hS, cl_s62 hS, cl_s63 hS, cl_s64 hS, cl_s65 hS, cl_s66 hS, cl_c hS, cl_c' hS, cl_r hS, cl_r' hS, cl_tr hS, cl_sb hS, cl_st hS, cl_sk hS, cl_sl hS, cl_sw hS, cl_sc hS, cl_sc' hS, cl_sr hS, cl_sr' hS, cl_sq hS, mo_s85 hM, mo_r0 hM, mo_s86 hM, mo_r3 hM, mo_s87 hM, mo_r4 hM, mo_s88 hM, mo_r6 hM, mo_s89 hM, mo_r7 hM, mo_s90 hM, mo_r9 hM, mo_s91 hM, mo_r10 hM, mo_s92 hM, mo_r11 hM, mo_s93 hM, mo_r12 hM, mo_s94 hM, mo_r13 hM, mo_s95 hM, mo_r14 hM, mo_s96 hM, mo_r15 hM, mo_s97 hM, mo_r17 hM, mo_s98 hM, mo_r18 hM, mo_s99 hM, mo_r19 hM, mo_s100 hM, mo_r21 hM, mo_s101 hM, mo_r22 hM, mo_s102 hM, mo_r24 hM, mo_s103 hM, mo_r25 hM, mo_s104 hM, mo_r28 hM, mo_s105 hM, mo_r32 hM, mo_s106 hM, mo_r33 hM, mo_s107 hM, mo_r34 hM, mo_s108 hM, mo_r35 hM, mo_s109 hM, mo_r38 hM, mo_s110 hM, mo_r40 hM, mo_s111 hM, mo_r41 hM, mo_s112 hM, mo_r43 hM, mo_s113 hM, mo_r44 hM, mo_s114 hM, mo_r45 hM, mo_s115 hM, mo_r46 hM, mo_s116 hM, e, hq]
    · simp (disch := omega) only [F_X6_bestFloor_B7, zv, e_gi, e_gr, e_gl, e_si, e_sb, e_ai, e_ar, e_ti, e_ty, e_tz, e_cv, zc_some, zmo_some, zin_T, ↓reduceIte, zit_succ, zzr0, zzr1, true_and, and_true, and_self, or_false, false_or, or_true, true_or, not_true_eq_false, not_false_eq_true, zl0, zl1, zl2, zl3, zl4, zl5, zl6, zl7, zl8, zl9, zl10, zl11, zl12, zl20, zl24, zl31, zl36, zl40, zl42, zl44, zl48, zl49, zl50, zl55, zl57, zl60, zl97, zl99, zl100, zl102, zl104, zl109, zl113, zl114, zl119, zl126, zl255, zl400, zl1000, zl101, zl103, zl1001, zl1002, zl16, zl18, zl32, zl35, zl443, n_leT, n_leF, n_ltT, n_ltF, n_eqT, n_eqF, n_swT, n_swF, nI_add, n_sub, pk_mul, zd_n, cl_s0 hS, cl_r0_0 hS, cl_r0_1 hS, cl_r0_2 hS, cl_r0_9 hS, cl_r0_12 hS, cl_r0_13 hS, cl_r0_14 hS, cl_r0_15 hS, cl_r0_16 hS, cl_r0_17 hS, cl_r0_19 hS, cl_r1_0 hS, cl_r51_0 hS, cl_r51_1 hS, cl_r51_2 hS, cl_r64_0 hS, cl_r64_1 hS, cl_s1 hS, cl_s2 hS, cl_s3 hS, cl_s4 hS, cl_s19 hS, cl_s51 hS, cl_s61 hS, cl_s62 hS, cl_s63 hS, cl_s64 hS, cl_s65 hS, cl_s66 hS, cl_c hS, cl_c' hS, cl_r hS, cl_r' hS, cl_tr hS, cl_sb hS, cl_st hS, cl_sk hS, cl_sl hS, cl_sw hS, cl_sc hS, cl_sc' hS, cl_sr hS, cl_sr' hS, cl_sq hS, mo_s85 hM, mo_r0 hM, mo_s86 hM, mo_r3 hM, mo_s87 hM, mo_r4 hM, mo_s88 hM, mo_r6 hM, mo_s89 hM, mo_r7 hM, mo_s90 hM, mo_r9 hM, mo_s91 hM, mo_r10 hM, mo_s92 hM, mo_r11 hM, mo_s93 hM, mo_r12 hM, mo_s94 hM, mo_r13 hM, mo_s95 hM, mo_r14 hM, mo_s96 hM, mo_r15 hM, mo_s97 hM, mo_r17 hM, mo_s98 hM, mo_r18 hM, mo_s99 hM, mo_r19 hM, mo_s100 hM, mo_r21 hM, mo_s101 hM, mo_r22 hM, mo_s102 hM, mo_r24 hM, mo_s103 hM, mo_r25 hM, mo_s104 hM, mo_r28 hM, mo_s105 hM, mo_r32 hM, mo_s106 hM, mo_r33 hM, mo_s107 hM, mo_r34 hM, mo_s108 hM, mo_r35 hM, mo_s109 hM, mo_r38 hM, mo_s110 hM, mo_r40 hM, mo_s111 hM, mo_r41 hM, mo_s112 hM, mo_r43 hM, mo_s113 hM, mo_r44 hM, mo_s114 hM, mo_r45 hM, mo_s115 hM, mo_r46 hM, mo_s116 hM]
  have m2 : F_X11_drag n (zwi S f) 85 = some ((qDs 268435456 (qDr f np) 10).1, zwi S f) := by
    unfold F_X11_drag
    rw [zq268435456]
    unfold F_X11_drag_L7
    have st0 : (zwi S f, nI 0, nI 268435456, nI 0) = (zwi S f, (qDs 268435456 (qDr f np) 0).1, (qDs 268435456 (qDr f np) 0).2, nI 0) := by rw [qDs_0]
    rw [zl0, st0]
    refine zfor (fun v => (zwi S f, (qDs 268435456 (qDr f np) v).1, (qDs 268435456 (qDr f np) v).2, nI v)) 10 (fun kc v hv => ?_) (fun kc => ?_) (by omega)
    · rw [qDs_s (by omega) h00]
      simp (disch := omega) only [F_X11_drag_B7, zv, e_gi, e_gr, e_gl, e_si, e_sb, e_ai, e_ar, e_ti, e_ty, e_tz, e_cv, zc_some, zmo_some, zin_T, ↓reduceIte, zit_succ, zzr0, zzr1, true_and, and_true, and_self, or_false, false_or, or_true, true_or, not_true_eq_false, not_false_eq_true, zl0, zl1, zl2, zl3, zl4, zl5, zl6, zl7, zl8, zl9, zl10, zl11, zl12, zl20, zl24, zl31, zl36, zl40, zl42, zl44, zl48, zl49, zl50, zl55, zl57, zl60, zl97, zl99, zl100, zl102, zl104, zl109, zl113, zl114, zl119, zl126, zl255, zl400, zl1000, zl101, zl103, zl1001, zl1002, zl16, zl18, zl32, zl35, zl443, n_leT, n_leF, n_ltT, n_ltF, n_eqT, n_eqF, n_swT, n_swF, nI_add, n_sub, pk_mul, zd_n]
      unfold F_X11_drag_L19
      refine zfor (fun p => (zwi S f, qDr f p v, nI p)) np (fun kd p hp => ?_) (fun kd => ?_) (by omega)
      · rw [qDr_s]
        simp (disch := omega) only [F_X11_drag_B19, zv, e_gi, e_gr, e_ai, zc_some, zmo_some, zin_T, ↓reduceIte, zl0, zl1, zl10, n_leF, nI_add, zd_n, eM_size, mo_s85 hM, mo_r21 hM, mo_r22 hM, mo_s101 hM, mo_s102 hM, p3]
      · by_cases hq : (qDs 268435456 (qDr f np) v).2 ≤ qDr f np v
        · simp (disch := omega) only [F_X11_drag_B19, F_X11_drag_J76, F_X11_drag_J89, zv, e_gi, e_gr, e_gl, e_si, e_sb, e_ai, e_ar, e_ti, e_ty, e_tz, e_cv, zc_some, zmo_some, zin_T, ↓reduceIte, zit_succ, zzr0, zzr1, true_and, and_true, and_self, or_false, false_or, or_true, true_or, not_true_eq_false, not_false_eq_true, zl0, zl1, zl2, zl3, zl4, zl5, zl6, zl7, zl8, zl9, zl10, zl11, zl12, zl20, zl24, zl31, zl36, zl40, zl42, zl44, zl48, zl49, zl50, zl55, zl57, zl60, zl97, zl99, zl100, zl102, zl104, zl109, zl113, zl114, zl119, zl126, zl255, zl400, zl1000, zl101, zl103, zl1001, zl1002, zl16, zl18, zl32, zl35, zl443, n_leT, n_leF, n_ltT, n_ltF, n_eqT, n_eqF, n_swT, n_swF, nI_add, n_sub, pk_mul, zd_n, mo_s85 hM, mo_r0 hM, mo_s86 hM, mo_r3 hM, mo_s87 hM, mo_r4 hM, mo_s88 hM, mo_r6 hM, mo_s89 hM, mo_r7 hM, mo_s90 hM, mo_r9 hM, mo_s91 hM, mo_r10 hM, mo_s92 hM, mo_r11 hM, mo_s93 hM, mo_r12 hM, mo_s94 hM, mo_r13 hM, mo_s95 hM, mo_r14 hM, mo_s96 hM, mo_r15 hM, mo_s97 hM, mo_r17 hM, mo_s98 hM, mo_r18 hM, mo_s99 hM, mo_r19 hM, mo_s100 hM, mo_r21 hM, mo_s101 hM, mo_r22 hM, mo_s102 hM, mo_r24 hM, mo_s103 hM, mo_r25 hM, mo_s104 hM, mo_r28 hM, mo_s105 hM, mo_r32 hM, mo_s106 hM, mo_r33 hM, mo_s107 hM, mo_r34 hM, mo_s108 hM, mo_r35 hM, mo_s109 hM, mo_r38 hM, mo_s110 hM, mo_r40 hM, mo_s111 hM, mo_r41 hM, mo_s112 hM, mo_r43 hM, mo_s113 hM, mo_r44 hM, mo_s114 hM, mo_r45 hM, mo_s115 hM, mo_r46 hM, mo_s116 hM, p3, hq]
        · simp (disch := omega) only [F_X11_drag_B19, F_X11_drag_J76, F_X11_drag_J89, zv, e_gi, e_gr, e_gl, e_si, e_sb, e_ai, e_ar, e_ti, e_ty, e_tz, e_cv, zc_some, zmo_some, zin_T, ↓reduceIte, zit_succ, zzr0, zzr1, true_and, and_true, and_self, or_false, false_or, or_true, true_or, not_true_eq_false, not_false_eq_true, zl0, zl1, zl2, zl3, zl4, zl5, zl6, zl7, zl8, zl9, zl10, zl11, zl12, zl20, zl24, zl31, zl36, zl40, zl42, zl44, zl48, zl49, zl50, zl55, zl57, zl60, zl97, zl99, zl100, zl102, zl104, zl109, zl113, zl114, zl119, zl126, zl255, zl400, zl1000, zl101, zl103, zl1001, zl1002, zl16, zl18, zl32, zl35, zl443, n_leT, n_leF, n_ltT, n_ltF, n_eqT, n_eqF, n_swT, n_swF, nI_add, n_sub, pk_mul, zd_n, mo_s85 hM, mo_r0 hM, mo_s86 hM, mo_r3 hM, mo_s87 hM, mo_r4 hM, mo_s88 hM, mo_r6 hM, mo_s89 hM, mo_r7 hM, mo_s90 hM, mo_r9 hM, mo_s91 hM, mo_r10 hM, mo_s92 hM, mo_r11 hM, mo_s93 hM, mo_r12 hM, mo_s94 hM, mo_r13 hM, mo_s95 hM, mo_r14 hM, mo_s96 hM, mo_r15 hM, mo_s97 hM, mo_r17 hM, mo_s98 hM, mo_r18 hM, mo_s99 hM, mo_r19 hM, mo_s100 hM, mo_r21 hM, mo_s101 hM, mo_r22 hM, mo_s102 hM, mo_r24 hM, mo_s103 hM, mo_r25 hM, mo_s104 hM, mo_r28 hM, mo_s105 hM, mo_r32 hM, mo_s106 hM, mo_r33 hM, mo_s107 hM, mo_r34 hM, mo_s108 hM, mo_r35 hM, mo_s109 hM, mo_r38 hM, mo_s110 hM, mo_r40 hM, mo_s111 hM, mo_r41 hM, mo_s112 hM, mo_r43 hM, mo_s113 hM, mo_r44 hM, mo_s114 hM, mo_r45 hM, mo_s115 hM, mo_r46 hM, mo_s116 hM, p3, hq]
    · simp (disch := omega) only [F_X11_drag_B7, zv, e_gi, e_gr, e_gl, e_si, e_sb, e_ai, e_ar, e_ti, e_ty, e_tz, e_cv, zc_some, zmo_some, zin_T, ↓reduceIte, zit_succ, zzr0, zzr1, true_and, and_true, and_self, or_false, false_or, or_true, true_or, not_true_eq_false, not_false_eq_true, zl0, zl1, zl2, zl3, zl4, zl5, zl6, zl7, zl8, zl9, zl10, zl11, zl12, zl20, zl24, zl31, zl36, zl40, zl42, zl44, zl48, zl49, zl50, zl55, zl57, zl60, zl97, zl99, zl100, zl102, zl104, zl109, zl113, zl114, zl119, zl126, zl255, zl400, zl1000, zl101, zl103, zl1001, zl1002, zl16, zl18, zl32, zl35, zl443, n_leT, n_leF, n_ltT, n_ltF, n_eqT, n_eqF, n_swT, n_swF, nI_add, n_sub, pk_mul, zd_n]
  have e10 := qDs_K 1000000 268435456 (qDr f np) (i := 10) (by omega)
  rw [e10] at c2
  generalize (qDs 268435456 (qDr f np) 10).1 = q at c2 m2
  exact ⟨q, zwi S f, zwi S f, by simp (disch := omega) only [F_X10_drag, zv, e_gi, e_gr, e_gl, e_si, e_sb, e_ai, e_ar, e_ti, e_ty, e_tz, e_cv, zc_some, zmo_some, zin_T, ↓reduceIte, zit_succ, zzr0, zzr1, true_and, and_true, and_self, or_false, false_or, or_true, true_or, not_true_eq_false, not_false_eq_true, zl0, zl1, zl2, zl3, zl4, zl5, zl6, zl7, zl8, zl9, zl10, zl11, zl12, zl20, zl24, zl31, zl36, zl40, zl42, zl44, zl48, zl49, zl50, zl55, zl57, zl60, zl97, zl99, zl100, zl102, zl104, zl109, zl113, zl114, zl119, zl126, zl255, zl400, zl1000, zl101, zl103, zl1001, zl1002, zl16, zl18, zl32, zl35, zl443, n_leT, n_leF, n_ltT, n_ltF, n_eqT, n_eqF, n_swT, n_swF, nI_add, n_sub, pk_mul, zd_n, cl_s0 hS, cl_r0_0 hS, cl_r0_1 hS, cl_r0_2 hS, cl_r0_9 hS, cl_r0_12 hS, cl_r0_13 hS, cl_r0_14 hS, cl_r0_15 hS, cl_r0_16 hS, cl_r0_17 hS, cl_r0_19 hS, cl_r1_0 hS, cl_r51_0 hS, cl_r51_1 hS, cl_r51_2 hS, cl_r64_0 hS, cl_r64_1 hS, cl_s1 hS, cl_s2 hS, cl_s3 hS, cl_s4 hS, cl_s19 hS, cl_s51 hS, cl_s61 hS, cl_s62 hS, cl_s63 hS, cl_s64 hS, cl_s65 hS, cl_s66 hS, cl_c hS, cl_c' hS, cl_r hS, cl_r' hS, cl_tr hS, cl_sb hS, cl_st hS, cl_sk hS, cl_sl hS, cl_sw hS, cl_sc hS, cl_sc' hS, cl_sr hS, cl_sr' hS, cl_sq hS, mo_s85 hM, mo_r0 hM, mo_s86 hM, mo_r3 hM, mo_s87 hM, mo_r4 hM, mo_s88 hM, mo_r6 hM, mo_s89 hM, mo_r7 hM, mo_s90 hM, mo_r9 hM, mo_s91 hM, mo_r10 hM, mo_s92 hM, mo_r11 hM, mo_s93 hM, mo_r12 hM, mo_s94 hM, mo_r13 hM, mo_s95 hM, mo_r14 hM, mo_s96 hM, mo_r15 hM, mo_s97 hM, mo_r17 hM, mo_s98 hM, mo_r18 hM, mo_s99 hM, mo_r19 hM, mo_s100 hM, mo_r21 hM, mo_s101 hM, mo_r22 hM, mo_s102 hM, mo_r24 hM, mo_s103 hM, mo_r25 hM, mo_s104 hM, mo_r28 hM, mo_s105 hM, mo_r32 hM, mo_s106 hM, mo_r33 hM, mo_s107 hM, mo_r34 hM, mo_s108 hM, mo_r35 hM, mo_s109 hM, mo_r38 hM, mo_s110 hM, mo_r40 hM, mo_s111 hM, mo_r41 hM, mo_s112 hM, mo_r43 hM, mo_s113 hM, mo_r44 hM, mo_s114 hM, mo_r45 hM, mo_s115 hM, mo_r46 hM, mo_s116 hM, c2], m2, zI_ok (zI_scr hI' rfl rfl rfl (fun _ _ _ => rfl))⟩
