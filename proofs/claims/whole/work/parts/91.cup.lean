theorem k_cup {g n : Nat} (hn : 513 < n) {h : zH} (hI : zInv g h) : zOk g (F_X10_cup n h 0) (fun h => F_X11_cup n h 85) := by
  obtain ⟨S, f, c, c', r, r', tr, pl, nd, da, R, H, cu, nl, nr, ra, np, pt, fi, rfl, hI⟩ := hI
  have hI' := hI
  obtain ⟨hS, hpg, hdo, ⟨hc6, hR, hH, hRH, hu2, hu3, hu4, hcu, hcu2⟩, hg, hlv, hbr, hwa, hrw, hpi, hrv, hfi, him⟩ := hI
  have hM := cl_M hS
  have hC := cl_Cu hS
  have hcc := cl_cc hS
  have hrr := cl_rr hS
  have htt := cl_tt hS
  have hR1 : f (c + 1) 0 = nI R := (hc6 0 (by omega)).trans hR
  have hH1 : f (c + 1) 1 = nI H := (hc6 1 (by omega)).trans hH
  have hR6 : R ≤ 6 ∧ H ≤ 4 := by rcases hRH with h | h <;> omega
  have hRk : (R = 0 ∧ f 85 1 = nI 0) ∨ (1 ≤ R ∧ R ≤ 6 ∧ f 85 1 = nI 1) := hRH.imp (fun h => ⟨h.1, h.2.2⟩) (fun h => ⟨by omega, h.2.1, h.2.2.2.2⟩)
  obtain ⟨cd, hcd⟩ := I_pg_cd hpg
  obtain ⟨p1, p2, p3, p4⟩ := hpg
  have s67 := mo_s85 hM
  have r0 : zr S 0 0 = some 1 := cl_r0_0 hS
  have h0 : zsh S 0 = some (9, 20) := cl_s0 hS
  have h1 : zsh S 1 = some (5, 2) := cl_s1 hS
  have h2 : zsh S 2 = some (20, 50) := cl_s2 hS
  have r1 : zr S 1 0 = some 2 := cl_r1_0 hS
  have hzz := cl_zz hS
  have htz := cl_tz hS
  obtain ⟨k, s, t1, t2, t3⟩ := tst_first sCu 0 cd pl
  have rr : zr S 0 5 = some c' := cl_c' hS
  have rc : zr S 0 4 = some c := cl_c hS
  obtain ⟨F, a1, a2, a3⟩ := eC_readsCup n (S := S) (f := f) (t := c') hn (cl_Cu' hS) (by omega) h1 h2 r1 p1 p2 (fun i hi => ⟨(hcd i hi).2.1, (hcd i hi).1⟩) t1 t2 t3
  by_cases hw : k = pl ∧ 10 ≤ k
  · rw [if_pos hw] at a1
    obtain ⟨hkp, hk10⟩ := hw
    obtain ⟨i1, i2, i3, i4⟩ := a2 hkp
    obtain ⟨S2, hS2⟩ : ∃ S2, S2 = zpr (zpr S 0 4 (some c')) 0 5 (some c) := ⟨_, rfl⟩
    have s2h : zsh S2 = zsh S := by rw [hS2]; rfl
    have s2z : zsz S2 = zsz S := by rw [hS2]; rfl
    have s2r : ∀ x y, ¬ (x = 0 ∧ (y = 4 ∨ y = 5)) → zr S2 x y = zr S x y := fun x y q => by rw [hS2, zpr_r, zpr_r, z2n (by omega), z2n (by omega)]
    have L0 : zLow S S2 (zsz S) (fun x _ => x = 0) := ⟨fun x _ => by rw [s2h], fun x y _ q => s2r x y (fun z => q z.1)⟩
    have Lx : zLow S S2 (zsz S) xChg := ⟨fun x _ => by rw [s2h], fun x y _ q => s2r x y (fun z => q (by unfold xChg; omega))⟩
    have k4 : zr S2 0 4 = some c' := by rw [hS2, zpr_r, zpr_r, z2n (by omega)]; exact z2_eq _ _ _ _
    have k5 : zr S2 0 5 = some c := by rw [hS2, zpr_r]; exact z2_eq _ _ _ _
    have hS' : zKl S2 c' c r r' tr := zKl_low Lx hS k4 k5 ((s2r _ _ (by omega)).trans (cl_r hS)) ((s2r _ _ (by omega)).trans (cl_r' hS)) ((s2r _ _ (by omega)).trans (cl_tr hS)) (Or.inr ⟨rfl, rfl⟩) (Or.inl ⟨rfl, rfl⟩) (zRw_low L0 htz (fun _ => by omega) (cl_Rw hS)) htt (by omega) (by omega)
    have hM' := cl_M hS'
    have g06 : F 0 6 = nI cu := (a3 0 6 (by omega)).trans hcu
    obtain ⟨Z1, u1, u2, u3, u4, u5, u6⟩ := eC_newCup n (F := F) hn hS' g06
    obtain ⟨Z2, v1, v2, v3⟩ := eC_cup80 n (F := z2 Z1 51 3 (-nI 1)) hn hS'
    have z10 : z2 Z1 51 3 (-nI 1) (c' + 1) 0 = nI (cTold cd k 0) := by
      rw [z2n (by omega), u6 _ _ (by omega) (by omega) (by omega) (by omega)]
      exact i4 0 (by omega)
    rw [z10] at v1
    -- the class's state
    have zc : ∀ a j, ¬ ((35 ≤ a ∧ a ≤ 41) ∨ a = 63 ∨ a = c' ∨ a = c' + 1 ∨ (a = 0 ∧ j = 6) ∨ (a = 1 ∧ j = 1) ∨ (a = 23 ∧ j = 4) ∨ (a = 51 ∧ j = 3)) → Z2 a j = f a j := fun a j q => by
      rw [v3 a j (by omega), z2n (by omega), u6 a j (by omega) (by omega) (by omega) (by omega), a3 a j (by omega)]
    obtain ⟨G, b1, b2, b3, b4, b5, b6⟩ := eM_readCup n (S := S2) (f := Z2) hn hM' p1 ((zc 85 27 (by omega)).trans p3) (fun i hi => ⟨(zc 105 i (by omega)).trans (hcd i hi).2.2, (hcd i hi).1⟩) t1 t2 t3
    rw [if_pos ⟨hkp, hk10⟩] at b3
    obtain ⟨j1, j2, j3⟩ := b4 hkp
    have g92 : ∀ j, j < 6 → G 110 j = nI (cTold cd k j) := fun j hj => by
      unfold cTold
      by_cases h5 : j < 5
      · rw [if_pos h5, if_pos (by omega)]
        exact j3 j h5 (by omega)
      · rw [if_neg h5, show j = 5 by omega, b5]
        by_cases h11 : k = 11
        · rw [if_pos h11, if_pos h11]
        · rw [if_neg h11, if_neg h11]
    have y2 : G 85 2 = nI cu := ((b6 85 2 (by unfold mScr; omega)).trans (zc 85 2 (by omega))).trans hcu2
    obtain ⟨Z, w1, w2, w3, w4, w5, w6, w7, w8⟩ := eM_newCup n (S := S2) (F := G) hn hM' y2
    rw [g92 0 (by omega)] at w1
    have ag2 : ∀ a j, ¬ (a = 86 ∨ a = 87 ∨ a = 97 ∨ (110 ≤ a ∧ a ≤ 114) ∨ (a = 85 ∧ (j = 8 ∨ j = 1 ∨ j = 2 ∨ j = 27 ∨ j = 36 ∨ j = 37 ∨ j = 39 ∨ j = 42))) → Z a j = Z2 a j := fun a j q => by
      rw [w8 a j (by omega) (by omega) (by omega) (by omega), b6 a j (by unfold mScr; omega)]
    have ag : ∀ a j, ¬ ((35 ≤ a ∧ a ≤ 41) ∨ a = 63 ∨ a = c' ∨ a = c' + 1 ∨ (a = 0 ∧ j = 6) ∨ (a = 1 ∧ j = 1) ∨ (a = 23 ∧ j = 4) ∨ (a = 51 ∧ j = 3) ∨ a = 86 ∨ a = 87 ∨ a = 97 ∨ (110 ≤ a ∧ a ≤ 114) ∨ (a = 85 ∧ (j = 8 ∨ j = 1 ∨ j = 2 ∨ j = 27 ∨ j = 36 ∨ j = 37 ∨ j = 39 ∨ j = 42))) → Z a j = f a j := fun a j q => by
      rw [ag2 a j (by omega), zc a j (by omega)]
    have dg := sCu_dig t2
    have d0 := dg 0 (by omega) (by omega)
    have d1 := dg 1 (by omega) (by omega)
    have d2 := dg 2 (by omega) (by omega)
    have d3 := dg 3 (by omega) (by omega)
    have d4 := dg 4 (by omega) (by omega)
    have ct : ∀ j, j < 5 → cTold cd k j = cd (2 * j + 1) - 48 := fun j hj => by
      unfold cTold
      rw [if_pos hj, if_pos (by omega)]
    have cl0 : cLow 0 = 2 ∧ cLow 1 = 2 ∧ cLow 2 = 0 ∧ cLow 3 = 0 ∧ cLow 4 = 0 := ⟨rfl, rfl, rfl, rfl, rfl⟩
    have ch0 : cHigh 0 = 6 ∧ cHigh 1 = 4 ∧ cHigh 2 = 9 ∧ cHigh 3 = 9 ∧ cHigh 4 = 9 := ⟨rfl, rfl, rfl, rfl, rfl⟩
    have e0 := ct 0 (by omega)
    have e1 := ct 1 (by omega)
    have e2 := ct 2 (by omega)
    have e3 := ct 3 (by omega)
    have e4 := ct 4 (by omega)
    have n0 : zr S2 0 0 = some 1 := (s2r _ _ (by omega)).trans r0
    have n12 : zr S2 0 12 = some 23 := (s2r _ _ (by omega)).trans (cl_r0_12 hS)
    have n14 : zr S2 0 14 = some 33 := (s2r _ _ (by omega)).trans (cl_r0_14 hS)
    have n16 : zr S2 0 16 = some 51 := (s2r _ _ (by omega)).trans (cl_r0_16 hS)
    have f0 : zsh S2 0 = some (9, 20) := by rw [s2h]; exact h0
    have f1 : zsh S2 1 = some (5, 2) := by rw [s2h]; exact h1
    have f23 : zsh S2 23 = some (4, 5) := by rw [s2h]; exact (cl_lv hS).1
    have f33 : zsh S2 33 = some (0, 2) := by rw [s2h]; exact (cl_b hS).1
    have f51 : zsh S2 51 = some (3, 4) := by rw [s2h]; exact cl_s51 hS
    have p11 : F 1 1 = nI pl := (a3 1 1 (by omega)).trans p2
    refine ⟨nI (cTold cd k 0), zwi S2 Z2, zwi S2 Z, ?_, ?_, ?_⟩
    · unfold F_X10_cup
      simp (disch := omega) only [zv, e_gi, e_gr, e_gl, e_si, e_sb, e_ai, e_ar, e_ti, e_ty, e_tz, e_cv, zc_some, zmo_some, zin_T, ↓reduceIte, zit_succ, zzr0, zzr1, true_and, and_true, and_self, or_false, false_or, or_true, true_or, not_true_eq_false, not_false_eq_true, zl0, zl1, zl2, zl3, zl4, zl5, zl6, zl7, zl8, zl9, zl10, zl11, zl12, zl20, zl24, zl31, zl36, zl40, zl42, zl44, zl48, zl49, zl50, zl55, zl57, zl60, zl97, zl99, zl100, zl102, zl104, zl109, zl113, zl114, zl119, zl126, zl255, zl400, zl1000, zl101, zl103, zl1001, zl1002, zl16, zl18, zl32, zl35, zl443, n_leT, n_leF, n_ltT, n_ltF, n_eqT, n_eqF, n_swT, n_swF, nI_add, n_sub, pk_mul, zd_n, r0, rr, rc, h0, h1, a1, e_sr, zpr_sh, zpr_r, z2_eq, z2n]
      rw [← hS2]
      simp (disch := omega) only [F_X5_clear, F_X4_clear, F_X3_drop, zv, e_gi, e_gr, e_gl, e_si, e_sb, e_ai, e_ar, e_ti, e_ty, e_tz, e_cv, zc_some, zmo_some, zin_T, ↓reduceIte, zit_succ, zzr0, zzr1, true_and, and_true, and_self, or_false, false_or, or_true, true_or, not_true_eq_false, not_false_eq_true, zl0, zl1, zl2, zl3, zl4, zl5, zl6, zl7, zl8, zl9, zl10, zl11, zl12, zl20, zl24, zl31, zl36, zl40, zl42, zl44, zl48, zl49, zl50, zl55, zl57, zl60, zl97, zl99, zl100, zl102, zl104, zl109, zl113, zl114, zl119, zl126, zl255, zl400, zl1000, zl101, zl103, zl1001, zl1002, zl16, zl18, zl32, zl35, zl443, n_leT, n_leF, n_ltT, n_ltF, n_eqT, n_eqF, n_swT, n_swF, nI_add, n_sub, pk_mul, zd_n, n0, n12, n14, n16, f0, f1, f23, f33, f51, z2_eq, z2n, g06, p11, u1, v1]
    · unfold F_X11_cup
      simp (disch := omega) only [zv, e_gi, e_gr, e_gl, e_si, e_sb, e_ai, e_ar, e_ti, e_ty, e_tz, e_cv, zc_some, zmo_some, zin_T, ↓reduceIte, zit_succ, zzr0, zzr1, true_and, and_true, and_self, or_false, false_or, or_true, true_or, not_true_eq_false, not_false_eq_true, zl0, zl1, zl2, zl3, zl4, zl5, zl6, zl7, zl8, zl9, zl10, zl11, zl12, zl20, zl24, zl31, zl36, zl40, zl42, zl44, zl48, zl49, zl50, zl55, zl57, zl60, zl97, zl99, zl100, zl102, zl104, zl109, zl113, zl114, zl119, zl126, zl255, zl400, zl1000, zl101, zl103, zl1001, zl1002, zl16, zl18, zl32, zl35, zl443, n_leT, n_leF, n_ltT, n_ltF, n_eqT, n_eqF, n_swT, n_swF, nI_add, n_sub, pk_mul, zd_n, s67, mo_s85 hM', b1, b3, w1]
    · refine zI_ok (S := S2) (c := c') (c' := c) (pl := 0) (R := cTold cd k 0) (H := cTold cd k 1) (cu := cu + 1) (nl := 0) ⟨hS', ⟨by omega, ?_, w7, fun i hi => by omega⟩, I_do_lx L0 (fun _ => by omega) hzz (by omega) (I_do_c (fun a k q => ag a k (by omega)) (fun k hk j => by have h9 := (hdo.2.2.2.2.2 k hk).2.2.1; exact ag _ _ (by omega)) hdo), ⟨fun j hj => ?_, ?_, ?_, Or.inr ⟨by omega, by omega, by omega, by omega, w5⟩, ⟨cTold cd k 2, by omega, ?_⟩, ⟨cTold cd k 3, by omega, ?_⟩, ⟨cTold cd k 4, by omega, ?_⟩, ?_, w6⟩, by omega, ⟨by omega, fun _ => rfl, ?_, w4, fun l hl => by omega⟩, ⟨fun r k hr hk => ?_, fun r k hr hk => ?_⟩, fun x hx => ⟨?_, 0, by omega, (w2 x hx).2⟩, I_rw_lx L0 (fun x y hx => by omega) hzz htz (I_rw_c (fun a k q => ag a k (by omega)) (fun k hk a j q => by have h9 := (hrw.2.2.2 k hk).2.2; have h8 := h9.1; have h7 := h9.2.1; exact ag _ _ (by omega)) hrw), I_pi_c (fun a k q => ag a k (by omega)) hpi, I_rv_c (fun a k q => ag a k (by omega)) hrv, I_fi_c (fun a k q => ag a k (by omega)) hfi, Or.inl ⟨?_, ?_⟩⟩
      · rw [ag2 1 1 (by omega), v3 1 1 (by omega), z2n (by omega)]
        exact u3
      · rw [(w2 j hj).1, g92 j hj, ag2 _ _ (by omega), v3 _ _ (by omega), z2n (by omega), u6 _ _ (by omega) (by omega) (by omega) (by omega)]
        exact i4 j hj
      · rw [(w2 0 (by omega)).1]
        exact g92 0 (by omega)
      · rw [(w2 1 (by omega)).1]
        exact g92 1 (by omega)
      · rw [(w2 2 (by omega)).1]
        exact g92 2 (by omega)
      · rw [(w2 3 (by omega)).1]
        exact g92 3 (by omega)
      · rw [(w2 4 (by omega)).1]
        exact g92 4 (by omega)
      · rw [ag2 0 6 (by omega), v3 _ _ (by omega), z2n (by omega)]
        exact u2
      · rw [ag2 23 4 (by omega), v3 _ _ (by omega), z2n (by omega)]
        exact u4
      · rw [ag2 _ _ (by omega), v3 _ _ (by omega), z2n (by omega), u5 r k hr hk, w3 _ (by omega)]
      · dsimp only
        rw [w3 _ (by omega)]
        exact ⟨by decide, by decide⟩
      · rw [ag2 _ _ (by omega), v2 x hx, (w2 x hx).2]
      · rw [ag2 51 3 (by omega), v3 _ _ (by omega)]
        exact z2_eq _ _ _ _
      · have y29 : Z 85 29 = f 85 29 := ag 85 29 (by omega)
        have y30 : Z 85 30 = f 85 30 := ag 85 30 (by omega)
        rw [y29, y30]
        rcases him with ⟨-, q1 | ⟨kc, q1, q2⟩⟩ | ⟨kl, -, -, -, q1, -⟩
        · exact Or.inl q1
        · exact Or.inr ⟨kc, by omega, q2⟩
        · exact Or.inr ⟨cu, by omega, q1⟩
  · rw [if_neg hw] at a1
    obtain ⟨G, b1, b2, b3, -, -, b6⟩ := eM_readCup n (S := S) (f := F) hn hM p1 ((a3 85 27 (by omega)).trans p3) (fun i hi => ⟨(a3 105 i (by omega)).trans (hcd i hi).2.2, (hcd i hi).1⟩) t1 t2 t3
    rw [if_neg hw] at b3
    exact ⟨-nI 103, zwi S F, zwi S G, by unfold F_X10_cup; simp (disch := omega) only [zv, e_gi, e_gr, e_gl, e_si, e_sb, e_ai, e_ar, e_ti, e_ty, e_tz, e_cv, zc_some, zmo_some, zin_T, ↓reduceIte, zit_succ, zzr0, zzr1, true_and, and_true, and_self, or_false, false_or, or_true, true_or, not_true_eq_false, not_false_eq_true, zl0, zl1, zl2, zl3, zl4, zl5, zl6, zl7, zl8, zl9, zl10, zl11, zl12, zl20, zl24, zl31, zl36, zl40, zl42, zl44, zl48, zl49, zl50, zl55, zl57, zl60, zl97, zl99, zl100, zl102, zl104, zl109, zl113, zl114, zl119, zl126, zl255, zl400, zl1000, zl101, zl103, zl1001, zl1002, zl16, zl18, zl32, zl35, zl443, n_leT, n_leF, n_ltT, n_ltF, n_eqT, n_eqF, n_swT, n_swF, nI_add, n_sub, pk_mul, zd_n, r0, rr, h0, h1, a1], by unfold F_X11_cup; simp (disch := omega) only [zv, e_gi, e_gr, e_gl, e_si, e_sb, e_ai, e_ar, e_ti, e_ty, e_tz, e_cv, zc_some, zmo_some, zin_T, ↓reduceIte, zit_succ, zzr0, zzr1, true_and, and_true, and_self, or_false, false_or, or_true, true_or, not_true_eq_false, not_false_eq_true, zl0, zl1, zl2, zl3, zl4, zl5, zl6, zl7, zl8, zl9, zl10, zl11, zl12, zl20, zl24, zl31, zl36, zl40, zl42, zl44, zl48, zl49, zl50, zl55, zl57, zl60, zl97, zl99, zl100, zl102, zl104, zl109, zl113, zl114, zl119, zl126, zl255, zl400, zl1000, zl101, zl103, zl1001, zl1002, zl16, zl18, zl32, zl35, zl443, n_leT, n_leF, n_ltT, n_ltF, n_eqT, n_eqF, n_swT, n_swF, nI_add, n_sub, pk_mul, zd_n, s67, b1, b3], zI_ok (zI_scr hI' rfl rfl rfl (fun a j q => by unfold zScr at q; rw [b6 a j (by unfold mScr; omega), a3 a j (by omega)]))⟩
