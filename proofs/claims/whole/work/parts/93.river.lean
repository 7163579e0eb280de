theorem eM_river25 (n : Nat) {S : zH} {F : Nat → Nat → Int32} {m : Nat} (hn : 513 < n) (hM : zMo S) (hm : m ≤ 10) (h23 : F 85 23 = nI m) (hh : ∀ j, j < m → F 114 j = nI 0 ∨ F 114 j = nI 1) :
    ∃ Z, F_X11_river_L25 n (zwi S F) 85 (nI 0) = some (nI m, zwi S Z) ∧ (∀ j, j < m → Z 103 j = F 113 j ∧ Z 104 j = F 114 j) ∧ Z 85 27 = nI 0 ∧ ∀ a j, a ≠ 103 → a ≠ 104 → ¬ (a = 85 ∧ j = 27) → Z a j = F a j := by
  have s67 := mo_s85 hM
  have r24 := mo_r24 hM
  have s85 := mo_s103 hM
  have r25 := mo_r25 hM
  have s86 := mo_s104 hM
  have r43 := mo_r43 hM
  have s95 := mo_s113 hM
  have r44 := mo_r44 hM
  have s96 := mo_s114 hM
  unfold F_X11_river_L25
  have key9 := zforE (body := fun kc x => F_X11_river_B25 n kc x.1 85 x.2) (fun i x => ∃ Z, x = (zwi S Z, nI i) ∧ (∀ j, j < i → Z 103 j = F 113 j ∧ Z 104 j = F 114 j) ∧ ∀ a j, a ≠ 103 → a ≠ 104 → Z a j = F a j) m (Q := fun r => ∃ Z, r = some (nI m, zwi S Z) ∧ (∀ j, j < m → Z 103 j = F 113 j ∧ Z 104 j = F 114 j) ∧ Z 85 27 = nI 0 ∧ ∀ a j, a ≠ 103 → a ≠ 104 → ¬ (a = 85 ∧ j = 27) → Z a j = F a j) (fun i x hi hx => ?_) (fun x hx => ?_) (n := n) (by omega) (x := (zwi S F, nI 0)) ⟨F, rfl, fun j hj => by omega, fun _ _ _ _ => rfl⟩
  · obtain ⟨r, ⟨Z, e1, e3⟩, e2⟩ := key9
    exact ⟨Z, by rw [e2, e1], e3⟩
  · obtain ⟨Z, rfl, g1, g2⟩ := hx
    have y1 := (g2 85 23 (by omega) (by omega)).trans h23
    have y3 := g2 113 i (by omega) (by omega)
    have y4 := g2 114 i (by omega) (by omega)
    have yv : vp_nar .boolean (F 114 i) = F 114 i := by
      rcases hh i hi with q | q
      · rw [q]; exact vz_0
      · rw [q]; exact vz_1
    refine ⟨_, ⟨z2 (z2 Z 103 i (F 113 i)) 104 i (F 114 i), rfl, fun j hj => ?_, fun a j q1 q2 => by rw [z2n (by omega), z2n (by omega)]; exact g2 a j q1 q2⟩, fun kc => by simp (disch := omega) only [F_X11_river_B25, zv, e_gi, e_gr, e_gl, e_si, e_sb, e_ai, e_ar, e_ti, e_ty, e_tz, e_cv, zc_some, zmo_some, zin_T, ↓reduceIte, zit_succ, zzr0, zzr1, true_and, and_true, and_self, or_false, false_or, or_true, true_or, not_true_eq_false, not_false_eq_true, zl0, zl1, zl2, zl3, zl4, zl5, zl6, zl7, zl8, zl9, zl10, zl11, zl12, zl20, zl24, zl31, zl36, zl40, zl42, zl44, zl48, zl49, zl50, zl55, zl57, zl60, zl97, zl99, zl100, zl102, zl104, zl109, zl113, zl114, zl119, zl126, zl255, zl400, zl1000, zl101, zl103, zl1001, zl1002, zl16, zl18, zl32, zl35, zl443, n_leT, n_leF, n_ltT, n_ltF, n_eqT, n_eqF, n_swT, n_swF, nI_add, n_sub, pk_mul, zd_n, z2_eq, z2n, s67, r24, s85, r25, s86, r43, s95, r44, s96, y1, y3, y4, yv]⟩
    by_cases e : j = i
    · subst e
      simp (disch := omega) only [z2_eq, z2n]
      exact ⟨trivial, trivial⟩
    · simp (disch := omega) only [z2_eq, z2n]
      exact g1 j (by omega)
  · obtain ⟨Z, rfl, g1, g2⟩ := hx
    have y1 := (g2 85 23 (by omega) (by omega)).trans h23
    refine ⟨_, ⟨z2 Z 85 27 (nI 0), rfl, fun j hj => ?_, z2_eq _ _ _ _, fun a j q1 q2 q3 => ?_⟩, fun kc => by simp (disch := omega) only [F_X11_river_B25, zv, e_gi, e_gr, e_gl, e_si, e_sb, e_ai, e_ar, e_ti, e_ty, e_tz, e_cv, zc_some, zmo_some, zin_T, ↓reduceIte, zit_succ, zzr0, zzr1, true_and, and_true, and_self, or_false, false_or, or_true, true_or, not_true_eq_false, not_false_eq_true, zl0, zl1, zl2, zl3, zl4, zl5, zl6, zl7, zl8, zl9, zl10, zl11, zl12, zl20, zl24, zl31, zl36, zl40, zl42, zl44, zl48, zl49, zl50, zl55, zl57, zl60, zl97, zl99, zl100, zl102, zl104, zl109, zl113, zl114, zl119, zl126, zl255, zl400, zl1000, zl101, zl103, zl1001, zl1002, zl16, zl18, zl32, zl35, zl443, n_leT, n_leF, n_ltT, n_ltF, n_eqT, n_eqF, n_swT, n_swF, nI_add, n_sub, pk_mul, zd_n, z2_eq, z2n, s67, y1]⟩
    · simp (disch := omega) only [z2_eq, z2n]
      exact g1 j hj
    · rw [z2n (by omega)]
      exact g2 a j q1 q2
theorem k_river {g n : Nat} (hn : 513 < n) {h : zH} (hI : zInv g h) : zOk g (F_X10_river n h 0) (fun h => F_X11_river n h 85) := by
  obtain ⟨S, f, c, c', r, r', tr, pl, nd, da, R, H, cu, nl, nr, ra, np, pt, fi, rfl, hI⟩ := hI
  have hI' := hI
  obtain ⟨hS, hpg, hdo, ⟨hc6, hR, hH, hRH, hu2, hu3, hu4, hcu, hcu2⟩, hg, hlv, hbr, hwa, hrw, hpi, hrv, hfi, him⟩ := hI
  have hM := cl_M hS
  have hC := cl_Cu hS
  have hcc := cl_cc hS
  have hrr := cl_rr hS
  have htt := cl_tt hS
  have hR1 : f (c + 1) 0 = nI R := (hc6 0 (by omega)).trans hR
  have hH1 : f (c + 1) 1 = nI H := (hc6 1 (by omega)).trans hH
  have hR6 : R ≤ 6 ∧ H ≤ 4 := by rcases hRH with h | h <;> omega
  have hRk : (R = 0 ∧ f 85 1 = nI 0) ∨ (1 ≤ R ∧ R ≤ 6 ∧ f 85 1 = nI 1) := hRH.imp (fun h => ⟨h.1, h.2.2⟩) (fun h => ⟨by omega, h.2.1, h.2.2.2.2⟩)
  obtain ⟨cd, hcd⟩ := I_pg_cd hpg
  obtain ⟨p1, p2, p3, p4⟩ := hpg
  have s67 := mo_s85 hM
  have r0 : zr S 0 0 = some 1 := cl_r0_0 hS
  have h0 : zsh S 0 = some (9, 20) := cl_s0 hS
  have h1 : zsh S 1 = some (5, 2) := cl_s1 hS
  have h2 : zsh S 2 = some (20, 50) := cl_s2 hS
  have r1 : zr S 1 0 = some 2 := cl_r1_0 hS
  have hzz := cl_zz hS
  have htz := cl_tz hS
  obtain ⟨k, s, t1, t2, t3⟩ := tst_first sRi (0, 0, fun _ => 0, fun _ => 0) cd pl
  have rr : zr S 0 8 = some r' := cl_r' hS
  have rc : zr S 0 7 = some r := cl_r hS
  have hRv' := cl_Rv' hS
  obtain ⟨F, a1, a2, a3⟩ := eC_readsRiver n (S := S) (f := f) (t := r') hn hRv' (by omega) h1 h2 r1 p1 p2 (fun i hi => ⟨(hcd i hi).2.1, (hcd i hi).1⟩) t1 t2 t3
  by_cases hw : k = pl ∧ 1 ≤ s.1 ∧ 4 ≤ s.2.1
  · rw [if_pos hw] at a1
    have hkp := hw.1
    obtain ⟨i1, i2, i3, i4⟩ := a2 hkp
    obtain ⟨v1, v2, v3, v4, v5, v6, v7⟩ := i1
    obtain ⟨S2, hS2⟩ : ∃ S2, S2 = zpr (zpr S 0 7 (some r')) 0 8 (some r) := ⟨_, rfl⟩
    have s2h : zsh S2 = zsh S := by rw [hS2]; rfl
    have s2z : zsz S2 = zsz S := by rw [hS2]; rfl
    have s2r : ∀ x y, ¬ (x = 0 ∧ (y = 7 ∨ y = 8)) → zr S2 x y = zr S x y := fun x y q => by rw [hS2, zpr_r, zpr_r, z2n (by omega), z2n (by omega)]
    have L0 : zLow S S2 (zsz S) (fun x _ => x = 0) := ⟨fun x _ => by rw [s2h], fun x y _ q => s2r x y (fun z => q z.1)⟩
    have Lx : zLow S S2 (zsz S) xChg := ⟨fun x _ => by rw [s2h], fun x y _ q => s2r x y (fun z => q (by unfold xChg; omega))⟩
    have k4 : zr S2 0 7 = some r' := by rw [hS2, zpr_r, zpr_r, z2n (by omega)]; exact z2_eq _ _ _ _
    have k5 : zr S2 0 8 = some r := by rw [hS2, zpr_r]; exact z2_eq _ _ _ _
    have hS' : zKl S2 c c' r' r tr := zKl_low Lx hS ((s2r _ _ (by omega)).trans (cl_c hS)) ((s2r _ _ (by omega)).trans (cl_c' hS)) k4 k5 ((s2r _ _ (by omega)).trans (cl_tr hS)) (Or.inl ⟨rfl, rfl⟩) (Or.inr ⟨rfl, rfl⟩) (zRw_low L0 htz (fun _ => by omega) (cl_Rw hS)) htt (by omega) (by omega)
    have hM' := cl_M hS'
    obtain ⟨Z2, hZ2⟩ : ∃ Z2, Z2 = z2 F 1 1 (nI 0) := ⟨_, rfl⟩
    have zc : ∀ a j, ¬ (a = 1 ∧ j = 1) → Z2 a j = F a j := fun a j q => by rw [hZ2]; exact z2_ne _ _ _ _ q
    obtain ⟨G, b1, b2, b3, b4, b6⟩ := eM_readRiver n (S := S2) (f := Z2) hn hM' p1 ((zc 85 27 (by omega)).trans ((a3 85 27 (by omega)).trans p3)) (fun i hi => ⟨(zc 105 i (by omega)).trans ((a3 105 i (by omega)).trans (hcd i hi).2.2), (hcd i hi).1⟩) t1 t2 t3
    rw [if_pos hw] at b3
    obtain ⟨-, j2, j3⟩ := b4 hkp
    have e01 : ∀ j, j < s.2.1 → nI (s.2.2.2 j) = nI 0 ∨ nI (s.2.2.2 j) = nI 1 := fun j hj => by
      have := (v5 j hj).2
      have h01 : s.2.2.2 j = 0 ∨ s.2.2.2 j = 1 := by omega
      rcases h01 with q | q
      · exact Or.inl (by rw [q])
      · exact Or.inr (by rw [q])
    obtain ⟨Z, x1, x2, x4, x5⟩ := eM_river25 n (F := z2 G 85 23 (nI s.2.1)) (m := s.2.1) hn hM' v4 (z2_eq _ _ _ _) (fun j hj => by rw [z2n (by omega), (j3 j hj).2]; exact e01 j hj)
    have ag2 : ∀ a j, a ≠ 103 → a ≠ 104 → ¬ (a = 85 ∧ (j = 23 ∨ j = 27 ∨ j = 36 ∨ j = 37 ∨ j = 39 ∨ j = 42)) → ¬ (110 ≤ a ∧ a ≤ 114) → Z a j = Z2 a j := fun a j q1 q2 q3 q4 => by
      rw [x5 a j q1 q2 (by omega), z2n (by omega), b6 a j (by unfold mScr; omega)]
    have ag : ∀ a j, a ≠ 103 → a ≠ 104 → ¬ (a = 85 ∧ (j = 23 ∨ j = 27 ∨ j = 36 ∨ j = 37 ∨ j = 39 ∨ j = 42)) → ¬ (110 ≤ a ∧ a ≤ 114) → ¬ (a = 1 ∧ j = 1) → ¬ (r' ≤ a ∧ a ≤ r' + 4) → Z a j = f a j := fun a j q1 q2 q3 q4 q5 q6 => by
      rw [ag2 a j q1 q2 q3 q4, zc a j q5, a3 a j (by omega)]
    have f0 : zsh S2 0 = some (9, 20) := by rw [s2h]; exact h0
    have f1 : zsh S2 1 = some (5, 2) := by rw [s2h]; exact h1
    have fr : zsh S2 r' = some (7, 6) := by rw [s2h]; exact hRv'.1
    have n0 : zr S2 0 0 = some 1 := (s2r _ _ (by omega)).trans r0
    have p11 : F 1 1 = nI pl := (a3 1 1 (by omega)).trans p2
    refine ⟨nI s.2.1, zwi S2 Z2, zwi S2 Z, ?_, ?_, ?_⟩
    · unfold F_X10_river
      simp (disch := omega) only [zv, e_gi, e_gr, e_gl, e_si, e_sb, e_ai, e_ar, e_ti, e_ty, e_tz, e_cv, zc_some, zmo_some, zin_T, ↓reduceIte, zit_succ, zzr0, zzr1, true_and, and_true, and_self, or_false, false_or, or_true, true_or, not_true_eq_false, not_false_eq_true, zl0, zl1, zl2, zl3, zl4, zl5, zl6, zl7, zl8, zl9, zl10, zl11, zl12, zl20, zl24, zl31, zl36, zl40, zl42, zl44, zl48, zl49, zl50, zl55, zl57, zl60, zl97, zl99, zl100, zl102, zl104, zl109, zl113, zl114, zl119, zl126, zl255, zl400, zl1000, zl101, zl103, zl1001, zl1002, zl16, zl18, zl32, zl35, zl443, n_leT, n_leF, n_ltT, n_ltF, n_eqT, n_eqF, n_swT, n_swF, nI_add, n_sub, pk_mul, zd_n, r0, rr, rc, h0, h1, a1, e_sr, zpr_sh, zpr_r, z2_eq, z2n]
      rw [← hS2, hZ2]
      simp (disch := omega) only [F_X5_clear, zv, e_gi, e_gr, e_gl, e_si, e_sb, e_ai, e_ar, e_ti, e_ty, e_tz, e_cv, zc_some, zmo_some, zin_T, ↓reduceIte, zit_succ, zzr0, zzr1, true_and, and_true, and_self, or_false, false_or, or_true, true_or, not_true_eq_false, not_false_eq_true, zl0, zl1, zl2, zl3, zl4, zl5, zl6, zl7, zl8, zl9, zl10, zl11, zl12, zl20, zl24, zl31, zl36, zl40, zl42, zl44, zl48, zl49, zl50, zl55, zl57, zl60, zl97, zl99, zl100, zl102, zl104, zl109, zl113, zl114, zl119, zl126, zl255, zl400, zl1000, zl101, zl103, zl1001, zl1002, zl16, zl18, zl32, zl35, zl443, n_leT, n_leF, n_ltT, n_ltF, n_eqT, n_eqF, n_swT, n_swF, nI_add, n_sub, pk_mul, zd_n, n0, f0, f1, fr, z2_eq, z2n, p11, k4, i3]
    · unfold F_X11_river
      simp (disch := omega) only [zv, e_gi, e_gr, e_gl, e_si, e_sb, e_ai, e_ar, e_ti, e_ty, e_tz, e_cv, zc_some, zmo_some, zin_T, ↓reduceIte, zit_succ, zzr0, zzr1, true_and, and_true, and_self, or_false, false_or, or_true, true_or, not_true_eq_false, not_false_eq_true, zl0, zl1, zl2, zl3, zl4, zl5, zl6, zl7, zl8, zl9, zl10, zl11, zl12, zl20, zl24, zl31, zl36, zl40, zl42, zl44, zl48, zl49, zl50, zl55, zl57, zl60, zl97, zl99, zl100, zl102, zl104, zl109, zl113, zl114, zl119, zl126, zl255, zl400, zl1000, zl101, zl103, zl1001, zl1002, zl16, zl18, zl32, zl35, zl443, n_leT, n_leF, n_ltT, n_ltF, n_eqT, n_eqF, n_swT, n_swF, nI_add, n_sub, pk_mul, zd_n, s67, mo_s85 hM', b1, b3, j2, x1]
    · refine zI_ok (S := S2) (r := r') (r' := r) (pl := 0) (pt := s.2.1) ⟨hS', ⟨by omega, ?_, x4, fun i hi => by omega⟩, I_do_lx L0 (fun _ => by omega) hzz (by omega) (I_do_c (fun a k q => ag a k (by omega) (by omega) (by omega) (by omega) (by omega) (by omega)) (fun k hk j => by have h9 := (hdo.2.2.2.2.2 k hk).2.2.1; exact ag _ _ (by omega) (by omega) (by omega) (by omega) (by omega) (by omega)) hdo), I_cu_c (fun a k q => ag a k (by omega) (by omega) (by omega) (by omega) (by omega) (by omega)) ⟨hc6, hR, hH, hRH, hu2, hu3, hu4, hcu, hcu2⟩, by omega, I_lv_c (fun a k q => ag a k (by omega) (by omega) (by omega) (by omega) (by omega) (by omega)) hlv, I_br_c (fun a k q => ag a k (by omega) (by omega) (by omega) (by omega) (by omega) (by omega)) hbr, I_wa_c (fun a k q => ag a k (by omega) (by omega) (by omega) (by omega) (by omega) (by omega)) hwa, I_rw_lx L0 (fun x y hx => by omega) hzz htz (I_rw_c (fun a k q => ag a k (by omega) (by omega) (by omega) (by omega) (by omega) (by omega)) (fun k hk a j q => by have h9 := (hrw.2.2.2 k hk).2.2; have h8 := h9.1; have h7 := h9.2.1; exact ag _ _ (by omega) (by omega) (by omega) (by omega) (by omega) (by omega)) hrw), I_pi_c (fun a k q => ag a k (by omega) (by omega) (by omega) (by omega) (by omega) (by omega)) hpi, ⟨Or.inr hw.2.2, v4, ?_, ?_, fun p hp => ?_⟩, I_fi_c (fun a k q => ag a k (by omega) (by omega) (by omega) (by omega) (by omega) (by omega)) hfi, I_im_c (fun a k q => ag a k (by omega) (by omega) (by omega) (by omega) (by omega) (by omega)) him⟩
      · rw [ag2 1 1 (by omega) (by omega) (by omega) (by omega), hZ2]
        exact z2_eq _ _ _ _
      · rw [ag2 _ _ (by omega) (by omega) (by omega) (by omega), zc _ _ (by omega)]
        exact i3
      · rw [x5 85 23 (by omega) (by omega) (by omega)]
        exact z2_eq _ _ _ _
      · have y1 : Z (r' + 1) p = nI (s.2.2.1 p) := by
          rw [ag2 _ _ (by omega) (by omega) (by omega) (by omega), zc _ _ (by omega)]
          exact (i4 p hp).1
        have y2 : Z (r' + 2) p = nI (s.2.2.2 p) := by
          rw [ag2 _ _ (by omega) (by omega) (by omega) (by omega), zc _ _ (by omega)]
          exact (i4 p hp).2
        have y3 : Z 103 p = nI (s.2.2.1 p) := by rw [(x2 p hp).1, z2n (by omega)]; exact (j3 p hp).1
        have y4 : Z 104 p = nI (s.2.2.2 p) := by rw [(x2 p hp).2, z2n (by omega)]; exact (j3 p hp).2
        rw [y1, y2, y3, y4]
        exact ⟨rfl, rfl, ⟨_, (v5 p hp).1, rfl⟩, e01 p hp⟩
  · rw [if_neg hw] at a1
    obtain ⟨G, b1, b2, b3, -, b6⟩ := eM_readRiver n (S := S) (f := F) hn hM p1 ((a3 85 27 (by omega)).trans p3) (fun i hi => ⟨(a3 105 i (by omega)).trans (hcd i hi).2.2, (hcd i hi).1⟩) t1 t2 t3
    rw [if_neg hw] at b3
    exact ⟨-nI 103, zwi S F, zwi S G, by unfold F_X10_river; simp (disch := omega) only [zv, e_gi, e_gr, e_gl, e_si, e_sb, e_ai, e_ar, e_ti, e_ty, e_tz, e_cv, zc_some, zmo_some, zin_T, ↓reduceIte, zit_succ, zzr0, zzr1, true_and, and_true, and_self, or_false, false_or, or_true, true_or, not_true_eq_false, not_false_eq_true, zl0, zl1, zl2, zl3, zl4, zl5, zl6, zl7, zl8, zl9, zl10, zl11, zl12, zl20, zl24, zl31, zl36, zl40, zl42, zl44, zl48, zl49, zl50, zl55, zl57, zl60, zl97, zl99, zl100, zl102, zl104, zl109, zl113, zl114, zl119, zl126, zl255, zl400, zl1000, zl101, zl103, zl1001, zl1002, zl16, zl18, zl32, zl35, zl443, n_leT, n_leF, n_ltT, n_ltF, n_eqT, n_eqF, n_swT, n_swF, nI_add, n_sub, pk_mul, zd_n, r0, rr, h0, h1, a1], by unfold F_X11_river; simp (disch := omega) only [zv, e_gi, e_gr, e_gl, e_si, e_sb, e_ai, e_ar, e_ti, e_ty, e_tz, e_cv, zc_some, zmo_some, zin_T, ↓reduceIte, zit_succ, zzr0, zzr1, true_and, and_true, and_self, or_false, false_or, or_true, true_or, not_true_eq_false, not_false_eq_true, zl0, zl1, zl2, zl3, zl4, zl5, zl6, zl7, zl8, zl9, zl10, zl11, zl12, zl20, zl24, zl31, zl36, zl40, zl42, zl44, zl48, zl49, zl50, zl55, zl57, zl60, zl97, zl99, zl100, zl102, zl104, zl109, zl113, zl114, zl119, zl126, zl255, zl400, zl1000, zl101, zl103, zl1001, zl1002, zl16, zl18, zl32, zl35, zl443, n_leT, n_leF, n_ltT, n_ltF, n_eqT, n_eqF, n_swT, n_swF, nI_add, n_sub, pk_mul, zd_n, s67, b1, b3], zI_ok (zI_scr hI' rfl rfl rfl (fun a j q => by unfold zScr at q; rw [b6 a j (by unfold mScr; omega), a3 a j (by omega)]))⟩
