theorem dg_cg {F f : Nat → Nat → Int32} (h : ∀ a j, a < 44 ∨ 50 < a → F a j = f a j) (R H nd nl nr np pt pl : Nat) (cn : Nat → Int32) (v : Int64) :
    mF cn (mF (F 105) (mG (F 103) (F 104) (mG (F 101) (F 102) (dRw F R H nd nl (dLv F H (mG (F 89) (F 90) (if R = 0 then v else dCup F R H v) nd) nl) nr) np) pt) pl) 9 = mF cn (mF (f 105) (mG (f 103) (f 104) (mG (f 101) (f 102) (dRw f R H nd nl (dLv f H (mG (f 89) (f 90) (if R = 0 then v else dCup f R H v) nd) nl) nr) np) pt) pl) 9 := by
  have e : ∀ a, a < 44 ∨ 50 < a → F a = f a := fun a q => by
    funext j
    exact h a j q
  have eW : gW F = gW f := by
    unfold gW
    rw [e 87 (by omega)]
  have eA : ∀ l, qAbout F H l = qAbout f H l := fun l => by
    funext a
    unfold qAbout
    rw [eW, e 91 (by omega), e 92 (by omega), e 93 (by omega), e 94 (by omega), e 95 (by omega)]
  have eL : ∀ v, dLv F H v nl = dLv f H v nl := fun v => by
    unfold dLv
    simp only [eA]
  have eE : ∀ k, qE F R H nd k = qE f R H nd k := fun k => by
    funext l
    unfold qE
    rw [(q_cg (f := f) (f' := F) (fun a q => e a (by omega)) R H nd k _ _ _ _).1, e 98 (by omega), e 93 (by omega), e 94 (by omega), e 92 (by omega)]
  have eR : ∀ v, dRw F R H nd nl v nr = dRw f R H nd nl v nr := fun v => by
    unfold dRw dRow
    simp only [eE, e 98 (by omega), e 99 (by omega), e 100 (by omega)]
  have eC : dCup F R H v = dCup f R H v := by
    unfold dCup dRd
    simp only [eW, e 97 (by omega), e 87 (by omega), e 86 (by omega)]
  rw [eC, eL, eR, e 105 (by omega), e 103 (by omega), e 104 (by omega), e 101 (by omega), e 102 (by omega), e 89 (by omega), e 90 (by omega)]
theorem k_digest {g n : Nat} (hn : 513 < n) {h : zH} (hI : zInv g h) : zOk g (F_X10_digest n h 0) (fun h => F_X11_digest n h 85) := by
  obtain ⟨S, f, c, c', r, r', tr, pl, nd, da, R, H, cu, nl, nr, ra, np, pt, fi, rfl, hI⟩ := hI
  have hI' := hI
  obtain ⟨hS, hpg, hdo, ⟨hc6, hR, hH, hRH, hu2, hu3, hu4, hcu, hcu2⟩, hg, hlv, hbr, hwa, hrw, hpi, hrv, hfi, him⟩ := hI
  have hM := cl_M hS
  have hC := cl_Cu hS
  have hcc := cl_cc hS
  have hrr := cl_rr hS
  have htt := cl_tt hS
  have hR1 : f (c + 1) 0 = nI R := (hc6 0 (by omega)).trans hR
  have hH1 : f (c + 1) 1 = nI H := (hc6 1 (by omega)).trans hH
  have hR6 : R ≤ 6 ∧ H ≤ 4 := by rcases hRH with h | h <;> omega
  have hRk : (R = 0 ∧ f 85 1 = nI 0) ∨ (1 ≤ R ∧ R ≤ 6 ∧ f 85 1 = nI 1) := hRH.imp (fun h => ⟨h.1, h.2.2⟩) (fun h => ⟨by omega, h.2.1, h.2.2.2.2⟩)
  have h0 : zsh S 0 = some (9, 20) := cl_s0 hS
  have r0 : zr S 0 0 = some 1 := cl_r0_0 hS
  have s1 : zsh S 1 = some (5, 2) := cl_s1 hS
  have s2 : zsh S 2 = some (20, 50) := cl_s2 hS
  have r10 : zr S 1 0 = some 2 := cl_r1_0 hS
  have s67 := mo_s85 hM
  have hcu0 : I_cu f c R H cu := ⟨hc6, hR, hH, hRH, hu2, hu3, hu4, hcu, hcu2⟩
  obtain ⟨v1, hv1⟩ : ∃ v, v = (if R = 0 then (443 : Int64) else dCup f R H 443) := ⟨_, rfl⟩
  have c1 : F_X10_withCup n (zwi S f) 0 443 = some (v1, zwi S f) := by
    by_cases hR0 : R = 0
    · rw [if_pos hR0] at hv1
      have eC := eC_hasCup n h0 (cl_c hS) hC hR1 hR6.1
      rw [if_pos hR0] at eC
      unfold F_X10_withCup
      rw [e_cv, if_pos h0, eC, zc_some, if_pos (show nI 0 = (0 : Int32) from rfl), hv1]
    · rw [if_neg hR0] at hv1
      rw [hv1]
      exact eC_dCup n hn hS hcu0 (by omega) hbr hwa
  have c2 := eC_dDo n (h := v1) hn hS hdo
  have c3 := eC_dLv n (h := mG (f 89) (f 90) v1 nd) hn hS hcu0 hlv hbr
  obtain ⟨F, c4, hF⟩ := eC_dRw n (h := dLv f H (mG (f 89) (f 90) v1 nd) nl) hn hI'
  have hI2 := zI_scr hI' (S' := S) (f' := F) rfl rfl rfl (fun a j q => hF a j (by unfold zScr at q; omega))
  have hI3 := hI2
  obtain ⟨-, gpg, gdo, gcu, -, glv, gbr, gwa, grw, gpi, grv, gfi, gim⟩ := hI3
  have e : ∀ a, a < 44 ∨ 50 < a → F a = f a := fun a q => by
    funext j
    exact hF a j q
  have c5 := eC_dPi n (h := dRw f R H nd nl (dLv f H (mG (f 89) (f 90) v1 nd) nl) nr) hn hS gpi
  have c6 := eC_dRv n (h := mG (F 101) (F 102) (dRw f R H nd nl (dLv f H (mG (f 89) (f 90) v1 nd) nl) nr) np) hn hS grv
  rw [e 101 (by omega), e 102 (by omega)] at c5 c6
  rw [e 103 (by omega), e 104 (by omega)] at c6
  obtain ⟨v6, hv6⟩ : ∃ v, v = mG (f 103) (f 104) (mG (f 101) (f 102) (dRw f R H nd nl (dLv f H (mG (f 89) (f 90) v1 nd) nl) nr) np) pt := ⟨_, rfl⟩
  rw [← hv6] at c6
  have c8 : ∀ v, F_X10_digest_L78 n (zwi S F) 0 v (nI 0) = some (mF (dCn R nd nl nr np pt pl cu fi) v 9, zwi S F) := fun v => by
    unfold F_X10_digest_L78
    refine zfor0 (fun i => (zwi S F, mF (dCn R nd nl nr np pt pl cu fi) v i, nI i)) 9 rfl (fun kc i hi => ?_) (fun kc => ?_) (by omega)
    · have ec := eC_cnt n hI2 hi
      simp (disch := omega) only [F_X10_digest_B78, zv, e_gi, e_gr, e_gl, e_si, e_sb, e_ai, e_ar, e_ti, e_ty, e_tz, e_cv, zc_some, zmo_some, zin_T, ↓reduceIte, zit_succ, zzr0, zzr1, true_and, and_true, and_self, or_false, false_or, or_true, true_or, not_true_eq_false, not_false_eq_true, zl0, zl1, zl2, zl3, zl4, zl5, zl6, zl7, zl8, zl9, zl10, zl11, zl12, zl20, zl24, zl31, zl36, zl40, zl42, zl44, zl48, zl49, zl50, zl55, zl57, zl60, zl97, zl99, zl100, zl102, zl104, zl109, zl113, zl114, zl119, zl126, zl255, zl400, zl1000, zl101, zl103, zl1001, zl1002, zl16, zl18, zl32, zl35, zl443, n_leT, n_leF, n_ltT, n_ltF, n_eqT, n_eqF, n_swT, n_swF, nI_add, n_sub, pk_mul, zd_n, h0, ec, mF_s]
    · simp (disch := omega) only [F_X10_digest_B78, zv, e_gi, e_gr, e_gl, e_si, e_sb, e_ai, e_ar, e_ti, e_ty, e_tz, e_cv, zc_some, zmo_some, zin_T, ↓reduceIte, zit_succ, zzr0, zzr1, true_and, and_true, and_self, or_false, false_or, or_true, true_or, not_true_eq_false, not_false_eq_true, zl0, zl1, zl2, zl3, zl4, zl5, zl6, zl7, zl8, zl9, zl10, zl11, zl12, zl20, zl24, zl31, zl36, zl40, zl42, zl44, zl48, zl49, zl50, zl55, zl57, zl60, zl97, zl99, zl100, zl102, zl104, zl109, zl113, zl114, zl119, zl126, zl255, zl400, zl1000, zl101, zl103, zl1001, zl1002, zl16, zl18, zl32, zl35, zl443, n_leT, n_leF, n_ltT, n_ltF, n_eqT, n_eqF, n_swT, n_swF, nI_add, n_sub, pk_mul, zd_n]
  have p1 := gpg.1
  have p2 := gpg.2.1
  have p4 := gpg.2.2.2
  have c7 : F_X10_digest_L42 n (zwi S F) 0 v6 (nI 0) = some (mF (dCn R nd nl nr np pt pl cu fi) (mF (f 105) v6 pl) 9, zwi S F) := by
    unfold F_X10_digest_L42
    refine zfor0 (fun i => (zwi S F, mF (f 105) v6 i, nI i)) pl rfl (fun kc i hi => ?_) (fun kc => ?_) (by omega)
    · obtain ⟨cd, -, q1, q2⟩ := p4 i hi
      have q3 : F 2 i = f 105 i := by
        rw [q1, ← q2]
        exact hF 105 i (by omega)
      simp (disch := omega) only [F_X10_digest_B42, zv, e_gi, e_gr, e_gl, e_si, e_sb, e_ai, e_ar, e_ti, e_ty, e_tz, e_cv, zc_some, zmo_some, zin_T, ↓reduceIte, zit_succ, zzr0, zzr1, true_and, and_true, and_self, or_false, false_or, or_true, true_or, not_true_eq_false, not_false_eq_true, zl0, zl1, zl2, zl3, zl4, zl5, zl6, zl7, zl8, zl9, zl10, zl11, zl12, zl20, zl24, zl31, zl36, zl40, zl42, zl44, zl48, zl49, zl50, zl55, zl57, zl60, zl97, zl99, zl100, zl102, zl104, zl109, zl113, zl114, zl119, zl126, zl255, zl400, zl1000, zl101, zl103, zl1001, zl1002, zl16, zl18, zl32, zl35, zl443, n_leT, n_leF, n_ltT, n_ltF, n_eqT, n_eqF, n_swT, n_swF, nI_add, n_sub, pk_mul, zd_n, h0, r0, s1, s2, r10, p2, q3, mF_s]
    · simp (disch := omega) only [F_X10_digest_B42, zv, e_gi, e_gr, e_gl, e_si, e_sb, e_ai, e_ar, e_ti, e_ty, e_tz, e_cv, zc_some, zmo_some, zin_T, ↓reduceIte, zit_succ, zzr0, zzr1, true_and, and_true, and_self, or_false, false_or, or_true, true_or, not_true_eq_false, not_false_eq_true, zl0, zl1, zl2, zl3, zl4, zl5, zl6, zl7, zl8, zl9, zl10, zl11, zl12, zl20, zl24, zl31, zl36, zl40, zl42, zl44, zl48, zl49, zl50, zl55, zl57, zl60, zl97, zl99, zl100, zl102, zl104, zl109, zl113, zl114, zl119, zl126, zl255, zl400, zl1000, zl101, zl103, zl1001, zl1002, zl16, zl18, zl32, zl35, zl443, n_leT, n_leF, n_ltT, n_ltF, n_eqT, n_eqF, n_swT, n_swF, nI_add, n_sub, pk_mul, zd_n, h0, r0, s1, p2, c8]
  -- the reference
  have fR0 : F 86 0 = nI R := (hF 86 0 (by omega)).trans hR
  have fH0 : F 86 1 = nI H := (hF 86 1 (by omega)).trans hH
  obtain ⟨u1, hu1⟩ : ∃ v, v = (if R = 0 then (443 : Int64) else dCup F R H 443) := ⟨_, rfl⟩
  have m1 : ∃ F', (∀ X, F_X11_digest_J18 n (zwi (zpl S 85 50 u1) F') 85 = X → F_X11_digest n (zwi S F) 85 = X) ∧ mA F' F := by
    rcases hRk with ⟨hR0, h1⟩ | ⟨hR0, -, h1⟩
    · rw [if_pos hR0] at hu1
      have f1 : F 85 1 = nI 0 := (hF 85 1 (by omega)).trans h1
      refine ⟨F, fun X hX => ?_, fun _ _ _ _ => rfl⟩
      unfold F_X11_digest
      rw [e_sl, if_pos s67, e_gi, T_sh, if_pos s67, f1, if_pos (show nI 0 = (0 : Int32) from rfl), ← hu1]
      exact hX
    · rw [if_neg (by omega)] at hu1
      have f1 : F 85 1 = nI 1 := (hF 85 1 (by omega)).trans h1
      obtain ⟨F', t1, t2⟩ := eM_mixCup n (S := S) (f := F) (F := F) (R := R) (H := H) (v := 443) hn hM (fun _ _ _ _ => rfl) fR0 fH0 hR0 hR6.1 (by omega) hR6.2
      refine ⟨F', fun X hX => ?_, t2⟩
      unfold F_X11_digest
      rw [e_sl, if_pos s67, e_gi, T_sh, if_pos s67, f1, if_neg (show ¬ nI 1 = (0 : Int32) by decide), e_cv, T_sh, if_pos s67, t1, zc_some, ← hu1]
      exact hX
  obtain ⟨F', m2, hF'⟩ := m1
  obtain ⟨d1, d2, d3, d4, d5, d6⟩ := gdo
  obtain ⟨G, D, hD, m4, hG⟩ := eM_leavesL n hn hI2 hF' (mG (F 89) (F 90) u1 nd)
  have e71 := mA_r hF' (a := 89) (by omega) (by omega)
  have e72 := mA_r hF' (a := 90) (by omega) (by omega)
  have f5 : F' 85 5 = nI nd := (hF' 85 5 (by omega) (by omega)).trans d3
  have em := fun v x => eM_mix n (S := S) (F := F') (v := v) (x := x) s67
  have m5 : F_X11_digest_J18 n (zwi (zpl S 85 50 u1) F') 85 = some (D, zwi (zpl S 85 50 D) G) := by
    unfold F_X11_digest_J18 F_X11_digest_L20
    refine zfor0 (fun i => (zwi (zpl S 85 50 (mG (F 89) (F 90) u1 i)) F', nI i)) nd rfl (fun kc i hi => ?_) (fun kc => ?_) (by omega)
    · simp (disch := omega) only [F_X11_digest_B20, zv, e_gi, e_gr, e_gl, e_si, e_sb, e_ai, e_ar, e_ti, e_ty, e_tz, e_cv, zc_some, zmo_some, zin_T, ↓reduceIte, zit_succ, zzr0, zzr1, true_and, and_true, and_self, or_false, false_or, or_true, true_or, not_true_eq_false, not_false_eq_true, zl0, zl1, zl2, zl3, zl4, zl5, zl6, zl7, zl8, zl9, zl10, zl11, zl12, zl20, zl24, zl31, zl36, zl40, zl42, zl44, zl48, zl49, zl50, zl55, zl57, zl60, zl97, zl99, zl100, zl102, zl104, zl109, zl113, zl114, zl119, zl126, zl255, zl400, zl1000, zl101, zl103, zl1001, zl1002, zl16, zl18, zl32, zl35, zl443, n_leT, n_leF, n_ltT, n_ltF, n_eqT, n_eqF, n_swT, n_swF, nI_add, n_sub, pk_mul, zd_n, T_sh, T_r, s67, mo_r6 hM, mo_s89 hM, mo_r7 hM, mo_s90 hM, f5, e71, e72, em, mG_s]
    · simp (disch := omega) only [F_X11_digest_B20, zv, e_gi, e_gr, e_gl, e_si, e_sb, e_ai, e_ar, e_ti, e_ty, e_tz, e_cv, zc_some, zmo_some, zin_T, ↓reduceIte, zit_succ, zzr0, zzr1, true_and, and_true, and_self, or_false, false_or, or_true, true_or, not_true_eq_false, not_false_eq_true, zl0, zl1, zl2, zl3, zl4, zl5, zl6, zl7, zl8, zl9, zl10, zl11, zl12, zl20, zl24, zl31, zl36, zl40, zl42, zl44, zl48, zl49, zl50, zl55, zl57, zl60, zl97, zl99, zl100, zl102, zl104, zl109, zl113, zl114, zl119, zl126, zl255, zl400, zl1000, zl101, zl103, zl1001, zl1002, zl16, zl18, zl32, zl35, zl443, n_leT, n_leF, n_ltT, n_ltF, n_eqT, n_eqF, n_swT, n_swF, nI_add, n_sub, pk_mul, zd_n, T_sh, s67, f5, m4]
  have hDD : D = mF (dCn R nd nl nr np pt pl cu fi) (mF (f 105) v6 pl) 9 := by
    rw [hD, hu1, dg_cg hF, hv6, hv1]
  refine ⟨D, zwi S F, zwi (zpl S 85 50 D) G, ?_, m2 _ m5, zI_inv (zI_scr hI' rfl rfl rfl (fun a j q => ?_)), s67⟩
  · unfold F_X10_digest
    rw [e_cv, if_pos h0, c1, zc_some, e_cv, if_pos h0, c2, zc_some, e_cv, if_pos h0, c3, zc_some, e_cv, if_pos h0, c4, zc_some, e_cv, if_pos h0, c5, zc_some, e_cv, if_pos h0, c6, zc_some, hDD]
    exact c7
  · unfold zScr at q
    rw [hG a j (by omega) (by omega), hF a j (by omega)]
