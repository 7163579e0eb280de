theorem e_tr {β : Type} (S : zH) (f : Nat → Nat → Int32) (a kd k b ci n : Nat) (kk : zH → Option β) (hk : k < 2147483648) : ztr (zwi S f) a kd (nI k) b ci n kk = if zin (zsh S a) kd k = true ∧ zsh S b = some (ci, n) then kk (zwi (zpr S a k (some b)) f) else none := by
  unfold ztr
  rw [zat_zin hk, nI_clamp hk]
  rfl
theorem e_sr {β : Type} (S : zH) (f : Nat → Nat → Int32) (a ci n k b : Nat) (kk : zH → Option β) : zsr (zwi S f) a ci n k b kk = if zsh S a = some (ci, n) then kk (zwi (zpr S a k (some b)) f) else none := rfl
theorem zpr_sh (S : zH) (a k : Nat) (v : Option Nat) : zsh (zpr S a k v) = zsh S := rfl
theorem zpr_sz (S : zH) (a k : Nat) (v : Option Nat) : zsz (zpr S a k v) = zsz S := rfl
theorem zpr_r (S : zH) (a k : Nat) (v : Option Nat) : zr (zpr S a k v) = z2 (zr S) a k v := rfl
theorem znew_sz (S : zH) (kd n : Nat) : zsz (znew S kd n) = zsz S + 1 := rfl
theorem znew_shN (S : zH) (kd n : Nat) : zsh (znew S kd n) (zsz S) = some (kd, n) := if_pos rfl
theorem znew_sh (S : zH) (kd n : Nat) {x : Nat} (h : x < zsz S) : zsh (znew S kd n) x = zsh S x := if_neg (by omega)
theorem znew_r (S : zH) (kd n : Nat) {x : Nat} (h : x < zsz S) (y : Nat) : zr (znew S kd n) x y = zr S x y := if_neg (by omega)
theorem I_rw_lw {S S' : zH} {f : Nat → Nat → Int32} {nr tr : Nat} {ra : Nat → Nat} (L : zLow S S' (zsz S) (fun x _ => x = 4)) (hz : 117 ≤ zsz S) (ht : tr + 2 < zsz S) (h : I_rw S f nr ra tr) : I_rw S' f nr ra tr := by
  obtain ⟨⟨h1, h1', h1''⟩, h2, h3, h6⟩ := h
  refine ⟨⟨h1, h1', zSp_low L (fun x _ q => by omega) hz h1''⟩, h2, h3, fun k hk => ?_⟩
  obtain ⟨k1, k2, k3, k4, k5⟩ := h6 k hk
  exact ⟨(L.2 _ _ (by omega) (by omega)).trans k1, zRw_low L (by omega) (fun _ => by omega) k2, k3, k4, k5⟩
theorem qTo_n {p q : Int32} (h : qTo p q) : (∃ x, x ≤ 4 ∧ p = nI x) ∧ ∃ y, y ≤ 40 ∧ q = nI y := by
  rcases h with ⟨h1, h2⟩ | ⟨h1, h2⟩ | ⟨h1, h2⟩ | ⟨h1, h2⟩
  · exact ⟨⟨0, by omega, h1⟩, 0, by omega, h2⟩
  · exact ⟨⟨4, by omega, h1⟩, 0, by omega, h2⟩
  · obtain ⟨y, -, hy, e⟩ := qIn_n (a := 1) (b := 20) (by omega) h2 (by omega)
    refine ⟨?_, y, by omega, e⟩
    rcases h1 with h1 | h1
    · exact ⟨1, by omega, h1⟩
    · exact ⟨2, by omega, h1⟩
  · obtain ⟨y, -, hy, e⟩ := qIn_n (a := 1) (b := 40) (by omega) h2 (by omega)
    exact ⟨⟨3, by omega, h1⟩, y, by omega, e⟩
theorem k_doing {g n : Nat} (hn : 513 < n) {h : zH} (hI : zInv g h) (p q : Int32) : zOk g (F_X10_doing n h 0 p q) (fun h => F_X11_doing n h 85 p q) := by
  obtain ⟨S, f, c, c', r, r', tr, pl, nd, da, R, H, cu, nl, nr, ra, np, pt, fi, rfl, hI⟩ := hI
  have hI' := hI
  obtain ⟨hS, hpg, hdo, ⟨hc6, hR, hH, hRH, hu2, hu3, hu4, hcu, hcu2⟩, hg, hlv, hbr, hwa, hrw, hpi, hrv, hfi, him⟩ := hI
  have hM := cl_M hS
  have hC := cl_Cu hS
  have hcc := cl_cc hS
  have hrr := cl_rr hS
  have htt := cl_tt hS
  have hR1 : f (c + 1) 0 = nI R := (hc6 0 (by omega)).trans hR
  have hH1 : f (c + 1) 1 = nI H := (hc6 1 (by omega)).trans hH
  have hR6 : R ≤ 6 ∧ H ≤ 4 := by rcases hRH with h | h <;> omega
  have hRk : (R = 0 ∧ f 85 1 = nI 0) ∨ (1 ≤ R ∧ R ≤ 6 ∧ f 85 1 = nI 1) := hRH.imp (fun h => ⟨h.1, h.2.2⟩) (fun h => ⟨by omega, h.2.1, h.2.2.2.2⟩)
  have hzz := cl_zz hS
  have htz := cl_tz hS
  obtain ⟨d1, d2, d3, d4, d5, d6⟩ := hdo
  have hto := qTo_in p q
  rcases eC_told n (zwi S f) p q with ⟨ht, e1⟩ | ⟨ht, e1⟩
  · obtain ⟨i1, i2⟩ := hto.mp ht
    by_cases h8 : nd = 8
    · subst h8
      exact ⟨-nI 104, zwi S f, zwi S f, by simp (disch := omega) only [F_X10_doing, zv, e_gi, e_gr, e_gl, e_si, e_sb, e_ai, e_ar, e_ti, e_ty, e_tz, e_cv, zc_some, zmo_some, zin_T, ↓reduceIte, zit_succ, zzr0, zzr1, true_and, and_true, and_self, or_false, false_or, or_true, true_or, not_true_eq_false, not_false_eq_true, zl0, zl1, zl2, zl3, zl4, zl5, zl6, zl7, zl8, zl9, zl10, zl11, zl12, zl20, zl24, zl31, zl36, zl40, zl42, zl44, zl48, zl49, zl50, zl55, zl57, zl60, zl97, zl99, zl100, zl102, zl104, zl109, zl113, zl114, zl119, zl126, zl255, zl400, zl1000, zl101, zl103, zl1001, zl1002, zl16, zl18, zl32, zl35, zl443, n_leT, n_leF, n_ltT, n_ltF, n_eqT, n_eqF, n_swT, n_swF, nI_add, n_sub, pk_mul, zd_n, cl_s0 hS, cl_r0_0 hS, cl_r0_1 hS, cl_r0_2 hS, cl_r0_9 hS, cl_r0_12 hS, cl_r0_13 hS, cl_r0_14 hS, cl_r0_15 hS, cl_r0_16 hS, cl_r0_17 hS, cl_r0_19 hS, cl_r1_0 hS, cl_r51_0 hS, cl_r51_1 hS, cl_r51_2 hS, cl_r64_0 hS, cl_r64_1 hS, cl_s1 hS, cl_s2 hS, cl_s3 hS, cl_s4 hS, cl_s19 hS, cl_s51 hS, cl_s61 hS, cl_s62 hS, cl_s63 hS, cl_s64 hS, cl_s65 hS, cl_s66 hS, cl_c hS, cl_c' hS, cl_r hS, cl_r' hS, cl_tr hS, cl_sb hS, cl_st hS, cl_sk hS, cl_sl hS, cl_sw hS, cl_sc hS, cl_sc' hS, cl_sr hS, cl_sr' hS, cl_sq hS, mo_s85 hM, mo_r0 hM, mo_s86 hM, mo_r3 hM, mo_s87 hM, mo_r4 hM, mo_s88 hM, mo_r6 hM, mo_s89 hM, mo_r7 hM, mo_s90 hM, mo_r9 hM, mo_s91 hM, mo_r10 hM, mo_s92 hM, mo_r11 hM, mo_s93 hM, mo_r12 hM, mo_s94 hM, mo_r13 hM, mo_s95 hM, mo_r14 hM, mo_s96 hM, mo_r15 hM, mo_s97 hM, mo_r17 hM, mo_s98 hM, mo_r18 hM, mo_s99 hM, mo_r19 hM, mo_s100 hM, mo_r21 hM, mo_s101 hM, mo_r22 hM, mo_s102 hM, mo_r24 hM, mo_s103 hM, mo_r25 hM, mo_s104 hM, mo_r28 hM, mo_s105 hM, mo_r32 hM, mo_s106 hM, mo_r33 hM, mo_s107 hM, mo_r34 hM, mo_s108 hM, mo_r35 hM, mo_s109 hM, mo_r38 hM, mo_s110 hM, mo_r40 hM, mo_s111 hM, mo_r41 hM, mo_s112 hM, mo_r43 hM, mo_s113 hM, mo_r44 hM, mo_s114 hM, mo_r45 hM, mo_s115 hM, mo_r46 hM, mo_s116 hM, e1, d2], by simp only [eM_doing]; simp (disch := omega) only [F_X11_doing_J52, zv, e_gi, e_gr, e_gl, e_si, e_sb, e_ai, e_ar, e_ti, e_ty, e_tz, e_cv, zc_some, zmo_some, zin_T, ↓reduceIte, zit_succ, zzr0, zzr1, true_and, and_true, and_self, or_false, false_or, or_true, true_or, not_true_eq_false, not_false_eq_true, zl0, zl1, zl2, zl3, zl4, zl5, zl6, zl7, zl8, zl9, zl10, zl11, zl12, zl20, zl24, zl31, zl36, zl40, zl42, zl44, zl48, zl49, zl50, zl55, zl57, zl60, zl97, zl99, zl100, zl102, zl104, zl109, zl113, zl114, zl119, zl126, zl255, zl400, zl1000, zl101, zl103, zl1001, zl1002, zl16, zl18, zl32, zl35, zl443, n_leT, n_leF, n_ltT, n_ltF, n_eqT, n_eqF, n_swT, n_swF, nI_add, n_sub, pk_mul, zd_n, cl_s0 hS, cl_r0_0 hS, cl_r0_1 hS, cl_r0_2 hS, cl_r0_9 hS, cl_r0_12 hS, cl_r0_13 hS, cl_r0_14 hS, cl_r0_15 hS, cl_r0_16 hS, cl_r0_17 hS, cl_r0_19 hS, cl_r1_0 hS, cl_r51_0 hS, cl_r51_1 hS, cl_r51_2 hS, cl_r64_0 hS, cl_r64_1 hS, cl_s1 hS, cl_s2 hS, cl_s3 hS, cl_s4 hS, cl_s19 hS, cl_s51 hS, cl_s61 hS, cl_s62 hS, cl_s63 hS, cl_s64 hS, cl_s65 hS, cl_s66 hS, cl_c hS, cl_c' hS, cl_r hS, cl_r' hS, cl_tr hS, cl_sb hS, cl_st hS, cl_sk hS, cl_sl hS, cl_sw hS, cl_sc hS, cl_sc' hS, cl_sr hS, cl_sr' hS, cl_sq hS, mo_s85 hM, mo_r0 hM, mo_s86 hM, mo_r3 hM, mo_s87 hM, mo_r4 hM, mo_s88 hM, mo_r6 hM, mo_s89 hM, mo_r7 hM, mo_s90 hM, mo_r9 hM, mo_s91 hM, mo_r10 hM, mo_s92 hM, mo_r11 hM, mo_s93 hM, mo_r12 hM, mo_s94 hM, mo_r13 hM, mo_s95 hM, mo_r14 hM, mo_s96 hM, mo_r15 hM, mo_s97 hM, mo_r17 hM, mo_s98 hM, mo_r18 hM, mo_s99 hM, mo_r19 hM, mo_s100 hM, mo_r21 hM, mo_s101 hM, mo_r22 hM, mo_s102 hM, mo_r24 hM, mo_s103 hM, mo_r25 hM, mo_s104 hM, mo_r28 hM, mo_s105 hM, mo_r32 hM, mo_s106 hM, mo_r33 hM, mo_s107 hM, mo_r34 hM, mo_s108 hM, mo_r35 hM, mo_s109 hM, mo_r38 hM, mo_s110 hM, mo_r40 hM, mo_s111 hM, mo_r41 hM, mo_s112 hM, mo_r43 hM, mo_s113 hM, mo_r44 hM, mo_s114 hM, mo_r45 hM, mo_s115 hM, mo_r46 hM, mo_s116 hM, eM_in, i1, i2, d3], zI_ok (zI_scr hI' rfl rfl rfl (fun _ _ _ => rfl))⟩
    · obtain ⟨S2, hS2⟩ : ∃ S2, S2 = zpr (znew S 2 2) 4 nd (some (zsz S)) := ⟨_, rfl⟩
      obtain ⟨F, hF⟩ : ∃ F, F = z2 (z2 (z2 (fun x y => if x = zsz S then nI 0 else f x y) (zsz S) 0 p) (zsz S) 1 q) 0 3 (nI (nd + 1)) := ⟨_, rfl⟩
      obtain ⟨G, hG⟩ : ∃ G, G = z2 (z2 (z2 F 89 nd p) 90 nd q) 85 5 (nI (nd + 1)) := ⟨_, rfl⟩
      have s2h : ∀ x, x < zsz S → zsh S2 x = zsh S x := fun x hx => by rw [hS2, zpr_sh, znew_sh _ _ _ hx]
      have s2r : ∀ x y, x < zsz S → ¬ (x = 4 ∧ y = nd) → zr S2 x y = zr S x y := fun x y hx hy => by rw [hS2, zpr_r, z2_ne _ _ _ _ hy, znew_r _ _ _ hx]
      have s2z : zsz S2 = zsz S + 1 := by rw [hS2]; rfl
      have L4 : zLow S S2 (zsz S) (fun x _ => x = 4) := ⟨s2h, fun x y hx hy => s2r x y hx (fun z => hy z.1)⟩
      have Lx : zLow S S2 (zsz S) xChg := ⟨s2h, fun x y hx hy => s2r x y hx (fun z => hy (Or.inl z.1))⟩
      have fo : ∀ a j, a < zsz S → ¬ (a = 0 ∧ j = 3) → F a j = f a j := fun a j q1 q2 => by
        rw [hF, z2_ne _ _ _ _ q2, z2n (by omega), z2n (by omega)]
        exact if_neg (by omega)
      have ag : ∀ a j, a < zsz S → ¬ (a = 0 ∧ j = 3) → a ≠ 89 → a ≠ 90 → ¬ (a = 85 ∧ j = 5) → G a j = f a j := fun a j q1 q2 q3 q4 q5 => by
        rw [hG, z2_ne _ _ _ _ q5, z2n (by omega), z2n (by omega), fo a j q1 q2]
      have fN : F (zsz S) 0 = p ∧ F (zsz S) 1 = q := by
        refine ⟨?_, ?_⟩
        · rw [hF, z2n (by omega), z2n (by omega), z2_eq]
        · rw [hF, z2n (by omega), z2_eq]
      have gN : ∀ j, G (zsz S) j = F (zsz S) j := fun j => by rw [hG, z2n (by omega), z2n (by omega), z2n (by omega)]
      have f03 : F 0 3 = nI (nd + 1) := by rw [hF]; exact z2_eq _ _ _ _
      have M2 : zMo S2 := zMo_low Lx hzz (fun y q => by unfold xChg at q; omega) hM
      have r4 : zr S 0 2 = some 4 := cl_r0_2 hS
      have h4 : zsh S 4 = some (24, 8) := cl_s4 hS
      have h0 : zsh S 0 = some (9, 20) := cl_s0 hS
      have s0 : zsh (znew S 2 2) 0 = some (9, 20) := (znew_sh _ _ _ (by omega)).trans h0
      have s4 : zsh (znew S 2 2) 4 = some (24, 8) := (znew_sh _ _ _ (by omega)).trans h4
      have hnd : nd < 8 := by omega
      refine ⟨nI nd, zwi S2 F, zwi S2 G, ?_, ?_, ?_⟩
      · have n0 : ¬ 0 = zsz S := by omega
        simp (disch := omega) only [F_X10_doing, F_X2_init, zv, e_gi, e_gr, e_gl, e_si, e_sb, e_ai, e_ar, e_ti, e_ty, e_tz, e_cv, zc_some, zmo_some, zin_T, ↓reduceIte, zit_succ, zzr0, zzr1, true_and, and_true, and_self, or_false, false_or, or_true, true_or, not_true_eq_false, not_false_eq_true, zl0, zl1, zl2, zl3, zl4, zl5, zl6, zl7, zl8, zl9, zl10, zl11, zl12, zl20, zl24, zl31, zl36, zl40, zl42, zl44, zl48, zl49, zl50, zl55, zl57, zl60, zl97, zl99, zl100, zl102, zl104, zl109, zl113, zl114, zl119, zl126, zl255, zl400, zl1000, zl101, zl103, zl1001, zl1002, zl16, zl18, zl32, zl35, zl443, n_leT, n_leF, n_ltT, n_ltF, n_eqT, n_eqF, n_swT, n_swF, nI_add, n_sub, pk_mul, zd_n, e1, d2, h0, r4, e_no, znew_shN, e_tr, s0, s4, hnd, z2n, n0, zpr_sh, Nat.add_sub_cancel]
        rw [hS2, hF]
        simp (disch := omega) only [z2_eq, n_sub, Nat.add_sub_cancel]
      · have y5 : F 85 5 = nI nd := (fo 85 5 (by omega) (by omega)).trans d3
        simp only [eM_doing]
        rw [hG]
        simp (disch := omega) only [F_X11_doing_J52, zv, e_gi, e_gr, e_gl, e_si, e_sb, e_ai, e_ar, e_ti, e_ty, e_tz, e_cv, zc_some, zmo_some, zin_T, ↓reduceIte, zit_succ, zzr0, zzr1, true_and, and_true, and_self, or_false, false_or, or_true, true_or, not_true_eq_false, not_false_eq_true, zl0, zl1, zl2, zl3, zl4, zl5, zl6, zl7, zl8, zl9, zl10, zl11, zl12, zl20, zl24, zl31, zl36, zl40, zl42, zl44, zl48, zl49, zl50, zl55, zl57, zl60, zl97, zl99, zl100, zl102, zl104, zl109, zl113, zl114, zl119, zl126, zl255, zl400, zl1000, zl101, zl103, zl1001, zl1002, zl16, zl18, zl32, zl35, zl443, n_leT, n_leF, n_ltT, n_ltF, n_eqT, n_eqF, n_swT, n_swF, nI_add, n_sub, pk_mul, zd_n, z2_eq, z2n, mo_s85 M2, mo_r6 M2, mo_r7 M2, mo_s89 M2, mo_s90 M2, eM_in, i1, i2, y5, Nat.add_sub_cancel]
      · obtain ⟨⟨x, hx, hpx⟩, y, hy, hqy⟩ := qTo_n ht
        refine zI_ok (S := S2) (c' := c') (r' := r') (da := fun k => if k = nd then zsz S else da k) (nd := nd + 1) ⟨?_, I_pg_c (fun a k q => ag a k (by omega) (by omega) (by omega) (by omega) (by omega)) hpg, ⟨by omega, ?_, ?_, ?_, ?_, fun k hk => ?_⟩, I_cu_c (fun a k q => ag a k (by omega) (by omega) (by omega) (by omega) (by omega)) ⟨hc6, hR, hH, hRH, hu2, hu3, hu4, hcu, hcu2⟩, by omega, I_lv_c (fun a k q => ag a k (by omega) (by omega) (by omega) (by omega) (by omega)) hlv, I_br_c (fun a k q => ag a k (by omega) (by omega) (by omega) (by omega) (by omega)) hbr, I_wa_c (fun a k q => ag a k (by omega) (by omega) (by omega) (by omega) (by omega)) hwa, I_rw_lw L4 hzz htz (I_rw_c (fun a k q => ag a k (by omega) (by omega) (by omega) (by omega) (by omega)) (fun k hk a j q => by have h9 := (hrw.2.2.2 k hk).2.2; have h8 := h9.1; have h7 := h9.2.1; exact ag _ _ (by omega) (by omega) (by omega) (by omega) (by omega)) hrw), I_pi_c (fun a k q => ag a k (by omega) (by omega) (by omega) (by omega) (by omega)) hpi, I_rv_c (fun a k q => ag a k (by omega) (by omega) (by omega) (by omega) (by omega)) hrv, I_fi_c (fun a k q => ag a k (by omega) (by omega) (by omega) (by omega) (by omega)) hfi, I_im_c (fun a k q => ag a k (by omega) (by omega) (by omega) (by omega) (by omega)) him⟩
        · exact zKl_low Lx hS ((s2r _ _ (by omega) (by omega)).trans (cl_c hS)) ((s2r _ _ (by omega) (by omega)).trans (cl_c' hS)) ((s2r _ _ (by omega) (by omega)).trans (cl_r hS)) ((s2r _ _ (by omega) (by omega)).trans (cl_r' hS)) ((s2r _ _ (by omega) (by omega)).trans (cl_tr hS)) (Or.inl ⟨rfl, rfl⟩) (Or.inl ⟨rfl, rfl⟩) (zRw_low L4 htz (fun _ => by omega) (cl_Rw hS)) htt (by omega) (by omega)
        · rw [hG]
          simp (disch := omega) only [z2_eq, z2n]
          exact f03
        · rw [hG]
          simp (disch := omega) only [z2_eq, z2n]
        · rw [ag 3 0 (by omega) (by omega) (by omega) (by omega) (by omega)]
          exact d4
        · rw [ag 3 1 (by omega) (by omega) (by omega) (by omega) (by omega)]
          exact d5
        · by_cases hkn : k = nd
          · subst hkn
            dsimp only
            rw [if_pos rfl, gN, gN, fN.1, fN.2]
            have g71 : G 89 k = p := by rw [hG]; simp (disch := omega) only [z2_eq, z2n]
            have g72 : G 90 k = q := by rw [hG]; simp (disch := omega) only [z2_eq, z2n]
            rw [g71, g72]
            exact ⟨by rw [hS2, zpr_r]; exact z2_eq _ _ _ _, by rw [hS2, zpr_sh]; exact znew_shN _ _ _, by omega, by omega, rfl, rfl, ⟨x, hx, hpx⟩, y, hy, hqy⟩
          · dsimp only
            rw [if_neg hkn]
            obtain ⟨k1, k2, k3, k4, k5, k6, k7, k8⟩ := d6 k (by omega)
            have g71 : G 89 k = f 89 k := by rw [hG]; simp (disch := omega) only [z2_eq, z2n]; exact fo 89 k (by omega) (by omega)
            have g72 : G 90 k = f 90 k := by rw [hG]; simp (disch := omega) only [z2_eq, z2n]; exact fo 90 k (by omega) (by omega)
            rw [g71, g72, ag (da k) 0 (by omega) (by omega) (by omega) (by omega) (by omega), ag (da k) 1 (by omega) (by omega) (by omega) (by omega) (by omega)]
            exact ⟨(s2r _ _ (by omega) (by omega)).trans k1, (s2h _ k4).trans k2, k3, by omega, k5, k6, k7, k8⟩
  · have hnot : ¬ (qIn p (nI 0) (nI 4) = nI 1 ∧ qIn q (qLo p) (qHi p) = nI 1) := fun z => ht (hto.mpr z)
    refine ⟨-nI 102, zwi S f, zwi S f, by simp (disch := omega) only [F_X10_doing, zv, e_gi, e_gr, e_gl, e_si, e_sb, e_ai, e_ar, e_ti, e_ty, e_tz, e_cv, zc_some, zmo_some, zin_T, ↓reduceIte, zit_succ, zzr0, zzr1, true_and, and_true, and_self, or_false, false_or, or_true, true_or, not_true_eq_false, not_false_eq_true, zl0, zl1, zl2, zl3, zl4, zl5, zl6, zl7, zl8, zl9, zl10, zl11, zl12, zl20, zl24, zl31, zl36, zl40, zl42, zl44, zl48, zl49, zl50, zl55, zl57, zl60, zl97, zl99, zl100, zl102, zl104, zl109, zl113, zl114, zl119, zl126, zl255, zl400, zl1000, zl101, zl103, zl1001, zl1002, zl16, zl18, zl32, zl35, zl443, n_leT, n_leF, n_ltT, n_ltF, n_eqT, n_eqF, n_swT, n_swF, nI_add, n_sub, pk_mul, zd_n, cl_s0 hS, cl_r0_0 hS, cl_r0_1 hS, cl_r0_2 hS, cl_r0_9 hS, cl_r0_12 hS, cl_r0_13 hS, cl_r0_14 hS, cl_r0_15 hS, cl_r0_16 hS, cl_r0_17 hS, cl_r0_19 hS, cl_r1_0 hS, cl_r51_0 hS, cl_r51_1 hS, cl_r51_2 hS, cl_r64_0 hS, cl_r64_1 hS, cl_s1 hS, cl_s2 hS, cl_s3 hS, cl_s4 hS, cl_s19 hS, cl_s51 hS, cl_s61 hS, cl_s62 hS, cl_s63 hS, cl_s64 hS, cl_s65 hS, cl_s66 hS, cl_c hS, cl_c' hS, cl_r hS, cl_r' hS, cl_tr hS, cl_sb hS, cl_st hS, cl_sk hS, cl_sl hS, cl_sw hS, cl_sc hS, cl_sc' hS, cl_sr hS, cl_sr' hS, cl_sq hS, mo_s85 hM, mo_r0 hM, mo_s86 hM, mo_r3 hM, mo_s87 hM, mo_r4 hM, mo_s88 hM, mo_r6 hM, mo_s89 hM, mo_r7 hM, mo_s90 hM, mo_r9 hM, mo_s91 hM, mo_r10 hM, mo_s92 hM, mo_r11 hM, mo_s93 hM, mo_r12 hM, mo_s94 hM, mo_r13 hM, mo_s95 hM, mo_r14 hM, mo_s96 hM, mo_r15 hM, mo_s97 hM, mo_r17 hM, mo_s98 hM, mo_r18 hM, mo_s99 hM, mo_r19 hM, mo_s100 hM, mo_r21 hM, mo_s101 hM, mo_r22 hM, mo_s102 hM, mo_r24 hM, mo_s103 hM, mo_r25 hM, mo_s104 hM, mo_r28 hM, mo_s105 hM, mo_r32 hM, mo_s106 hM, mo_r33 hM, mo_s107 hM, mo_r34 hM, mo_s108 hM, mo_r35 hM, mo_s109 hM, mo_r38 hM, mo_s110 hM, mo_r40 hM, mo_s111 hM, mo_r41 hM, mo_s112 hM, mo_r43 hM, mo_s113 hM, mo_r44 hM, mo_s114 hM, mo_r45 hM, mo_s115 hM, mo_r46 hM, mo_s116 hM, e1], ?_, zI_ok (zI_scr hI' rfl rfl rfl (fun _ _ _ => rfl))⟩
    simp only [eM_doing]
    rcases qIn_c p (nI 0) (nI 4) with h4 | h4
    · simp (disch := omega) only [F_X11_doing_J52, F_X11_doing_J74, zv, e_gi, e_gr, e_gl, e_si, e_sb, e_ai, e_ar, e_ti, e_ty, e_tz, e_cv, zc_some, zmo_some, zin_T, ↓reduceIte, zit_succ, zzr0, zzr1, true_and, and_true, and_self, or_false, false_or, or_true, true_or, not_true_eq_false, not_false_eq_true, zl0, zl1, zl2, zl3, zl4, zl5, zl6, zl7, zl8, zl9, zl10, zl11, zl12, zl20, zl24, zl31, zl36, zl40, zl42, zl44, zl48, zl49, zl50, zl55, zl57, zl60, zl97, zl99, zl100, zl102, zl104, zl109, zl113, zl114, zl119, zl126, zl255, zl400, zl1000, zl101, zl103, zl1001, zl1002, zl16, zl18, zl32, zl35, zl443, n_leT, n_leF, n_ltT, n_ltF, n_eqT, n_eqF, n_swT, n_swF, nI_add, n_sub, pk_mul, zd_n, cl_s0 hS, cl_r0_0 hS, cl_r0_1 hS, cl_r0_2 hS, cl_r0_9 hS, cl_r0_12 hS, cl_r0_13 hS, cl_r0_14 hS, cl_r0_15 hS, cl_r0_16 hS, cl_r0_17 hS, cl_r0_19 hS, cl_r1_0 hS, cl_r51_0 hS, cl_r51_1 hS, cl_r51_2 hS, cl_r64_0 hS, cl_r64_1 hS, cl_s1 hS, cl_s2 hS, cl_s3 hS, cl_s4 hS, cl_s19 hS, cl_s51 hS, cl_s61 hS, cl_s62 hS, cl_s63 hS, cl_s64 hS, cl_s65 hS, cl_s66 hS, cl_c hS, cl_c' hS, cl_r hS, cl_r' hS, cl_tr hS, cl_sb hS, cl_st hS, cl_sk hS, cl_sl hS, cl_sw hS, cl_sc hS, cl_sc' hS, cl_sr hS, cl_sr' hS, cl_sq hS, mo_s85 hM, mo_r0 hM, mo_s86 hM, mo_r3 hM, mo_s87 hM, mo_r4 hM, mo_s88 hM, mo_r6 hM, mo_s89 hM, mo_r7 hM, mo_s90 hM, mo_r9 hM, mo_s91 hM, mo_r10 hM, mo_s92 hM, mo_r11 hM, mo_s93 hM, mo_r12 hM, mo_s94 hM, mo_r13 hM, mo_s95 hM, mo_r14 hM, mo_s96 hM, mo_r15 hM, mo_s97 hM, mo_r17 hM, mo_s98 hM, mo_r18 hM, mo_s99 hM, mo_r19 hM, mo_s100 hM, mo_r21 hM, mo_s101 hM, mo_r22 hM, mo_s102 hM, mo_r24 hM, mo_s103 hM, mo_r25 hM, mo_s104 hM, mo_r28 hM, mo_s105 hM, mo_r32 hM, mo_s106 hM, mo_r33 hM, mo_s107 hM, mo_r34 hM, mo_s108 hM, mo_r35 hM, mo_s109 hM, mo_r38 hM, mo_s110 hM, mo_r40 hM, mo_s111 hM, mo_r41 hM, mo_s112 hM, mo_r43 hM, mo_s113 hM, mo_r44 hM, mo_s114 hM, mo_r45 hM, mo_s115 hM, mo_r46 hM, mo_s116 hM, eM_in, h4.1]
    · rcases qIn_c q (qLo p) (qHi p) with h5 | h5
      · simp (disch := omega) only [F_X11_doing_J52, F_X11_doing_J74, zv, e_gi, e_gr, e_gl, e_si, e_sb, e_ai, e_ar, e_ti, e_ty, e_tz, e_cv, zc_some, zmo_some, zin_T, ↓reduceIte, zit_succ, zzr0, zzr1, true_and, and_true, and_self, or_false, false_or, or_true, true_or, not_true_eq_false, not_false_eq_true, zl0, zl1, zl2, zl3, zl4, zl5, zl6, zl7, zl8, zl9, zl10, zl11, zl12, zl20, zl24, zl31, zl36, zl40, zl42, zl44, zl48, zl49, zl50, zl55, zl57, zl60, zl97, zl99, zl100, zl102, zl104, zl109, zl113, zl114, zl119, zl126, zl255, zl400, zl1000, zl101, zl103, zl1001, zl1002, zl16, zl18, zl32, zl35, zl443, n_leT, n_leF, n_ltT, n_ltF, n_eqT, n_eqF, n_swT, n_swF, nI_add, n_sub, pk_mul, zd_n, cl_s0 hS, cl_r0_0 hS, cl_r0_1 hS, cl_r0_2 hS, cl_r0_9 hS, cl_r0_12 hS, cl_r0_13 hS, cl_r0_14 hS, cl_r0_15 hS, cl_r0_16 hS, cl_r0_17 hS, cl_r0_19 hS, cl_r1_0 hS, cl_r51_0 hS, cl_r51_1 hS, cl_r51_2 hS, cl_r64_0 hS, cl_r64_1 hS, cl_s1 hS, cl_s2 hS, cl_s3 hS, cl_s4 hS, cl_s19 hS, cl_s51 hS, cl_s61 hS, cl_s62 hS, cl_s63 hS, cl_s64 hS, cl_s65 hS, cl_s66 hS, cl_c hS, cl_c' hS, cl_r hS, cl_r' hS, cl_tr hS, cl_sb hS, cl_st hS, cl_sk hS, cl_sl hS, cl_sw hS, cl_sc hS, cl_sc' hS, cl_sr hS, cl_sr' hS, cl_sq hS, mo_s85 hM, mo_r0 hM, mo_s86 hM, mo_r3 hM, mo_s87 hM, mo_r4 hM, mo_s88 hM, mo_r6 hM, mo_s89 hM, mo_r7 hM, mo_s90 hM, mo_r9 hM, mo_s91 hM, mo_r10 hM, mo_s92 hM, mo_r11 hM, mo_s93 hM, mo_r12 hM, mo_s94 hM, mo_r13 hM, mo_s95 hM, mo_r14 hM, mo_s96 hM, mo_r15 hM, mo_s97 hM, mo_r17 hM, mo_s98 hM, mo_r18 hM, mo_s99 hM, mo_r19 hM, mo_s100 hM, mo_r21 hM, mo_s101 hM, mo_r22 hM, mo_s102 hM, mo_r24 hM, mo_s103 hM, mo_r25 hM, mo_s104 hM, mo_r28 hM, mo_s105 hM, mo_r32 hM, mo_s106 hM, mo_r33 hM, mo_s107 hM, mo_r34 hM, mo_s108 hM, mo_r35 hM, mo_s109 hM, mo_r38 hM, mo_s110 hM, mo_r40 hM, mo_s111 hM, mo_r41 hM, mo_s112 hM, mo_r43 hM, mo_s113 hM, mo_r44 hM, mo_s114 hM, mo_r45 hM, mo_s115 hM, mo_r46 hM, mo_s116 hM, eM_in, h4.1, h5.1]
      · exact absurd ⟨h4.1, h5.1⟩ hnot
