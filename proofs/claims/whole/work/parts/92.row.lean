theorem eM_row42 (n : Nat) {S : zH} {F : Nat → Nat → Int32} {m nr : Nat} (hn : 513 < n) (hM : zMo S) (hm : m ≤ 6) (hnr : nr < 6) (h39 : F 85 39 = nI m) (h16 : F 85 16 = nI nr) :
    ∃ Z, F_X11_row_L42 n (zwi S F) 85 (nI 0) = some (nI nr, zwi S Z) ∧ (∀ j, j < m → Z 99 (6 * nr + j) = F 111 j ∧ Z 100 (6 * nr + j) = F 112 j) ∧ Z 85 16 = nI (nr + 1) ∧ Z 85 27 = nI 0 ∧ ∀ a j, ¬ ((a = 99 ∨ a = 100) ∧ 6 * nr ≤ j) → ¬ (a = 85 ∧ (j = 16 ∨ j = 27)) → Z a j = F a j := by
  have s67 := mo_s85 hM
  have r18 := mo_r18 hM
  have s81 := mo_s99 hM
  have r19 := mo_r19 hM
  have s82 := mo_s100 hM
  have r40 := mo_r40 hM
  have s93 := mo_s111 hM
  have r41 := mo_r41 hM
  have s94 := mo_s112 hM
  unfold F_X11_row_L42
  have key9 := zforE (body := fun kc x => F_X11_row_B42 n kc x.1 85 x.2) (fun i x => ∃ Z, x = (zwi S Z, nI i) ∧ (∀ j, j < i → Z 99 (6 * nr + j) = F 111 j ∧ Z 100 (6 * nr + j) = F 112 j) ∧ ∀ a j, ¬ ((a = 99 ∨ a = 100) ∧ 6 * nr ≤ j) → Z a j = F a j) m (Q := fun r => ∃ Z, r = some (nI nr, zwi S Z) ∧ (∀ j, j < m → Z 99 (6 * nr + j) = F 111 j ∧ Z 100 (6 * nr + j) = F 112 j) ∧ Z 85 16 = nI (nr + 1) ∧ Z 85 27 = nI 0 ∧ ∀ a j, ¬ ((a = 99 ∨ a = 100) ∧ 6 * nr ≤ j) → ¬ (a = 85 ∧ (j = 16 ∨ j = 27)) → Z a j = F a j) (fun i x hi hx => ?_) (fun x hx => ?_) (n := n) (by omega) (x := (zwi S F, nI 0)) ⟨F, rfl, fun j hj => by omega, fun _ _ _ => rfl⟩
  · obtain ⟨r, ⟨Z, e1, e3⟩, e2⟩ := key9
    exact ⟨Z, by rw [e2, e1], e3⟩
  · obtain ⟨Z, rfl, g1, g2⟩ := hx
    have y1 := (g2 85 39 (by omega)).trans h39
    have y2 := (g2 85 16 (by omega)).trans h16
    have y3 := g2 111 i (by omega)
    have y4 := g2 112 i (by omega)
    refine ⟨_, ⟨z2 (z2 Z 99 (6 * nr + i) (F 111 i)) 100 (6 * nr + i) (F 112 i), rfl, fun j hj => ?_, fun a j q => by rw [z2n (by omega), z2n (by omega)]; exact g2 a j q⟩, fun kc => by simp (disch := omega) only [F_X11_row_B42, zv, e_gi, e_gr, e_gl, e_si, e_sb, e_ai, e_ar, e_ti, e_ty, e_tz, e_cv, zc_some, zmo_some, zin_T, ↓reduceIte, zit_succ, zzr0, zzr1, true_and, and_true, and_self, or_false, false_or, or_true, true_or, not_true_eq_false, not_false_eq_true, zl0, zl1, zl2, zl3, zl4, zl5, zl6, zl7, zl8, zl9, zl10, zl11, zl12, zl20, zl24, zl31, zl36, zl40, zl42, zl44, zl48, zl49, zl50, zl55, zl57, zl60, zl97, zl99, zl100, zl102, zl104, zl109, zl113, zl114, zl119, zl126, zl255, zl400, zl1000, zl101, zl103, zl1001, zl1002, zl16, zl18, zl32, zl35, zl443, n_leT, n_leF, n_ltT, n_ltF, n_eqT, n_eqF, n_swT, n_swF, nI_add, n_sub, pk_mul, zd_n, z2_eq, z2n, s67, r18, s81, r19, s82, r40, s93, r41, s94, y1, y2, y3, y4]⟩
    by_cases e : j = i
    · subst e
      simp (disch := omega) only [z2_eq, z2n]
      exact ⟨trivial, trivial⟩
    · simp (disch := omega) only [z2_eq, z2n]
      exact g1 j (by omega)
  · obtain ⟨Z, rfl, g1, g2⟩ := hx
    have y1 := (g2 85 39 (by omega)).trans h39
    have y2 := (g2 85 16 (by omega)).trans h16
    refine ⟨_, ⟨z2 (z2 Z 85 16 (nI (nr + 1))) 85 27 (nI 0), rfl, fun j hj => ?_, ?_, z2_eq _ _ _ _, fun a j q1 q2 => ?_⟩, fun kc => by simp (disch := omega) only [F_X11_row_B42, zv, e_gi, e_gr, e_gl, e_si, e_sb, e_ai, e_ar, e_ti, e_ty, e_tz, e_cv, zc_some, zmo_some, zin_T, ↓reduceIte, zit_succ, zzr0, zzr1, true_and, and_true, and_self, or_false, false_or, or_true, true_or, not_true_eq_false, not_false_eq_true, zl0, zl1, zl2, zl3, zl4, zl5, zl6, zl7, zl8, zl9, zl10, zl11, zl12, zl20, zl24, zl31, zl36, zl40, zl42, zl44, zl48, zl49, zl50, zl55, zl57, zl60, zl97, zl99, zl100, zl102, zl104, zl109, zl113, zl114, zl119, zl126, zl255, zl400, zl1000, zl101, zl103, zl1001, zl1002, zl16, zl18, zl32, zl35, zl443, n_leT, n_leF, n_ltT, n_ltF, n_eqT, n_eqF, n_swT, n_swF, nI_add, n_sub, pk_mul, zd_n, z2_eq, z2n, s67, y1, y2, Nat.add_sub_cancel]⟩
    · simp (disch := omega) only [z2_eq, z2n]
      exact g1 j hj
    · simp (disch := omega) only [z2_eq, z2n]
    · rw [z2n (by omega), z2n (by omega)]
      exact g2 a j q1
theorem k_row {g n : Nat} (hn : 513 < n) {h : zH} (hI : zInv g h) : zOk g (F_X10_row n h 0) (fun h => F_X11_row n h 85) := by
  obtain ⟨S, f, c, c', r, r', tr, pl, nd, da, R, H, cu, nl, nr, ra, np, pt, fi, rfl, hI⟩ := hI
  have hI' := hI
  obtain ⟨hS, hpg, hdo, ⟨hc6, hR, hH, hRH, hu2, hu3, hu4, hcu, hcu2⟩, hg, hlv, hbr, hwa, hrw, hpi, hrv, hfi, him⟩ := hI
  have hM := cl_M hS
  have hC := cl_Cu hS
  have hcc := cl_cc hS
  have hrr := cl_rr hS
  have htt := cl_tt hS
  have hR1 : f (c + 1) 0 = nI R := (hc6 0 (by omega)).trans hR
  have hH1 : f (c + 1) 1 = nI H := (hc6 1 (by omega)).trans hH
  have hR6 : R ≤ 6 ∧ H ≤ 4 := by rcases hRH with h | h <;> omega
  have hRk : (R = 0 ∧ f 85 1 = nI 0) ∨ (1 ≤ R ∧ R ≤ 6 ∧ f 85 1 = nI 1) := hRH.imp (fun h => ⟨h.1, h.2.2⟩) (fun h => ⟨by omega, h.2.1, h.2.2.2.2⟩)
  obtain ⟨cd, hcd⟩ := I_pg_cd hpg
  obtain ⟨p1, p2, p3, p4⟩ := hpg
  have s67 := mo_s85 hM
  have r0 : zr S 0 0 = some 1 := cl_r0_0 hS
  have h0 : zsh S 0 = some (9, 20) := cl_s0 hS
  have h1 : zsh S 1 = some (5, 2) := cl_s1 hS
  have h2 : zsh S 2 = some (20, 50) := cl_s2 hS
  have h19 : zsh S 19 = some (25, 6) := cl_s19 hS
  have r1 : zr S 1 0 = some 2 := cl_r1_0 hS
  have r9 : zr S 0 9 = some 19 := cl_r0_9 hS
  have hzz := cl_zz hS
  have htz := cl_tz hS
  have hRw := cl_Rw hS
  obtain ⟨k, s, t1, t2, t3⟩ := tst_first sRo (0, 0, fun _ => 0, fun _ => 0) cd pl
  have rr : zr S 0 10 = some tr := cl_tr hS
  obtain ⟨w1, w2, w3, w4⟩ := hrw
  obtain ⟨F, a1, a2, a3⟩ := eC_readsRow n (S := S) (f := f) (t := tr) hn hRw (by omega) h1 h2 r1 p1 p2 (fun i hi => ⟨(hcd i hi).2.1, (hcd i hi).1⟩) t1 t2 t3
  have f11 : F 0 11 = nI nr := (a3 0 11 (by omega)).trans w2
  have rest : ∀ (x : Int32) (hx1 : F_X10_row n (zwi S f) 0 = some (x, zwi S F)) (hx2 : ∀ G, (∀ a j, ¬ mScr a j → G a j = F a j) → F_X11_readPage n (zwi S F) 85 (nI 1) = some ((), zwi S G) → G 85 37 = (if k = pl ∧ 3 ≤ s.1 then nI 1 else nI 0) → F_X11_row n (zwi S F) 85 = some (x, zwi S G)), zOk g (F_X10_row n (zwi S f) 0) (fun h => F_X11_row n h 85) := fun x hx1 hx2 => by
    obtain ⟨G, b1, b2, b3, -, b6⟩ := eM_readRow n (S := S) (f := F) hn hM p1 ((a3 85 27 (by omega)).trans p3) (fun i hi => ⟨(a3 105 i (by omega)).trans (hcd i hi).2.2, (hcd i hi).1⟩) t1 t2 t3
    exact ⟨x, zwi S F, zwi S G, hx1, hx2 G b6 b1 b3, zI_ok (zI_scr hI' rfl rfl rfl (fun a j q => by unfold zScr at q; rw [b6 a j (by unfold mScr; omega), a3 a j (by omega)]))⟩
  by_cases hw : k = pl ∧ 3 ≤ s.1
  · rw [if_pos hw] at a1
    by_cases hn6 : nr = 6
    · subst hn6
      refine rest (-nI 104) (by unfold F_X10_row; simp (disch := omega) only [zv, e_gi, e_gr, e_gl, e_si, e_sb, e_ai, e_ar, e_ti, e_ty, e_tz, e_cv, zc_some, zmo_some, zin_T, ↓reduceIte, zit_succ, zzr0, zzr1, true_and, and_true, and_self, or_false, false_or, or_true, true_or, not_true_eq_false, not_false_eq_true, zl0, zl1, zl2, zl3, zl4, zl5, zl6, zl7, zl8, zl9, zl10, zl11, zl12, zl20, zl24, zl31, zl36, zl40, zl42, zl44, zl48, zl49, zl50, zl55, zl57, zl60, zl97, zl99, zl100, zl102, zl104, zl109, zl113, zl114, zl119, zl126, zl255, zl400, zl1000, zl101, zl103, zl1001, zl1002, zl16, zl18, zl32, zl35, zl443, n_leT, n_leF, n_ltT, n_ltF, n_eqT, n_eqF, n_swT, n_swF, nI_add, n_sub, pk_mul, zd_n, r0, rr, h0, h1, a1, f11]) (fun G q1 q2 q3 => ?_)
      rw [if_pos hw] at q3
      have y16 : G 85 16 = nI 6 := (q1 85 16 (by unfold mScr; omega)).trans ((a3 85 16 (by omega)).trans w3)
      unfold F_X11_row
      simp (disch := omega) only [zv, e_gi, e_gr, e_gl, e_si, e_sb, e_ai, e_ar, e_ti, e_ty, e_tz, e_cv, zc_some, zmo_some, zin_T, ↓reduceIte, zit_succ, zzr0, zzr1, true_and, and_true, and_self, or_false, false_or, or_true, true_or, not_true_eq_false, not_false_eq_true, zl0, zl1, zl2, zl3, zl4, zl5, zl6, zl7, zl8, zl9, zl10, zl11, zl12, zl20, zl24, zl31, zl36, zl40, zl42, zl44, zl48, zl49, zl50, zl55, zl57, zl60, zl97, zl99, zl100, zl102, zl104, zl109, zl113, zl114, zl119, zl126, zl255, zl400, zl1000, zl101, zl103, zl1001, zl1002, zl16, zl18, zl32, zl35, zl443, n_leT, n_leF, n_ltT, n_ltF, n_eqT, n_eqF, n_swT, n_swF, nI_add, n_sub, pk_mul, zd_n, s67, q2, q3, y16]
    · obtain ⟨hkp, hs3⟩ := hw
      obtain ⟨i1, i2, i3, i4, -⟩ := a2 hkp
      obtain ⟨v1, v2, v3, v4, v5, v6, v7, v8⟩ := i1
      rw [if_neg (by omega)] at i3
      have hnr : nr < 6 := by omega
      obtain ⟨w1a, htr, hsp⟩ := w1
      obtain ⟨wn1, wn2⟩ := hsp nr (Nat.le_refl _) hnr
      obtain ⟨tN, htN⟩ : ∃ t, t = 67 + 3 * nr := ⟨_, rfl⟩
      rw [← htN] at wn1 wn2
      obtain ⟨S7, hS7⟩ : ∃ S7, S7 = zpr (zpr S 19 nr (some tr)) 0 10 (some tN) := ⟨_, rfl⟩
      have s7h : zsh S7 = zsh S := by rw [hS7]; rfl
      have s7z : zsz S7 = zsz S := by rw [hS7]; rfl
      have s7r : ∀ x y, ¬ (x = 19 ∧ y = nr) → ¬ (x = 0 ∧ y = 10) → zr S7 x y = zr S x y := fun x y q1 q2 => by
        rw [hS7, zpr_r, z2_ne _ _ _ _ q2, zpr_r, z2_ne _ _ _ _ q1]
      have s719 : zr S7 19 nr = some tr := by
        rw [hS7, zpr_r, z2n (by omega), zpr_r]
        exact z2_eq _ _ _ _
      have Lr : zLow S S7 (zsz S) (fun x y => (x = 19 ∧ y = nr) ∨ (x = 0 ∧ y = 10)) := ⟨fun x _ => by rw [s7h], fun x y _ q => s7r x y (fun z => q (Or.inl z)) (fun z => q (Or.inr z))⟩
      have Lx : zLow S S7 (zsz S) xChg := ⟨fun x _ => by rw [s7h], fun x y _ q => s7r x y (fun z => q (by unfold xChg; omega)) (fun z => q (by unfold xChg; omega))⟩
      have s7w : zRw S7 tN := zRw_low Lr (by omega) (fun _ => by omega) wn2
      have hS' : zKl S7 c c' r r' tN := zKl_low Lx hS ((s7r _ _ (by omega) (by omega)).trans (cl_c hS)) ((s7r _ _ (by omega) (by omega)).trans (cl_c' hS)) ((s7r _ _ (by omega) (by omega)).trans (cl_r hS)) ((s7r _ _ (by omega) (by omega)).trans (cl_r' hS)) (by rw [hS7, zpr_r]; exact z2_eq _ _ _ _) (Or.inl ⟨rfl, rfl⟩) (Or.inl ⟨rfl, rfl⟩) s7w (Or.inr ⟨by omega, by omega⟩) (by omega) (by omega)
      have hM' := cl_M hS'
      obtain ⟨Z2, hZ2⟩ : ∃ Z2, Z2 = z2 (z2 F 0 11 (nI (nr + 1))) 1 1 (nI 0) := ⟨_, rfl⟩
      have zc : ∀ a j, ¬ (a = 0 ∧ j = 11) → ¬ (a = 1 ∧ j = 1) → Z2 a j = F a j := fun a j q2 q3 => by
        rw [hZ2, z2_ne _ _ _ _ q3, z2_ne _ _ _ _ q2]
      obtain ⟨G, b1, b2, b3, b4, b6⟩ := eM_readRow n (S := S7) (f := Z2) hn hM' p1 ((zc 85 27 (by omega) (by omega)).trans ((a3 85 27 (by omega)).trans p3)) (fun i hi => ⟨(zc 105 i (by omega) (by omega)).trans ((a3 105 i (by omega)).trans (hcd i hi).2.2), (hcd i hi).1⟩) t1 t2 t3
      rw [if_pos ⟨hkp, hs3⟩] at b3
      obtain ⟨-, j2, j3, -⟩ := b4 hkp
      have y16 : G 85 16 = nI nr := (b6 85 16 (by unfold mScr; omega)).trans ((zc 85 16 (by omega) (by omega)).trans ((a3 85 16 (by omega)).trans w3))
      obtain ⟨Z, x1, x2, x3, x4, x5⟩ := eM_row42 n (F := z2 G 98 nr (nI s.2.1)) (m := s.2.1) (nr := nr) hn hM' v4 (by omega) (by rw [z2n (by omega)]; exact j2) (by rw [z2n (by omega)]; exact y16)
      have ag2 : ∀ a j, ¬ (((a = 99 ∨ a = 100) ∧ 6 * nr ≤ j) ∨ (a = 85 ∧ (j = 16 ∨ j = 27 ∨ j = 36 ∨ j = 37 ∨ j = 39 ∨ j = 42)) ∨ (a = 98 ∧ j = nr) ∨ (110 ≤ a ∧ a ≤ 114)) → Z a j = Z2 a j := fun a j q => by
        rw [x5 a j (by omega) (by omega), z2n (by omega), b6 a j (by unfold mScr; omega)]
      have ag : ∀ a j, ¬ (((a = 99 ∨ a = 100) ∧ 6 * nr ≤ j) ∨ (a = 85 ∧ (j = 16 ∨ j = 27 ∨ j = 36 ∨ j = 37 ∨ j = 39 ∨ j = 42)) ∨ (a = 98 ∧ j = nr) ∨ (110 ≤ a ∧ a ≤ 114) ∨ (a = 0 ∧ j = 11) ∨ (a = 1 ∧ j = 1) ∨ (tr ≤ a ∧ a ≤ tr + 2)) → Z a j = f a j := fun a j q => by
        rw [ag2 a j (by omega), zc a j (by omega) (by omega), a3 a j (by omega)]
      have i3' : F tr 2 = nI s.2.1 := i3
      have hq1 : zsh S tr = some (8, 4) := hRw.1
      have k0 : zsh (zpr S 19 nr (some tr)) 0 = some (9, 20) := h0
      have k7 : zr S7 0 0 = some 1 := (s7r _ _ (by omega) (by omega)).trans r0
      have k70 : zsh S7 0 = some (9, 20) := by rw [s7h]; exact h0
      have k71 : zsh S7 1 = some (5, 2) := by rw [s7h]; exact h1
      have y61 : F 1 1 = nI pl := (a3 1 1 (by omega)).trans p2
      refine ⟨nI nr, zwi S7 Z2, zwi S7 Z, ?_, ?_, ?_⟩
      · unfold F_X10_row
        simp (disch := omega) only [zv, e_gi, e_gr, e_gl, e_si, e_sb, e_ai, e_ar, e_ti, e_ty, e_tz, e_cv, zc_some, zmo_some, zin_T, ↓reduceIte, zit_succ, zzr0, zzr1, true_and, and_true, and_self, or_false, false_or, or_true, true_or, not_true_eq_false, not_false_eq_true, zl0, zl1, zl2, zl3, zl4, zl5, zl6, zl7, zl8, zl9, zl10, zl11, zl12, zl20, zl24, zl31, zl36, zl40, zl42, zl44, zl48, zl49, zl50, zl55, zl57, zl60, zl97, zl99, zl100, zl102, zl104, zl109, zl113, zl114, zl119, zl126, zl255, zl400, zl1000, zl101, zl103, zl1001, zl1002, zl16, zl18, zl32, zl35, zl443, n_leT, n_leF, n_ltT, n_ltF, n_eqT, n_eqF, n_swT, n_swF, nI_add, n_sub, pk_mul, zd_n, r0, rr, r9, h0, h1, h19, a1, f11, wn1, e_tr, hq1, hnr, e_sr, k0]
        rw [← hS7, hZ2]
        simp (disch := omega) only [F_X5_clear, zv, e_gi, e_gr, e_gl, e_si, e_sb, e_ai, e_ar, e_ti, e_ty, e_tz, e_cv, zc_some, zmo_some, zin_T, ↓reduceIte, zit_succ, zzr0, zzr1, true_and, and_true, and_self, or_false, false_or, or_true, true_or, not_true_eq_false, not_false_eq_true, zl0, zl1, zl2, zl3, zl4, zl5, zl6, zl7, zl8, zl9, zl10, zl11, zl12, zl20, zl24, zl31, zl36, zl40, zl42, zl44, zl48, zl49, zl50, zl55, zl57, zl60, zl97, zl99, zl100, zl102, zl104, zl109, zl113, zl114, zl119, zl126, zl255, zl400, zl1000, zl101, zl103, zl1001, zl1002, zl16, zl18, zl32, zl35, zl443, n_leT, n_leF, n_ltT, n_ltF, n_eqT, n_eqF, n_swT, n_swF, nI_add, n_sub, pk_mul, zd_n, z2_eq, z2n, k7, k70, k71, f11, y61, Nat.add_sub_cancel]
      · unfold F_X11_row
        have hnr6 : ¬ nr = 6 := hn6
        simp (disch := omega) only [zv, e_gi, e_gr, e_gl, e_si, e_sb, e_ai, e_ar, e_ti, e_ty, e_tz, e_cv, zc_some, zmo_some, zin_T, ↓reduceIte, zit_succ, zzr0, zzr1, true_and, and_true, and_self, or_false, false_or, or_true, true_or, not_true_eq_false, not_false_eq_true, zl0, zl1, zl2, zl3, zl4, zl5, zl6, zl7, zl8, zl9, zl10, zl11, zl12, zl20, zl24, zl31, zl36, zl40, zl42, zl44, zl48, zl49, zl50, zl55, zl57, zl60, zl97, zl99, zl100, zl102, zl104, zl109, zl113, zl114, zl119, zl126, zl255, zl400, zl1000, zl101, zl103, zl1001, zl1002, zl16, zl18, zl32, zl35, zl443, n_leT, n_leF, n_ltT, n_ltF, n_eqT, n_eqF, n_swT, n_swF, nI_add, n_sub, pk_mul, zd_n, z2_eq, z2n, s67, mo_s85 hM', mo_r17 hM', mo_s98 hM', b1, b3, y16, j2, x1]
      · have hda : ∀ k, k < nd → 117 ≤ da k := fun k hk => (hdo.2.2.2.2.2 k hk).2.2.1
        have sp : zSp S7 (nr + 1) := fun k q1 q2 => ⟨(s7r _ _ (by omega) (by omega)).trans (hsp k (by omega) q2).1, zRw_low Lr (by omega) (fun _ => by omega) (hsp k (by omega) q2).2⟩
        refine zI_ok (S := S7) (pl := 0) (tr := tN) (nr := nr + 1) (ra := fun k => if k = nr then tr else ra k) ⟨hS', ⟨by omega, ?_, x4, fun i hi => by omega⟩, I_do_lx Lr (fun _ => by omega) hzz (by omega) (I_do_c (fun a k q => ag a k (by omega)) (fun k hk j => by have := hda k hk; exact ag _ _ (by omega)) hdo), I_cu_c (fun a k q => ag a k (by omega)) ⟨hc6, hR, hH, hRH, hu2, hu3, hu4, hcu, hcu2⟩, by omega, I_lv_c (fun a k q => ag a k (by omega)) hlv, I_br_c (fun a k q => ag a k (by omega)) hbr, I_wa_c (fun a k q => ag a k (by omega)) hwa, ⟨⟨by omega, by omega, sp⟩, ?_, x3, fun k hk => ?_⟩, I_pi_c (fun a k q => ag a k (by omega)) hpi, I_rv_c (fun a k q => ag a k (by omega)) hrv, I_fi_c (fun a k q => ag a k (by omega)) hfi, I_im_c (fun a k q => ag a k (by omega)) him⟩
        · rw [ag2 1 1 (by omega), hZ2]
          exact z2_eq _ _ _ _
        · rw [ag2 0 11 (by omega), hZ2, z2n (by omega)]
          exact z2_eq _ _ _ _
        · by_cases hkn : k = nr
          · subst hkn
            dsimp only
            rw [if_pos rfl]
            have z80 : Z 98 k = nI s.2.1 := by rw [x5 98 k (by omega) (by omega)]; exact z2_eq _ _ _ _
            refine ⟨s719, zRw_low Lr (by omega) (fun _ => by omega) hRw, htt, by omega, s.2.1, v4, ?_, z80, fun i hi => ?_⟩
            · rw [ag2 _ _ (by omega), zc _ _ (by omega) (by omega)]
              exact i3'
            · have y1 : Z (tr + 1) i = nI (s.2.2.1 i) := by
                rw [ag2 _ _ (by omega), zc _ _ (by omega) (by omega)]
                exact (i4 i hi).1
              have y2 : Z (tr + 2) i = nI (s.2.2.2 i) := by
                rw [ag2 _ _ (by omega), zc _ _ (by omega) (by omega)]
                exact (i4 i hi).2
              have y3 : Z 99 (6 * k + i) = nI (s.2.2.1 i) := by rw [(x2 i hi).1, z2n (by omega)]; exact (j3 i hi).1
              have y4 : Z 100 (6 * k + i) = nI (s.2.2.2 i) := by rw [(x2 i hi).2, z2n (by omega)]; exact (j3 i hi).2
              rw [y1, y2, y3, y4]
              exact ⟨rfl, rfl, ⟨_, (v5 i hi).1, rfl⟩, _, (v5 i hi).2, rfl⟩
          · dsimp only
            rw [if_neg hkn]
            obtain ⟨k1, k2, k3, k4, it, q1, q2, q3, q4⟩ := w4 k (by omega)
            have zz : ∀ a j, a = ra k ∨ a = ra k + 1 ∨ a = ra k + 2 → Z a j = f a j := fun a j q => ag a j (by omega)
            refine ⟨(s7r _ _ (by omega) (by omega)).trans k1, zRw_low Lr (by omega) (fun _ => by omega) k2, k3, by omega, it, q1, (zz _ _ (Or.inl rfl)).trans q2, (ag 98 k (by omega)).trans q3, fun i hi => ?_⟩
            rw [zz _ _ (Or.inr (Or.inl rfl)), zz _ _ (Or.inr (Or.inr rfl)), ag 99 (6 * k + i) (by omega), ag 100 (6 * k + i) (by omega)]
            exact q4 i hi
  · rw [if_neg hw] at a1
    refine rest (-nI 103) (by unfold F_X10_row; simp (disch := omega) only [zv, e_gi, e_gr, e_gl, e_si, e_sb, e_ai, e_ar, e_ti, e_ty, e_tz, e_cv, zc_some, zmo_some, zin_T, ↓reduceIte, zit_succ, zzr0, zzr1, true_and, and_true, and_self, or_false, false_or, or_true, true_or, not_true_eq_false, not_false_eq_true, zl0, zl1, zl2, zl3, zl4, zl5, zl6, zl7, zl8, zl9, zl10, zl11, zl12, zl20, zl24, zl31, zl36, zl40, zl42, zl44, zl48, zl49, zl50, zl55, zl57, zl60, zl97, zl99, zl100, zl102, zl104, zl109, zl113, zl114, zl119, zl126, zl255, zl400, zl1000, zl101, zl103, zl1001, zl1002, zl16, zl18, zl32, zl35, zl443, n_leT, n_leF, n_ltT, n_ltF, n_eqT, n_eqF, n_swT, n_swF, nI_add, n_sub, pk_mul, zd_n, r0, rr, h0, h1, a1]) (fun G q1 q2 q3 => ?_)
    rw [if_neg hw] at q3
    unfold F_X11_row
    simp (disch := omega) only [zv, e_gi, e_gr, e_gl, e_si, e_sb, e_ai, e_ar, e_ti, e_ty, e_tz, e_cv, zc_some, zmo_some, zin_T, ↓reduceIte, zit_succ, zzr0, zzr1, true_and, and_true, and_self, or_false, false_or, or_true, true_or, not_true_eq_false, not_false_eq_true, zl0, zl1, zl2, zl3, zl4, zl5, zl6, zl7, zl8, zl9, zl10, zl11, zl12, zl20, zl24, zl31, zl36, zl40, zl42, zl44, zl48, zl49, zl50, zl55, zl57, zl60, zl97, zl99, zl100, zl102, zl104, zl109, zl113, zl114, zl119, zl126, zl255, zl400, zl1000, zl101, zl103, zl1001, zl1002, zl16, zl18, zl32, zl35, zl443, n_leT, n_leF, n_ltT, n_ltF, n_eqT, n_eqF, n_swT, n_swF, nI_add, n_sub, pk_mul, zd_n, s67, q2, q3]
