theorem qSvS_no (pt : Nat) (e : Nat → Int32) (C : Nat → Nat) (B : Nat → Int32) {p : Nat} (h : ¬ p + 1 < pt) (s : Option (Nat × Nat × Int32)) : qSvS pt e C B p s = s := if_neg (fun z => h z.2.1)
theorem k_saves {g n : Nat} (hn : 513 < n) {h : zH} (hI : zInv g h) (y ea ne : Int32) : zOk g (F_X10_saves n h 0 y ea ne) (fun h => F_X11_saves n h 85 y ea ne) := by
  obtain ⟨S, f, c, c', r, r', tr, pl, nd, da, R, H, cu, nl, nr, ra, np, pt, fi, rfl, hI⟩ := hI
  have hI' := hI
  obtain ⟨hS, hpg, hdo, ⟨hc6, hR, hH, hRH, hu2, hu3, hu4, hcu, hcu2⟩, hg, hlv, hbr, hwa, hrw, hpi, hrv, hfi, him⟩ := hI
  have hM := cl_M hS
  have hC := cl_Cu hS
  have hcc := cl_cc hS
  have hrr := cl_rr hS
  have htt := cl_tt hS
  have hR1 : f (c + 1) 0 = nI R := (hc6 0 (by omega)).trans hR
  have hH1 : f (c + 1) 1 = nI H := (hc6 1 (by omega)).trans hH
  have hR6 : R ≤ 6 ∧ H ≤ 4 := by rcases hRH with h | h <;> omega
  have hRk : (R = 0 ∧ f 85 1 = nI 0) ∨ (1 ≤ R ∧ R ≤ 6 ∧ f 85 1 = nI 1) := hRH.imp (fun h => ⟨h.1, h.2.2⟩) (fun h => ⟨by omega, h.2.1, h.2.2.2.2⟩)
  have hv := rv_q hrv
  obtain ⟨v1, v2, v3, v4, -⟩ := hrv
  have h0 : zsh S 0 = some (9, 20) := cl_s0 hS
  have r7 : zr S 0 7 = some r := cl_r hS
  have hRv := cl_Rv hS
  have c1 := hRv.1
  have s67 := mo_s85 hM
  have eh := eC_hasRiver n (f := f) h0 r7 hRv v3 v2
  by_cases hp0 : pt = 0
  · subst hp0
    rw [if_pos rfl] at eh
    exact ⟨-nI 103, zwi S f, zwi S f, by unfold F_X10_saves; simp (disch := omega) only [zv, e_gi, e_gr, e_gl, e_si, e_sb, e_ai, e_ar, e_ti, e_ty, e_tz, e_cv, zc_some, zmo_some, zin_T, ↓reduceIte, zit_succ, zzr0, zzr1, true_and, and_true, and_self, or_false, false_or, or_true, true_or, not_true_eq_false, not_false_eq_true, zl0, zl1, zl2, zl3, zl4, zl5, zl6, zl7, zl8, zl9, zl10, zl11, zl12, zl20, zl24, zl31, zl36, zl40, zl42, zl44, zl48, zl49, zl50, zl55, zl57, zl60, zl97, zl99, zl100, zl102, zl104, zl109, zl113, zl114, zl119, zl126, zl255, zl400, zl1000, zl101, zl103, zl1001, zl1002, zl16, zl18, zl32, zl35, zl443, n_leT, n_leF, n_ltT, n_ltF, n_eqT, n_eqF, n_swT, n_swF, nI_add, n_sub, pk_mul, zd_n, h0, eh], by unfold F_X11_saves; simp (disch := omega) only [zv, e_gi, e_gr, e_gl, e_si, e_sb, e_ai, e_ar, e_ti, e_ty, e_tz, e_cv, zc_some, zmo_some, zin_T, ↓reduceIte, zit_succ, zzr0, zzr1, true_and, and_true, and_self, or_false, false_or, or_true, true_or, not_true_eq_false, not_false_eq_true, zl0, zl1, zl2, zl3, zl4, zl5, zl6, zl7, zl8, zl9, zl10, zl11, zl12, zl20, zl24, zl31, zl36, zl40, zl42, zl44, zl48, zl49, zl50, zl55, zl57, zl60, zl97, zl99, zl100, zl102, zl104, zl109, zl113, zl114, zl119, zl126, zl255, zl400, zl1000, zl101, zl103, zl1001, zl1002, zl16, zl18, zl32, zl35, zl443, n_leT, n_leF, n_ltT, n_ltF, n_eqT, n_eqF, n_swT, n_swF, nI_add, n_sub, pk_mul, zd_n, s67, v4], zI_ok (zI_scr hI' rfl rfl rfl (fun _ _ _ => rfl))⟩
  · rw [if_neg hp0] at eh
    rcases qIn_c y (nI 0) (nI 99) with h8 | h8
    · have ey := eM_years_no n (zwi S f) y ea ne (Or.inl h8.1)
      exact ⟨-nI 102, zwi S f, zwi S f, by unfold F_X10_saves F_X10_saves_J25; simp (disch := omega) only [zv, e_gi, e_gr, e_gl, e_si, e_sb, e_ai, e_ar, e_ti, e_ty, e_tz, e_cv, zc_some, zmo_some, zin_T, ↓reduceIte, zit_succ, zzr0, zzr1, true_and, and_true, and_self, or_false, false_or, or_true, true_or, not_true_eq_false, not_false_eq_true, zl0, zl1, zl2, zl3, zl4, zl5, zl6, zl7, zl8, zl9, zl10, zl11, zl12, zl20, zl24, zl31, zl36, zl40, zl42, zl44, zl48, zl49, zl50, zl55, zl57, zl60, zl97, zl99, zl100, zl102, zl104, zl109, zl113, zl114, zl119, zl126, zl255, zl400, zl1000, zl101, zl103, zl1001, zl1002, zl16, zl18, zl32, zl35, zl443, n_leT, n_leF, n_ltT, n_ltF, n_eqT, n_eqF, n_swT, n_swF, nI_add, n_sub, pk_mul, zd_n, h0, eh, eC_years, h8.1], by unfold F_X11_saves; simp (disch := omega) only [zv, e_gi, e_gr, e_gl, e_si, e_sb, e_ai, e_ar, e_ti, e_ty, e_tz, e_cv, zc_some, zmo_some, zin_T, ↓reduceIte, zit_succ, zzr0, zzr1, true_and, and_true, and_self, or_false, false_or, or_true, true_or, not_true_eq_false, not_false_eq_true, zl0, zl1, zl2, zl3, zl4, zl5, zl6, zl7, zl8, zl9, zl10, zl11, zl12, zl20, zl24, zl31, zl36, zl40, zl42, zl44, zl48, zl49, zl50, zl55, zl57, zl60, zl97, zl99, zl100, zl102, zl104, zl109, zl113, zl114, zl119, zl126, zl255, zl400, zl1000, zl101, zl103, zl1001, zl1002, zl16, zl18, zl32, zl35, zl443, n_leT, n_leF, n_ltT, n_ltF, n_eqT, n_eqF, n_swT, n_swF, nI_add, n_sub, pk_mul, zd_n, s67, v4, ey], zI_ok (zI_scr hI' rfl rfl rfl (fun _ _ _ => rfl))⟩
    · obtain ⟨Y, -, hY, rfl⟩ := qIn_n (by omega) h8.2 (by omega)
      by_cases h7 : qFlow ea ne = nI 0
      · have ey := eM_years_no n (zwi S f) (nI Y) ea ne (Or.inr h7)
        exact ⟨-nI 102, zwi S f, zwi S f, by unfold F_X10_saves F_X10_saves_J25; simp (disch := omega) only [zv, e_gi, e_gr, e_gl, e_si, e_sb, e_ai, e_ar, e_ti, e_ty, e_tz, e_cv, zc_some, zmo_some, zin_T, ↓reduceIte, zit_succ, zzr0, zzr1, true_and, and_true, and_self, or_false, false_or, or_true, true_or, not_true_eq_false, not_false_eq_true, zl0, zl1, zl2, zl3, zl4, zl5, zl6, zl7, zl8, zl9, zl10, zl11, zl12, zl20, zl24, zl31, zl36, zl40, zl42, zl44, zl48, zl49, zl50, zl55, zl57, zl60, zl97, zl99, zl100, zl102, zl104, zl109, zl113, zl114, zl119, zl126, zl255, zl400, zl1000, zl101, zl103, zl1001, zl1002, zl16, zl18, zl32, zl35, zl443, n_leT, n_leF, n_ltT, n_ltF, n_eqT, n_eqF, n_swT, n_swF, nI_add, n_sub, pk_mul, zd_n, h0, eh, eC_years, h8.1, eC_flow, h7], by unfold F_X11_saves; simp (disch := omega) only [zv, e_gi, e_gr, e_gl, e_si, e_sb, e_ai, e_ar, e_ti, e_ty, e_tz, e_cv, zc_some, zmo_some, zin_T, ↓reduceIte, zit_succ, zzr0, zzr1, true_and, and_true, and_self, or_false, false_or, or_true, true_or, not_true_eq_false, not_false_eq_true, zl0, zl1, zl2, zl3, zl4, zl5, zl6, zl7, zl8, zl9, zl10, zl11, zl12, zl20, zl24, zl31, zl36, zl40, zl42, zl44, zl48, zl49, zl50, zl55, zl57, zl60, zl97, zl99, zl100, zl102, zl104, zl109, zl113, zl114, zl119, zl126, zl255, zl400, zl1000, zl101, zl103, zl1001, zl1002, zl16, zl18, zl32, zl35, zl443, n_leT, n_leF, n_ltT, n_ltF, n_eqT, n_eqF, n_swT, n_swF, nI_add, n_sub, pk_mul, zd_n, s67, v4, ey], zI_ok (zI_scr hI' rfl rfl rfl (fun _ _ _ => rfl))⟩
      · have h71 := qFlow_1 h7
        obtain ⟨C, hCd⟩ : ∃ C : Nat → Nat, C = fun p => (qYs pt ea ne (nI p) (f 104) (f 103) Y).2.1 := ⟨_, rfl⟩
        obtain ⟨B, hBd⟩ : ∃ B : Nat → Int32, B = fun p => qBs pt (qYs pt ea ne (nI p) (f 104) (f 103) Y).1 := ⟨_, rfl⟩
        have hC : ∀ p, C p ≤ 800 := fun p => by
          have := qYs_le (ea := ea) (ne := ne) (hd := nI p) (e := f 104) (W := f 103) v2 Y
          rw [hCd]
          dsimp only
          omega
        have hq := fun i t => qSv_b (pt := pt) (e := f 104) (B := B) hC i (t := t)
        have q1 : qSv pt (f 104) C B 1 = none := by
          rw [show 1 = 0 + 1 from rfl, qSv_s]
          exact if_neg (show ¬ (1 ≤ 0 ∧ 0 + 1 < pt ∧ f 104 0 = nI 0) from fun z => by omega)
        have qe : qSv pt (f 104) C B pt = qSv pt (f 104) C B (pt - 1) := by
          have e : pt = pt - 1 + 1 := by omega
          rw [← qSvS_no pt (f 104) C B (p := pt - 1) (by omega) (qSv pt (f 104) C B (pt - 1)), ← qSv_s, ← e]
        have cc : ∃ F, F_X10_saves_L42 n (zwi S f) 0 (nI Y) ea ne (-nI 1) (nI 1000000) (nI 1000000) (nI 0) = some ((cT (qSv pt (f 104) C B pt)).1, zwi S F) ∧ ∀ a j, a ≠ r + 3 → a ≠ r + 4 → F a j = f a j := by
          unfold F_X10_saves_L42
          have key9 := zforE (body := fun kc x => F_X10_saves_B42 n kc x.1 0 (nI Y) ea ne x.2.1 x.2.2.1 x.2.2.2.1 x.2.2.2.2) (fun i x => ∃ F, x = (zwi S F, (cT (qSv pt (f 104) C B i)).1, (cT (qSv pt (f 104) C B i)).2.1, (cT (qSv pt (f 104) C B i)).2.2, nI i) ∧ ∀ a j, a ≠ r + 3 → a ≠ r + 4 → F a j = f a j) pt (Q := fun x => ∃ F, x = some ((cT (qSv pt (f 104) C B pt)).1, zwi S F) ∧ ∀ a j, a ≠ r + 3 → a ≠ r + 4 → F a j = f a j) (fun i x hi hx => ?_) (fun x hx => ?_) (n := n) (by omega) (x := (zwi S f, -nI 1, nI 1000000, nI 1000000, nI 0)) ⟨f, rfl, fun _ _ _ _ => rfl⟩
          · obtain ⟨x, ⟨F, e1, e3⟩, e2⟩ := key9
            exact ⟨F, by rw [e2, e1], e3⟩
          · obtain ⟨F, rfl, g2⟩ := hx
            obtain ⟨F', t1, t2⟩ := eC_svS n (F := F) (p := i) (Y := Y) (W := f 103) (e := f 104) (ea := ea) (ne := ne) (s := qSv pt (f 104) C B i) hn h0 r7 hRv ((g2 r 4 (by omega) (by omega)).trans v3) (by omega) v2 (by omega) (fun p q => (g2 (r + 1) p (by omega) (by omega)).trans (hv p q).1) (fun p q => (g2 (r + 2) p (by omega) (by omega)).trans (hv p q).2) hi (fun t ht => (hq i t ht).2)
            rw [← hCd, ← hBd] at t1
            exact ⟨_, ⟨F', rfl, fun a j q1 q2 => (t2 a j q1 q2).trans (g2 a j q1 q2)⟩, fun kc => t1 kc⟩
          · obtain ⟨F, rfl, g2⟩ := hx
            have q4 := (g2 r 4 (by omega) (by omega)).trans v3
            refine ⟨_, ⟨F, rfl, g2⟩, fun kc => ?_⟩
            dsimp only
            unfold F_X10_saves_B42
            rw [e_gr, if_pos h0, r7, zmo_some, e_gi, if_pos c1, q4, if_pos (nI_le (by omega) (by omega))]
        obtain ⟨F, t1, t3⟩ := cc
        have q4 : F 85 23 = nI pt := (t3 85 23 (by omega) (by omega)).trans v4
        have mm : ∃ G, F_X11_saves_L34 n (zwi S F) 85 (nI Y) ea ne (-nI 1) (nI 0) (nI 0) (nI 1) = some ((mT (qSv pt (f 104) C B (pt - 1))).1, zwi S G) ∧ ∀ a j, a ≠ 115 → a ≠ 116 → ¬ (a = 85 ∧ (j = 47 ∨ j = 48 ∨ j = 49)) → G a j = F a j := by
          unfold F_X11_saves_L34
          have key9 := zforE (body := fun kc x => F_X11_saves_B34 n kc x.1 85 (nI Y) ea ne x.2.1 x.2.2.1 x.2.2.2.1 x.2.2.2.2) (fun i x => ∃ G, x = (zwi S G, (mT (qSv pt (f 104) C B (i + 1))).1, (mT (qSv pt (f 104) C B (i + 1))).2.1, (mT (qSv pt (f 104) C B (i + 1))).2.2, nI (i + 1)) ∧ ∀ a j, a ≠ 115 → a ≠ 116 → ¬ (a = 85 ∧ (j = 47 ∨ j = 48 ∨ j = 49)) → G a j = F a j) (pt - 2) (Q := fun x => ∃ G, x = some ((mT (qSv pt (f 104) C B (pt - 1))).1, zwi S G) ∧ ∀ a j, a ≠ 115 → a ≠ 116 → ¬ (a = 85 ∧ (j = 47 ∨ j = 48 ∨ j = 49)) → G a j = F a j) (fun i x hi hx => ?_) (fun x hx => ?_) (n := n) (by omega) (x := (zwi S F, -nI 1, nI 0, nI 0, nI 1)) ⟨F, by rw [Nat.zero_add, q1]; rfl, fun _ _ _ _ _ => rfl⟩
          · obtain ⟨x, ⟨G, e1, e3⟩, e2⟩ := key9
            exact ⟨G, by rw [e2, e1], e3⟩
          · obtain ⟨G, rfl, g2⟩ := hx
            obtain ⟨G', u1, u2⟩ := eM_svS n (F := G) (p := i + 1) (Y := Y) (W := f 103) (e := f 104) (ea := ea) (ne := ne) (s := qSv pt (f 104) C B (i + 1)) hn hM ((g2 85 23 (by omega) (by omega) (by omega)).trans q4) (by omega) v2 (by omega) (fun p q => (g2 103 p (by omega) (by omega) (by omega)).trans (t3 103 p (by omega) (by omega))) (fun p q => (g2 104 p (by omega) (by omega) (by omega)).trans (t3 104 p (by omega) (by omega))) (by omega) (fun t ht => ⟨by have := (hq (i + 1) t ht).1; omega, (hq (i + 1) t ht).2⟩)
            rw [← hCd, ← hBd] at u1
            exact ⟨_, ⟨G', rfl, fun a j q1 q2 q3 => (u2 a j q1 q2 q3).trans (g2 a j q1 q2 q3)⟩, fun kc => u1 kc⟩
          · obtain ⟨G, rfl, g2⟩ := hx
            have q5 := (g2 85 23 (by omega) (by omega) (by omega)).trans q4
            have e5 : pt - 2 + 1 = pt - 1 := by omega
            have hle : nI pt - (1 : Int32) ≤ nI (pt - 1) := by
              rw [zl1, n_sub (by omega)]
              exact nI_le (by omega) (by omega)
            rw [e5]
            refine ⟨_, ⟨G, rfl, g2⟩, fun kc => ?_⟩
            dsimp only
            unfold F_X11_saves_B34
            rw [e_gi, if_pos s67, q5]
            dsimp only [zv]
            rw [if_pos hle]
        obtain ⟨G, u1, u5⟩ := mm
        rw [cT_mT, qe] at t1
        generalize (mT (qSv pt (f 104) C B (pt - 1))).1 = x at t1 u1
        have ey := eM_years_ok n (zwi S F) (nI Y) ea ne h8.1 h71
        refine ⟨x, zwi S F, zwi S G, ?_, ?_, zI_ok (zI_scr hI' rfl rfl rfl (fun a j q => by unfold zScr at q; rw [u5 a j (by omega) (by omega) (by omega), t3 a j (by omega) (by omega)]))⟩
        · unfold F_X10_saves
          simp (disch := omega) only [zv, e_gi, e_gr, e_gl, e_si, e_sb, e_ai, e_ar, e_ti, e_ty, e_tz, e_cv, zc_some, zmo_some, zin_T, ↓reduceIte, zit_succ, zzr0, zzr1, true_and, and_true, and_self, or_false, false_or, or_true, true_or, not_true_eq_false, not_false_eq_true, zl0, zl1, zl2, zl3, zl4, zl5, zl6, zl7, zl8, zl9, zl10, zl11, zl12, zl20, zl24, zl31, zl36, zl40, zl42, zl44, zl48, zl49, zl50, zl55, zl57, zl60, zl97, zl99, zl100, zl102, zl104, zl109, zl113, zl114, zl119, zl126, zl255, zl400, zl1000, zl101, zl103, zl1001, zl1002, zl16, zl18, zl32, zl35, zl443, n_leT, n_leF, n_ltT, n_ltF, n_eqT, n_eqF, n_swT, n_swF, nI_add, n_sub, pk_mul, zd_n, zq1000000, h0, eh, eC_years, h8.1, eC_flow, h71, t1]
        · unfold F_X11_saves
          simp (disch := omega) only [zv, e_gi, e_gr, e_gl, e_si, e_sb, e_ai, e_ar, e_ti, e_ty, e_tz, e_cv, zc_some, zmo_some, zin_T, ↓reduceIte, zit_succ, zzr0, zzr1, true_and, and_true, and_self, or_false, false_or, or_true, true_or, not_true_eq_false, not_false_eq_true, zl0, zl1, zl2, zl3, zl4, zl5, zl6, zl7, zl8, zl9, zl10, zl11, zl12, zl20, zl24, zl31, zl36, zl40, zl42, zl44, zl48, zl49, zl50, zl55, zl57, zl60, zl97, zl99, zl100, zl102, zl104, zl109, zl113, zl114, zl119, zl126, zl255, zl400, zl1000, zl101, zl103, zl1001, zl1002, zl16, zl18, zl32, zl35, zl443, n_leT, n_leF, n_ltT, n_ltF, n_eqT, n_eqF, n_swT, n_swF, nI_add, n_sub, pk_mul, zd_n, s67, q4, ey, u1]
