theorem k_cuts {g n : Nat} (hn : 513 < n) {h : zH} (hI : zInv g h) (y ea ne : Int32) : zOk g (F_X10_cuts n h 0 y ea ne) (fun h => F_X11_cuts n h 85 y ea ne) := by
  obtain ⟨S, f, c, c', r, r', tr, pl, nd, da, R, H, cu, nl, nr, ra, np, pt, fi, rfl, hI⟩ := hI
  have hI' := hI
  obtain ⟨hS, hpg, hdo, ⟨hc6, hR, hH, hRH, hu2, hu3, hu4, hcu, hcu2⟩, hg, hlv, hbr, hwa, hrw, hpi, hrv, hfi, him⟩ := hI
  have hM := cl_M hS
  have hC := cl_Cu hS
  have hcc := cl_cc hS
  have hrr := cl_rr hS
  have htt := cl_tt hS
  have hR1 : f (c + 1) 0 = nI R := (hc6 0 (by omega)).trans hR
  have hH1 : f (c + 1) 1 = nI H := (hc6 1 (by omega)).trans hH
  have hR6 : R ≤ 6 ∧ H ≤ 4 := by rcases hRH with h | h <;> omega
  have hRk : (R = 0 ∧ f 85 1 = nI 0) ∨ (1 ≤ R ∧ R ≤ 6 ∧ f 85 1 = nI 1) := hRH.imp (fun h => ⟨h.1, h.2.2⟩) (fun h => ⟨by omega, h.2.1, h.2.2.2.2⟩)
  have hv := rv_q hrv
  obtain ⟨v1, v2, v3, v4, -⟩ := hrv
  have h0 : zsh S 0 = some (9, 20) := cl_s0 hS
  have r7 : zr S 0 7 = some r := cl_r hS
  have hRv := cl_Rv hS
  have c1 := hRv.1
  have s67 := mo_s85 hM
  have eh := eC_hasRiver n (f := f) h0 r7 hRv v3 v2
  by_cases hp0 : pt = 0
  · subst hp0
    rw [if_pos rfl] at eh
    exact ⟨-nI 103, zwi S f, zwi S f, by unfold F_X10_cuts; simp (disch := omega) only [zv, e_gi, e_gr, e_gl, e_si, e_sb, e_ai, e_ar, e_ti, e_ty, e_tz, e_cv, zc_some, zmo_some, zin_T, ↓reduceIte, zit_succ, zzr0, zzr1, true_and, and_true, and_self, or_false, false_or, or_true, true_or, not_true_eq_false, not_false_eq_true, zl0, zl1, zl2, zl3, zl4, zl5, zl6, zl7, zl8, zl9, zl10, zl11, zl12, zl20, zl24, zl31, zl36, zl40, zl42, zl44, zl48, zl49, zl50, zl55, zl57, zl60, zl97, zl99, zl100, zl102, zl104, zl109, zl113, zl114, zl119, zl126, zl255, zl400, zl1000, zl101, zl103, zl1001, zl1002, zl16, zl18, zl32, zl35, zl443, n_leT, n_leF, n_ltT, n_ltF, n_eqT, n_eqF, n_swT, n_swF, nI_add, n_sub, pk_mul, zd_n, h0, eh], by unfold F_X11_cuts; simp (disch := omega) only [zv, e_gi, e_gr, e_gl, e_si, e_sb, e_ai, e_ar, e_ti, e_ty, e_tz, e_cv, zc_some, zmo_some, zin_T, ↓reduceIte, zit_succ, zzr0, zzr1, true_and, and_true, and_self, or_false, false_or, or_true, true_or, not_true_eq_false, not_false_eq_true, zl0, zl1, zl2, zl3, zl4, zl5, zl6, zl7, zl8, zl9, zl10, zl11, zl12, zl20, zl24, zl31, zl36, zl40, zl42, zl44, zl48, zl49, zl50, zl55, zl57, zl60, zl97, zl99, zl100, zl102, zl104, zl109, zl113, zl114, zl119, zl126, zl255, zl400, zl1000, zl101, zl103, zl1001, zl1002, zl16, zl18, zl32, zl35, zl443, n_leT, n_leF, n_ltT, n_ltF, n_eqT, n_eqF, n_swT, n_swF, nI_add, n_sub, pk_mul, zd_n, s67, v4], zI_ok (zI_scr hI' rfl rfl rfl (fun _ _ _ => rfl))⟩
  · rw [if_neg hp0] at eh
    rcases qIn_c y (nI 0) (nI 99) with h8 | h8
    · have ey := eM_years_no n (zwi S f) y ea ne (Or.inl h8.1)
      exact ⟨-nI 102, zwi S f, zwi S f, by unfold F_X10_cuts F_X10_cuts_J25; simp (disch := omega) only [zv, e_gi, e_gr, e_gl, e_si, e_sb, e_ai, e_ar, e_ti, e_ty, e_tz, e_cv, zc_some, zmo_some, zin_T, ↓reduceIte, zit_succ, zzr0, zzr1, true_and, and_true, and_self, or_false, false_or, or_true, true_or, not_true_eq_false, not_false_eq_true, zl0, zl1, zl2, zl3, zl4, zl5, zl6, zl7, zl8, zl9, zl10, zl11, zl12, zl20, zl24, zl31, zl36, zl40, zl42, zl44, zl48, zl49, zl50, zl55, zl57, zl60, zl97, zl99, zl100, zl102, zl104, zl109, zl113, zl114, zl119, zl126, zl255, zl400, zl1000, zl101, zl103, zl1001, zl1002, zl16, zl18, zl32, zl35, zl443, n_leT, n_leF, n_ltT, n_ltF, n_eqT, n_eqF, n_swT, n_swF, nI_add, n_sub, pk_mul, zd_n, h0, eh, eC_years, h8.1], by unfold F_X11_cuts; simp (disch := omega) only [zv, e_gi, e_gr, e_gl, e_si, e_sb, e_ai, e_ar, e_ti, e_ty, e_tz, e_cv, zc_some, zmo_some, zin_T, ↓reduceIte, zit_succ, zzr0, zzr1, true_and, and_true, and_self, or_false, false_or, or_true, true_or, not_true_eq_false, not_false_eq_true, zl0, zl1, zl2, zl3, zl4, zl5, zl6, zl7, zl8, zl9, zl10, zl11, zl12, zl20, zl24, zl31, zl36, zl40, zl42, zl44, zl48, zl49, zl50, zl55, zl57, zl60, zl97, zl99, zl100, zl102, zl104, zl109, zl113, zl114, zl119, zl126, zl255, zl400, zl1000, zl101, zl103, zl1001, zl1002, zl16, zl18, zl32, zl35, zl443, n_leT, n_leF, n_ltT, n_ltF, n_eqT, n_eqF, n_swT, n_swF, nI_add, n_sub, pk_mul, zd_n, s67, v4, ey], zI_ok (zI_scr hI' rfl rfl rfl (fun _ _ _ => rfl))⟩
    · obtain ⟨Y, -, hY, rfl⟩ := qIn_n (by omega) h8.2 (by omega)
      by_cases h7 : qFlow ea ne = nI 0
      · have ey := eM_years_no n (zwi S f) (nI Y) ea ne (Or.inr h7)
        exact ⟨-nI 102, zwi S f, zwi S f, by unfold F_X10_cuts F_X10_cuts_J25; simp (disch := omega) only [zv, e_gi, e_gr, e_gl, e_si, e_sb, e_ai, e_ar, e_ti, e_ty, e_tz, e_cv, zc_some, zmo_some, zin_T, ↓reduceIte, zit_succ, zzr0, zzr1, true_and, and_true, and_self, or_false, false_or, or_true, true_or, not_true_eq_false, not_false_eq_true, zl0, zl1, zl2, zl3, zl4, zl5, zl6, zl7, zl8, zl9, zl10, zl11, zl12, zl20, zl24, zl31, zl36, zl40, zl42, zl44, zl48, zl49, zl50, zl55, zl57, zl60, zl97, zl99, zl100, zl102, zl104, zl109, zl113, zl114, zl119, zl126, zl255, zl400, zl1000, zl101, zl103, zl1001, zl1002, zl16, zl18, zl32, zl35, zl443, n_leT, n_leF, n_ltT, n_ltF, n_eqT, n_eqF, n_swT, n_swF, nI_add, n_sub, pk_mul, zd_n, h0, eh, eC_years, h8.1, eC_flow, h7], by unfold F_X11_cuts; simp (disch := omega) only [zv, e_gi, e_gr, e_gl, e_si, e_sb, e_ai, e_ar, e_ti, e_ty, e_tz, e_cv, zc_some, zmo_some, zin_T, ↓reduceIte, zit_succ, zzr0, zzr1, true_and, and_true, and_self, or_false, false_or, or_true, true_or, not_true_eq_false, not_false_eq_true, zl0, zl1, zl2, zl3, zl4, zl5, zl6, zl7, zl8, zl9, zl10, zl11, zl12, zl20, zl24, zl31, zl36, zl40, zl42, zl44, zl48, zl49, zl50, zl55, zl57, zl60, zl97, zl99, zl100, zl102, zl104, zl109, zl113, zl114, zl119, zl126, zl255, zl400, zl1000, zl101, zl103, zl1001, zl1002, zl16, zl18, zl32, zl35, zl443, n_leT, n_leF, n_ltT, n_ltF, n_eqT, n_eqF, n_swT, n_swF, nI_add, n_sub, pk_mul, zd_n, s67, v4, ey], zI_ok (zI_scr hI' rfl rfl rfl (fun _ _ _ => rfl))⟩
      · have h71 := qFlow_1 h7
        obtain ⟨F, t1, t2, t3⟩ := eC_goY n (f := f) (ea := ea) (ne := ne) (hd := -nI 1) (Y := Y) (W := f 103) (e := f 104) hn hRv v3 (by omega) v2 (by omega) (fun p q => (hv p q).1) (fun p q => (hv p q).2)
        obtain ⟨G, u1, u2, u3, -, u5⟩ := eM_layY n (f := F) (ea := ea) (ne := ne) (hd := -nI 1) (Y := Y) (W := f 103) (e := f 104) hn hM ((t3 85 23 (by omega) (by omega)).trans v4) (by omega) v2 (by omega) (fun p q => t3 103 p (by omega) (by omega)) (fun p q => t3 104 p (by omega) (by omega))
        have ey := eM_years_ok n (zwi S F) (nI Y) ea ne h8.1 h71
        have q4 : F 85 23 = nI pt := (t3 85 23 (by omega) (by omega)).trans v4
        refine ⟨nI (qYs pt ea ne (-nI 1) (f 104) (f 103) Y).2.1, zwi S F, zwi S G, ?_, ?_, zI_ok (zI_scr hI' rfl rfl rfl (fun a j q => by unfold zScr at q; rw [u5 a j (by omega) (by omega) (by omega), t3 a j (by omega) (by omega)]))⟩
        · unfold F_X10_cuts
          simp (disch := omega) only [zv, e_gi, e_gr, e_gl, e_si, e_sb, e_ai, e_ar, e_ti, e_ty, e_tz, e_cv, zc_some, zmo_some, zin_T, ↓reduceIte, zit_succ, zzr0, zzr1, true_and, and_true, and_self, or_false, false_or, or_true, true_or, not_true_eq_false, not_false_eq_true, zl0, zl1, zl2, zl3, zl4, zl5, zl6, zl7, zl8, zl9, zl10, zl11, zl12, zl20, zl24, zl31, zl36, zl40, zl42, zl44, zl48, zl49, zl50, zl55, zl57, zl60, zl97, zl99, zl100, zl102, zl104, zl109, zl113, zl114, zl119, zl126, zl255, zl400, zl1000, zl101, zl103, zl1001, zl1002, zl16, zl18, zl32, zl35, zl443, n_leT, n_leF, n_ltT, n_ltF, n_eqT, n_eqF, n_swT, n_swF, nI_add, n_sub, pk_mul, zd_n, h0, r7, c1, eh, eC_years, h8.1, eC_flow, h71, t1]
        · unfold F_X11_cuts
          simp (disch := omega) only [zv, e_gi, e_gr, e_gl, e_si, e_sb, e_ai, e_ar, e_ti, e_ty, e_tz, e_cv, zc_some, zmo_some, zin_T, ↓reduceIte, zit_succ, zzr0, zzr1, true_and, and_true, and_self, or_false, false_or, or_true, true_or, not_true_eq_false, not_false_eq_true, zl0, zl1, zl2, zl3, zl4, zl5, zl6, zl7, zl8, zl9, zl10, zl11, zl12, zl20, zl24, zl31, zl36, zl40, zl42, zl44, zl48, zl49, zl50, zl55, zl57, zl60, zl97, zl99, zl100, zl102, zl104, zl109, zl113, zl114, zl119, zl126, zl255, zl400, zl1000, zl101, zl103, zl1001, zl1002, zl16, zl18, zl32, zl35, zl443, n_leT, n_leF, n_ltT, n_ltF, n_eqT, n_eqF, n_swT, n_swF, nI_add, n_sub, pk_mul, zd_n, s67, q4, ey, u1, u3]
theorem first_0 (C : Nat → Nat) : ∀ N, ∃ k, k ≤ N ∧ (∀ j, j < k → C j = 0) ∧ (k = N ∨ (k < N ∧ 0 < C k))
  | 0 => ⟨0, Nat.le_refl 0, fun j hj => by omega, Or.inl rfl⟩
  | N + 1 => by
    obtain ⟨k, h1, h2, h3⟩ := first_0 C N
    rcases h3 with h3 | h3
    · subst h3
      by_cases hc : C k = 0
      · refine ⟨k + 1, by omega, fun j hj => ?_, Or.inl rfl⟩
        by_cases e : j = k
        · subst e; exact hc
        · exact h2 j (by omega)
      · exact ⟨k, by omega, h2, Or.inr ⟨by omega, by omega⟩⟩
    · exact ⟨k, by omega, h2, Or.inr ⟨by omega, h3.2⟩⟩
theorem qYs_f0 {pt : Nat} {ea ne hd : Int32} {e W : Nat → Int32} : ∀ {k : Nat}, (∀ j, j < k → (qYear pt ea ne hd e (qYs pt ea ne hd e W j).1).2 = 0) → (qYs pt ea ne hd e W k).2.2 = -nI 1
  | 0, _ => rfl
  | k + 1, h => by
    rw [qYs_s]
    dsimp only
    rw [h k (by omega), qFy_0]
    exact qYs_f0 (fun j hj => h j (by omega))
theorem qYs_f1 {pt k : Nat} {ea ne hd : Int32} {e W : Nat → Int32} (hk : k < 2147483648) (h0 : (qYs pt ea ne hd e W k).2.2 = -nI 1) (h1 : 0 < (qYear pt ea ne hd e (qYs pt ea ne hd e W k).1).2) : ∀ m, (qYs pt ea ne hd e W (k + 1 + m)).2.2 = nI k
  | 0 => by
    rw [Nat.add_zero, qYs_s]
    dsimp only
    rw [h0]
    exact if_pos ⟨rfl, h1⟩
  | m + 1 => by
    have ih := qYs_f1 hk h0 h1 m
    rw [← Nat.add_assoc, qYs_s]
    dsimp only
    rw [ih]
    exact if_neg (fun z => by have := z.1; rw [n_m1 hk] at this; exact this)
theorem k_firstCut {g n : Nat} (hn : 513 < n) {h : zH} (hI : zInv g h) (ea ne : Int32) : zOk g (F_X10_firstCut n h 0 ea ne) (fun h => F_X11_firstCut n h 85 ea ne) := by
  obtain ⟨S, f, c, c', r, r', tr, pl, nd, da, R, H, cu, nl, nr, ra, np, pt, fi, rfl, hI⟩ := hI
  have hI' := hI
  obtain ⟨hS, hpg, hdo, ⟨hc6, hR, hH, hRH, hu2, hu3, hu4, hcu, hcu2⟩, hg, hlv, hbr, hwa, hrw, hpi, hrv, hfi, him⟩ := hI
  have hM := cl_M hS
  have hC := cl_Cu hS
  have hcc := cl_cc hS
  have hrr := cl_rr hS
  have htt := cl_tt hS
  have hR1 : f (c + 1) 0 = nI R := (hc6 0 (by omega)).trans hR
  have hH1 : f (c + 1) 1 = nI H := (hc6 1 (by omega)).trans hH
  have hR6 : R ≤ 6 ∧ H ≤ 4 := by rcases hRH with h | h <;> omega
  have hRk : (R = 0 ∧ f 85 1 = nI 0) ∨ (1 ≤ R ∧ R ≤ 6 ∧ f 85 1 = nI 1) := hRH.imp (fun h => ⟨h.1, h.2.2⟩) (fun h => ⟨by omega, h.2.1, h.2.2.2.2⟩)
  have hv := rv_q hrv
  obtain ⟨v1, v2, v3, v4, -⟩ := hrv
  have h0 : zsh S 0 = some (9, 20) := cl_s0 hS
  have r7 : zr S 0 7 = some r := cl_r hS
  have hRv := cl_Rv hS
  have c1 := hRv.1
  have s67 := mo_s85 hM
  have h81 : qIn (nI 0) (nI 0) (nI 99) = nI 1 := by decide
  have eh := eC_hasRiver n (f := f) h0 r7 hRv v3 v2
  by_cases hp0 : pt = 0
  · subst hp0
    rw [if_pos rfl] at eh
    exact ⟨-nI 103, zwi S f, zwi S f, by unfold F_X10_firstCut; simp (disch := omega) only [zv, e_gi, e_gr, e_gl, e_si, e_sb, e_ai, e_ar, e_ti, e_ty, e_tz, e_cv, zc_some, zmo_some, zin_T, ↓reduceIte, zit_succ, zzr0, zzr1, true_and, and_true, and_self, or_false, false_or, or_true, true_or, not_true_eq_false, not_false_eq_true, zl0, zl1, zl2, zl3, zl4, zl5, zl6, zl7, zl8, zl9, zl10, zl11, zl12, zl20, zl24, zl31, zl36, zl40, zl42, zl44, zl48, zl49, zl50, zl55, zl57, zl60, zl97, zl99, zl100, zl102, zl104, zl109, zl113, zl114, zl119, zl126, zl255, zl400, zl1000, zl101, zl103, zl1001, zl1002, zl16, zl18, zl32, zl35, zl443, n_leT, n_leF, n_ltT, n_ltF, n_eqT, n_eqF, n_swT, n_swF, nI_add, n_sub, pk_mul, zd_n, h0, eh], by unfold F_X11_firstCut; simp (disch := omega) only [zv, e_gi, e_gr, e_gl, e_si, e_sb, e_ai, e_ar, e_ti, e_ty, e_tz, e_cv, zc_some, zmo_some, zin_T, ↓reduceIte, zit_succ, zzr0, zzr1, true_and, and_true, and_self, or_false, false_or, or_true, true_or, not_true_eq_false, not_false_eq_true, zl0, zl1, zl2, zl3, zl4, zl5, zl6, zl7, zl8, zl9, zl10, zl11, zl12, zl20, zl24, zl31, zl36, zl40, zl42, zl44, zl48, zl49, zl50, zl55, zl57, zl60, zl97, zl99, zl100, zl102, zl104, zl109, zl113, zl114, zl119, zl126, zl255, zl400, zl1000, zl101, zl103, zl1001, zl1002, zl16, zl18, zl32, zl35, zl443, n_leT, n_leF, n_ltT, n_ltF, n_eqT, n_eqF, n_swT, n_swF, nI_add, n_sub, pk_mul, zd_n, s67, v4], zI_ok (zI_scr hI' rfl rfl rfl (fun _ _ _ => rfl))⟩
  · rw [if_neg hp0] at eh
    by_cases h7 : qFlow ea ne = nI 0
    · have ey := eM_years_no n (zwi S f) (nI 0) ea ne (Or.inr h7)
      exact ⟨-nI 102, zwi S f, zwi S f, by unfold F_X10_firstCut; simp (disch := omega) only [zv, e_gi, e_gr, e_gl, e_si, e_sb, e_ai, e_ar, e_ti, e_ty, e_tz, e_cv, zc_some, zmo_some, zin_T, ↓reduceIte, zit_succ, zzr0, zzr1, true_and, and_true, and_self, or_false, false_or, or_true, true_or, not_true_eq_false, not_false_eq_true, zl0, zl1, zl2, zl3, zl4, zl5, zl6, zl7, zl8, zl9, zl10, zl11, zl12, zl20, zl24, zl31, zl36, zl40, zl42, zl44, zl48, zl49, zl50, zl55, zl57, zl60, zl97, zl99, zl100, zl102, zl104, zl109, zl113, zl114, zl119, zl126, zl255, zl400, zl1000, zl101, zl103, zl1001, zl1002, zl16, zl18, zl32, zl35, zl443, n_leT, n_leF, n_ltT, n_ltF, n_eqT, n_eqF, n_swT, n_swF, nI_add, n_sub, pk_mul, zd_n, h0, eh, eC_flow, h7], by unfold F_X11_firstCut; simp (disch := omega) only [zv, e_gi, e_gr, e_gl, e_si, e_sb, e_ai, e_ar, e_ti, e_ty, e_tz, e_cv, zc_some, zmo_some, zin_T, ↓reduceIte, zit_succ, zzr0, zzr1, true_and, and_true, and_self, or_false, false_or, or_true, true_or, not_true_eq_false, not_false_eq_true, zl0, zl1, zl2, zl3, zl4, zl5, zl6, zl7, zl8, zl9, zl10, zl11, zl12, zl20, zl24, zl31, zl36, zl40, zl42, zl44, zl48, zl49, zl50, zl55, zl57, zl60, zl97, zl99, zl100, zl102, zl104, zl109, zl113, zl114, zl119, zl126, zl255, zl400, zl1000, zl101, zl103, zl1001, zl1002, zl16, zl18, zl32, zl35, zl443, n_leT, n_leF, n_ltT, n_ltF, n_eqT, n_eqF, n_swT, n_swF, nI_add, n_sub, pk_mul, zd_n, s67, v4, ey], zI_ok (zI_scr hI' rfl rfl rfl (fun _ _ _ => rfl))⟩
    · have h71 := qFlow_1 h7
      obtain ⟨F1, b1, b2, b3⟩ := eC_beginY n (f := f) (W := f 103) hn hRv v3 v2 (fun p q => (hv p q).1)
      obtain ⟨k, k1, k2, k3⟩ := first_0 (fun i => (qYear pt ea ne (-nI 1) (f 104) (qYs pt ea ne (-nI 1) (f 104) (f 103) i).1).2) 100
      have fx : (qYs pt ea ne (-nI 1) (f 104) (f 103) 100).2.2 = if k = 100 then -nI 1 else nI k := by
        have e0 := qYs_f0 k2
        rcases k3 with k3 | ⟨k3, k4⟩
        · subst k3
          rw [if_pos rfl]
          exact e0
        · rw [if_neg (by omega)]
          have := qYs_f1 (by omega) e0 k4 (99 - k)
          rw [show k + 1 + (99 - k) = 100 by omega] at this
          exact this
      have mid : ∃ F, F_X10_firstCut_L30 n (zwi S F1) 0 ea ne (nI 0) = some (if k = 100 then -nI 1 else nI k, zwi S F) ∧ ∀ a j, a ≠ r + 3 → a ≠ r + 4 → F a j = f a j := by
        unfold F_X10_firstCut_L30
        have key9 := zforE (body := fun kc x => F_X10_firstCut_B30 n kc x.1 0 ea ne x.2) (fun i x => ∃ F, x = (zwi S F, nI i) ∧ (∀ p, p < pt → F (r + 3) p = (qYs pt ea ne (-nI 1) (f 104) (f 103) i).1 p) ∧ ∀ a j, a ≠ r + 3 → a ≠ r + 4 → F a j = f a j) k (Q := fun x => ∃ F, x = some (if k = 100 then -nI 1 else nI k, zwi S F) ∧ ∀ a j, a ≠ r + 3 → a ≠ r + 4 → F a j = f a j) (fun i x hi hx => ?_) (fun x hx => ?_) (n := n) (by omega) (x := (zwi S F1, nI 0)) ⟨F1, rfl, b2, fun a j q _ => b3 a j q⟩
        · obtain ⟨x, ⟨F, e1, e3⟩, e2⟩ := key9
          exact ⟨F, by rw [e2, e1], e3⟩
        · obtain ⟨F, rfl, g1, g2⟩ := hx
          obtain ⟨Z, y1, y2, y3⟩ := eC_year n (F0 := F) (ea := ea) (ne := ne) (hd := -nI 1) (e := f 104) hn hRv ((g2 r 4 (by omega) (by omega)).trans v3) (by omega) v2 g1 (fun p hpp => (g2 (r + 2) p (by omega) (by omega)).trans (hv p hpp).2)
          have k2' : (qYear pt ea ne (-nI 1) (f 104) (qYs pt ea ne (-nI 1) (f 104) (f 103) i).1).2 = 0 := k2 i hi
          rw [k2'] at y1
          refine ⟨_, ⟨Z, rfl, fun p hpp => by rw [qYs_s]; exact y2 p hpp, fun a j q1 q2 => (y3 a j q1 q2).trans (g2 a j q1 q2)⟩, fun kc => ?_⟩
          simp (disch := omega) only [F_X10_firstCut_B30, zv, e_gi, e_gr, e_gl, e_si, e_sb, e_ai, e_ar, e_ti, e_ty, e_tz, e_cv, zc_some, zmo_some, zin_T, ↓reduceIte, zit_succ, zzr0, zzr1, true_and, and_true, and_self, or_false, false_or, or_true, true_or, not_true_eq_false, not_false_eq_true, zl0, zl1, zl2, zl3, zl4, zl5, zl6, zl7, zl8, zl9, zl10, zl11, zl12, zl20, zl24, zl31, zl36, zl40, zl42, zl44, zl48, zl49, zl50, zl55, zl57, zl60, zl97, zl99, zl100, zl102, zl104, zl109, zl113, zl114, zl119, zl126, zl255, zl400, zl1000, zl101, zl103, zl1001, zl1002, zl16, zl18, zl32, zl35, zl443, n_leT, n_leF, n_ltT, n_ltF, n_eqT, n_eqF, n_swT, n_swF, nI_add, n_sub, pk_mul, zd_n, h0, r7, c1, y1]
        · obtain ⟨F, rfl, g1, g2⟩ := hx
          rcases k3 with k3 | ⟨k3, k4⟩
          · refine ⟨_, ⟨F, rfl, g2⟩, fun kc => ?_⟩
            subst k3
            rw [if_pos rfl]
            simp (disch := omega) only [F_X10_firstCut_B30, zv, e_gi, e_gr, e_gl, e_si, e_sb, e_ai, e_ar, e_ti, e_ty, e_tz, e_cv, zc_some, zmo_some, zin_T, ↓reduceIte, zit_succ, zzr0, zzr1, true_and, and_true, and_self, or_false, false_or, or_true, true_or, not_true_eq_false, not_false_eq_true, zl0, zl1, zl2, zl3, zl4, zl5, zl6, zl7, zl8, zl9, zl10, zl11, zl12, zl20, zl24, zl31, zl36, zl40, zl42, zl44, zl48, zl49, zl50, zl55, zl57, zl60, zl97, zl99, zl100, zl102, zl104, zl109, zl113, zl114, zl119, zl126, zl255, zl400, zl1000, zl101, zl103, zl1001, zl1002, zl16, zl18, zl32, zl35, zl443, n_leT, n_leF, n_ltT, n_ltF, n_eqT, n_eqF, n_swT, n_swF, nI_add, n_sub, pk_mul, zd_n]
          · obtain ⟨Z, y1, y2, y3⟩ := eC_year n (F0 := F) (ea := ea) (ne := ne) (hd := -nI 1) (e := f 104) hn hRv ((g2 r 4 (by omega) (by omega)).trans v3) (by omega) v2 g1 (fun p hpp => (g2 (r + 2) p (by omega) (by omega)).trans (hv p hpp).2)
            have hle := qYear_le pt ea ne (-nI 1) (f 104) (qYs pt ea ne (-nI 1) (f 104) (f 103) k).1
            refine ⟨_, ⟨Z, rfl, fun a j q1 q2 => (y3 a j q1 q2).trans (g2 a j q1 q2)⟩, fun kc => ?_⟩
            generalize (qYear pt ea ne (-nI 1) (f 104) (qYs pt ea ne (-nI 1) (f 104) (f 103) k).1).2 = C at k4 y1 hle
            rw [if_neg (by omega)]
            simp (disch := omega) only [F_X10_firstCut_B30, zv, e_gi, e_gr, e_gl, e_si, e_sb, e_ai, e_ar, e_ti, e_ty, e_tz, e_cv, zc_some, zmo_some, zin_T, ↓reduceIte, zit_succ, zzr0, zzr1, true_and, and_true, and_self, or_false, false_or, or_true, true_or, not_true_eq_false, not_false_eq_true, zl0, zl1, zl2, zl3, zl4, zl5, zl6, zl7, zl8, zl9, zl10, zl11, zl12, zl20, zl24, zl31, zl36, zl40, zl42, zl44, zl48, zl49, zl50, zl55, zl57, zl60, zl97, zl99, zl100, zl102, zl104, zl109, zl113, zl114, zl119, zl126, zl255, zl400, zl1000, zl101, zl103, zl1001, zl1002, zl16, zl18, zl32, zl35, zl443, n_leT, n_leF, n_ltT, n_ltF, n_eqT, n_eqF, n_swT, n_swF, nI_add, n_sub, pk_mul, zd_n, h0, r7, c1, y1]
      obtain ⟨F, t1, t3⟩ := mid
      obtain ⟨G, u1, u2, -, u4, u5⟩ := eM_layY n (f := F) (ea := ea) (ne := ne) (hd := -nI 1) (Y := 100) (W := f 103) (e := f 104) hn hM ((t3 85 23 (by omega) (by omega)).trans v4) (by omega) v2 (by omega) (fun p q => t3 103 p (by omega) (by omega)) (fun p q => t3 104 p (by omega) (by omega))
      rw [fx] at u4
      have ey := eM_years_ok n (zwi S F) (nI 0) ea ne h81 h71
      have q4 : F 85 23 = nI pt := (t3 85 23 (by omega) (by omega)).trans v4
      refine ⟨if k = 100 then -nI 1 else nI k, zwi S F, zwi S G, ?_, ?_, zI_ok (zI_scr hI' rfl rfl rfl (fun a j q => by unfold zScr at q; rw [u5 a j (by omega) (by omega) (by omega), t3 a j (by omega) (by omega)]))⟩
      · unfold F_X10_firstCut
        simp (disch := omega) only [zv, e_gi, e_gr, e_gl, e_si, e_sb, e_ai, e_ar, e_ti, e_ty, e_tz, e_cv, zc_some, zmo_some, zin_T, ↓reduceIte, zit_succ, zzr0, zzr1, true_and, and_true, and_self, or_false, false_or, or_true, true_or, not_true_eq_false, not_false_eq_true, zl0, zl1, zl2, zl3, zl4, zl5, zl6, zl7, zl8, zl9, zl10, zl11, zl12, zl20, zl24, zl31, zl36, zl40, zl42, zl44, zl48, zl49, zl50, zl55, zl57, zl60, zl97, zl99, zl100, zl102, zl104, zl109, zl113, zl114, zl119, zl126, zl255, zl400, zl1000, zl101, zl103, zl1001, zl1002, zl16, zl18, zl32, zl35, zl443, n_leT, n_leF, n_ltT, n_ltF, n_eqT, n_eqF, n_swT, n_swF, nI_add, n_sub, pk_mul, zd_n, h0, r7, c1, eh, eC_flow, h71, b1, t1]
      · unfold F_X11_firstCut
        simp (disch := omega) only [zv, e_gi, e_gr, e_gl, e_si, e_sb, e_ai, e_ar, e_ti, e_ty, e_tz, e_cv, zc_some, zmo_some, zin_T, ↓reduceIte, zit_succ, zzr0, zzr1, true_and, and_true, and_self, or_false, false_or, or_true, true_or, not_true_eq_false, not_false_eq_true, zl0, zl1, zl2, zl3, zl4, zl5, zl6, zl7, zl8, zl9, zl10, zl11, zl12, zl20, zl24, zl31, zl36, zl40, zl42, zl44, zl48, zl49, zl50, zl55, zl57, zl60, zl97, zl99, zl100, zl102, zl104, zl109, zl113, zl114, zl119, zl126, zl255, zl400, zl1000, zl101, zl103, zl1001, zl1002, zl16, zl18, zl32, zl35, zl443, n_leT, n_leF, n_ltT, n_ltF, n_eqT, n_eqF, n_swT, n_swF, nI_add, n_sub, pk_mul, zd_n, s67, q4, ey, u1, u4]
