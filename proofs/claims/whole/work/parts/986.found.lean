theorem zd_q {β : Type} {a b : Nat} {k : Int32 → Option β} (h : a < 2147483648 ∧ 0 < b ∧ b < 2147483648) : zd (nI a) (nI b) k = k (nI (a / b)) := by
  rw [zd_n h.2, pk_div h.1 h.2.1 h.2.2]
theorem eM_fOut (n : Nat) {S : zH} {f F0 : Nat → Nat → Int32} {g c c' r r' tr pl nd R H cu nl nr np pt fi M q : Nat} {da ra : Nat → Nat} {off : Nat → Int32} {C : Nat → Int32 × Int32} {x0 w : Int32} (hn : 513 < n) (hI : zI S f g c c' r r' tr pl nd da R H cu nl nr ra np pt fi) {S' : zH} (hE : zExt S S') (hF0 : ∀ b j, b < zsz S → (b < 44 ∨ 50 < b) → ¬ (b = 0 ∧ j = 18) → ¬ (b = 85 ∧ j = 26) → F0 b j = f b j) (hR : 1 ≤ R)
    (hof : ∀ (F : Nat → Nat → Int32) (v m : Nat), m < 20 → (∀ b j, b = 86 ∨ (91 ≤ b ∧ b ≤ 97 ∧ b ≠ 96) → F b j = f b j) → qO (qSt F R H (v + 1) (m + 1)) (F 97) R nl = off (20 * v + m))
    (hC : ∀ i, C (i + 1) = if (C i).2 ≤ off i then C i else (nI i, off i)) (hC0 : C 0 = (nI 0, nI 268435456)) (hM : M = 400) (hq : C M = (nI q, w)) (hq4 : q < 400) {X : Int32} (hX : X = if x0 = nI 0 then nI (q / 20 + 1) else if x0 = nI 1 then nI (q % 20 + 1) else w) :
    ∃ G, F_X11_found_L52 n (zwi S' F0) 85 x0 (nI 0) (nI 268435456) (nI 0) = some (X, zwi S' G) ∧ ∀ b j, b ≠ 88 → b ≠ 96 → G b j = F0 b j := by
  have hzz := cl_zz hI.1
  have hKl := zKl_ext hE hI.1
  have s67 := mo_s85 (cl_M hKl)
  unfold F_X11_found_L52
  have key9 := zforE (body := fun kc x => F_X11_found_B52 n kc x.1 85 x0 x.2.1 x.2.2.1 x.2.2.2) (fun i x => ∃ G, x = (zwi S' G, (C i).1, (C i).2, nI i) ∧ ∀ b j, b ≠ 88 → b ≠ 96 → G b j = F0 b j) M (Q := fun x => ∃ G, x = some (X, zwi S' G) ∧ ∀ b j, b ≠ 88 → b ≠ 96 → G b j = F0 b j) (fun i x hi hx => ?_) (fun x hx => ?_) (n := n) (by omega) (x := (zwi S' F0, nI 0, nI 268435456, nI 0)) ⟨F0, by rw [hC0], fun _ _ _ _ => rfl⟩
  · obtain ⟨x, ⟨G, e1, e3⟩, e2⟩ := key9
    exact ⟨G, by rw [e2, e1], e3⟩
  · obtain ⟨G, rfl, hG⟩ := hx
    have hJ := zI0_ext hI hE (f' := G) (fun b j q1 q2 q3 q4 => by
      unfold zScr at q2
      rw [hG b j (by omega) (by omega)]
      exact hF0 b j q1 (by omega) q3 q4)
    obtain ⟨F1, F2, F3, t1, t2, t3, t4, t5⟩ := eM_stir1 n (v := i / 20 + 1) (many := i % 20 + 1) hn hJ hR (by omega)
    have hv := hof G (i / 20) (i % 20) (by omega) (fun b j q => by rw [hG b j (by omega) (by omega)]; exact hF0 b j (by omega) (by omega) (by omega) (by omega))
    rw [show 20 * (i / 20) + i % 20 = i by omega] at hv
    rw [hv] at t4
    refine ⟨(zwi S' F3, (C (i + 1)).1, (C (i + 1)).2, nI (i + 1)), ⟨F3, rfl, fun b j q1 q2 => (t5 b j q1 q2).trans (hG b j q1 q2)⟩, fun kc => ?_⟩
    have hlt : ¬ (400 : Int32) ≤ nI i := show ¬ nI 400 ≤ nI i from nI_ge (by omega) (by omega)
    rw [hC i]
    dsimp only
    unfold F_X11_found_B52
    rw [if_neg hlt, e_cv, if_pos s67, t1, zc_some, zl20, zl1, zl60, zl0, zd_q (by omega)]
    dsimp only [zv]
    rw [nI_add, zm_nn (by omega), nI_add, e_cv, if_pos s67, t2, zc_some, e_cv, if_pos s67, t3, zc_some, e_cv, if_pos s67, t4, zc_some]
    by_cases hq' : (C i).2 ≤ off i
    · rw [if_pos hq', if_pos hq']
      simp (disch := omega) only [F_X11_found_J107, zv, zl0, zl1, zl2, zl3, zl4, zl5, zl6, zl7, zl8, zl9, zl10, zl11, zl12, zl20, zl24, zl31, zl36, zl40, zl42, zl44, zl48, zl49, zl50, zl55, zl57, zl60, zl97, zl99, zl100, zl102, zl104, zl109, zl113, zl114, zl119, zl126, zl255, zl400, zl1000, zl101, zl103, zl1001, zl1002, zl16, zl18, zl32, zl35, zl443, n_leT, n_leF, n_ltT, n_ltF, n_eqT, n_eqF, n_swT, n_swF, nI_add, n_sub, pk_mul, zd_n]
    · rw [if_neg hq', if_neg hq', e_cv, if_pos s67, t4, zc_some]
      simp (disch := omega) only [F_X11_found_J107, zv, zl0, zl1, zl2, zl3, zl4, zl5, zl6, zl7, zl8, zl9, zl10, zl11, zl12, zl20, zl24, zl31, zl36, zl40, zl42, zl44, zl48, zl49, zl50, zl55, zl57, zl60, zl97, zl99, zl100, zl102, zl104, zl109, zl113, zl114, zl119, zl126, zl255, zl400, zl1000, zl101, zl103, zl1001, zl1002, zl16, zl18, zl32, zl35, zl443, n_leT, n_leF, n_ltT, n_ltF, n_eqT, n_eqF, n_swT, n_swF, nI_add, n_sub, pk_mul, zd_n]
  · obtain ⟨G, rfl, hG⟩ := hx
    refine ⟨_, ⟨G, rfl, hG⟩, fun kc => ?_⟩
    have hle : (400 : Int32) ≤ nI M := show nI 400 ≤ nI M from nI_le (by omega) (by omega)
    rw [hq]
    dsimp only
    unfold F_X11_found_B52
    rw [if_pos hle, hX]
    by_cases a0 : x0 = nI 0
    · rw [if_pos a0, if_pos (show x0 = (0 : Int32) from a0), zl20, zd_q (by omega)]
      simp (disch := omega) only [F_X11_found_J141, zv, zl0, zl1, zl2, zl3, zl4, zl5, zl6, zl7, zl8, zl9, zl10, zl11, zl12, zl20, zl24, zl31, zl36, zl40, zl42, zl44, zl48, zl49, zl50, zl55, zl57, zl60, zl97, zl99, zl100, zl102, zl104, zl109, zl113, zl114, zl119, zl126, zl255, zl400, zl1000, zl101, zl103, zl1001, zl1002, zl16, zl18, zl32, zl35, zl443, n_leT, n_leF, n_ltT, n_ltF, n_eqT, n_eqF, n_swT, n_swF, nI_add, n_sub, pk_mul, zd_n]
    · rw [if_neg a0, if_neg (show ¬ x0 = (0 : Int32) from a0)]
      by_cases a1 : x0 = nI 1
      · rw [if_pos a1, if_pos (show x0 = (1 : Int32) from a1), zl20, zm_nn (by omega)]
        simp (disch := omega) only [F_X11_found_J141, zv, zl0, zl1, zl2, zl3, zl4, zl5, zl6, zl7, zl8, zl9, zl10, zl11, zl12, zl20, zl24, zl31, zl36, zl40, zl42, zl44, zl48, zl49, zl50, zl55, zl57, zl60, zl97, zl99, zl100, zl102, zl104, zl109, zl113, zl114, zl119, zl126, zl255, zl400, zl1000, zl101, zl103, zl1001, zl1002, zl16, zl18, zl32, zl35, zl443, n_leT, n_leF, n_ltT, n_ltF, n_eqT, n_eqF, n_swT, n_swF, nI_add, n_sub, pk_mul, zd_n]
      · rw [if_neg a1, if_neg (show ¬ x0 = (1 : Int32) from a1)]
        rfl
theorem k_found {g n : Nat} (hn : 513 < n) {h : zH} (hI : zInv g h) (p : Int32) : zOk g (F_X10_found n h 0 p) (fun h => F_X11_found n h 85 p) := by
  obtain ⟨S, f, c, c', r, r', tr, pl, nd, da, R, H, cu, nl, nr, ra, np, pt, fi, rfl, hI⟩ := hI
  have hI' := hI
  obtain ⟨hS, hpg, hdo, ⟨hc6, hR, hH, hRH, hu2, hu3, hu4, hcu, hcu2⟩, hg, hlv, hbr, hwa, hrw, hpi, hrv, hfi, him⟩ := hI
  have hM := cl_M hS
  have hC := cl_Cu hS
  have hcc := cl_cc hS
  have hrr := cl_rr hS
  have htt := cl_tt hS
  have hR1 : f (c + 1) 0 = nI R := (hc6 0 (by omega)).trans hR
  have hH1 : f (c + 1) 1 = nI H := (hc6 1 (by omega)).trans hH
  have hR6 : R ≤ 6 ∧ H ≤ 4 := by rcases hRH with h | h <;> omega
  have hRk : (R = 0 ∧ f 85 1 = nI 0) ∨ (1 ≤ R ∧ R ≤ 6 ∧ f 85 1 = nI 1) := hRH.imp (fun h => ⟨h.1, h.2.2⟩) (fun h => ⟨by omega, h.2.1, h.2.2.2.2⟩)
  have eC := eC_hasCup n (cl_s0 hS) (cl_c hS) hC hR1 hR6.1
  have h0 : zsh S 0 = some (9, 20) := cl_s0 hS
  have s67 := mo_s85 hM
  have hnl := hlv.1
  obtain ⟨x1, x2, x3⟩ := hfi
  have hzz := cl_zz hS
  have htz := cl_tz hS
  rcases hRk with ⟨rfl, h1⟩ | ⟨hR0, -, h1⟩
  · rw [if_pos rfl] at eC
    refine ⟨-nI 103, zwi S f, zwi S f, ?_, ?_, zI_ok (zI_scr hI' rfl rfl rfl (fun _ _ _ => rfl))⟩
    · unfold F_X10_found
      rw [e_cv, if_pos h0, eC, zc_some, if_pos (show nI 0 = (0 : Int32) from rfl)]
      rfl
    · unfold F_X11_found
      dsimp only
      rw [e_gi, if_pos s67, h1, if_pos (show nI 0 = (0 : Int32) from rfl)]
      rfl
  · rw [if_neg (by omega)] at eC
    rcases qIn_c p (nI 0) (nI 2) with h9 | h9
    · have ec := eC_in n (zwi S f) p (nI 0) (nI 2)
      have em := eM_in n (zwi S f) p (nI 0) (nI 2)
      rw [h9.1] at ec em
      refine ⟨-nI 102, zwi S f, zwi S f, ?_, ?_, zI_ok (zI_scr hI' rfl rfl rfl (fun _ _ _ => rfl))⟩
      · unfold F_X10_found
        rw [e_cv, if_pos h0, eC, zc_some, if_neg (show ¬ nI 1 = (0 : Int32) by decide)]
        show zc (F_X10_isWithin n (zwi S f) p (nI 0) (nI 2)) _ = _
        rw [ec, zc_some, if_pos (show nI 0 = (0 : Int32) from rfl)]
        rfl
      · unfold F_X11_found
        dsimp only
        rw [e_gi, if_pos s67, h1, if_neg (show ¬ nI 1 = (0 : Int32) by decide)]
        show zc (F_X11_within n (zwi S f) p (nI 0) (nI 2)) _ = _
        rw [em, zc_some, if_pos (show nI 0 = (0 : Int32) from rfl)]
        rfl
    · have ec := eC_in n (zwi S f) p (nI 0) (nI 2)
      have em := fun F => eM_in n F p (nI 0) (nI 2)
      rw [h9.1] at ec em
      by_cases hf12 : fi = 12
      · subst hf12
        refine ⟨-nI 103, zwi S f, zwi S f, ?_, ?_, zI_ok (zI_scr hI' rfl rfl rfl (fun _ _ _ => rfl))⟩
        · unfold F_X10_found
          rw [e_cv, if_pos h0, eC, zc_some, if_neg (show ¬ nI 1 = (0 : Int32) by decide)]
          show zc (F_X10_isWithin n (zwi S f) p (nI 0) (nI 2)) _ = _
          rw [ec, zc_some, if_neg (show ¬ nI 1 = (0 : Int32) by decide), e_gi, if_pos h0, x2, if_neg (show ¬ nI 12 < (12 : Int32) by decide)]
          rfl
        · unfold F_X11_found
          dsimp only
          rw [e_gi, if_pos s67, h1, if_neg (show ¬ nI 1 = (0 : Int32) by decide)]
          show zc (F_X11_within n (zwi S f) p (nI 0) (nI 2)) _ = _
          rw [em, zc_some, if_neg (show ¬ nI 1 = (0 : Int32) by decide), e_gi, if_pos s67, x3, if_pos (show nI 12 = (12 : Int32) from rfl)]
          rfl
      · obtain ⟨off, hoff⟩ : ∃ off : Nat → Int32, off = fun i => qO (qSt f R H (i / 20 + 1) (i % 20 + 1)) (f 97) R nl := ⟨_, rfl⟩
        have h00 : ∃ k, k < 1000 ∧ off 0 = nI k := by
          obtain ⟨k, k1, k2⟩ := qO_n (Y := qSt f R H (0 / 20 + 1) (0 % 20 + 1)) (W := f 97) (R := R) hnl (fun x hx => (hwa x (by omega)).2)
          exact ⟨k, by omega, by rw [hoff]; exact k2⟩
        have hof : ∀ (F : Nat → Nat → Int32) (v m : Nat), m < 20 → (∀ b j, b = 86 ∨ (91 ≤ b ∧ b ≤ 97 ∧ b ≠ 96) → F b j = f b j) → qO (qSt F R H (v + 1) (m + 1)) (F 97) R nl = off (20 * v + m) := fun F v m hm hF => by
          have g1 : (20 * v + m) / 20 = v := by omega
          have g2 : (20 * v + m) % 20 = m := by omega
          have g3 : F 97 = f 97 := by funext j; exact hF 97 j (by omega)
          have g4 : qSt F R H (v + 1) (m + 1) = qSt f R H (v + 1) (m + 1) := by funext l; exact qSt_cg (fun b q => by funext j; exact hF b j (by omega)) R H _ _ l
          have g5 : off (20 * v + m) = qO (qSt f R H ((20 * v + m) / 20 + 1) ((20 * v + m) % 20 + 1)) (f 97) R nl := by rw [hoff]
          rw [g5, g1, g2, g3, g4]
        obtain ⟨M, hM1⟩ : ∃ M, M = 20 * 20 := ⟨_, rfl⟩
        have hM4 : M = 400 := by omega
        have cp := qCs_p off (i := M) (by omega)
        have mp := qMs_p off (i := M) (by omega)
        have hle := qBe_le off (M - 1)
        generalize qBe off (M - 1) = q4 at cp mp hle
        obtain ⟨q, w⟩ := q4
        dsimp only at cp mp hle
        obtain ⟨X, hX⟩ : ∃ X, X = if p = nI 0 then nI (q / 20 + 1) else if p = nI 1 then nI (q % 20 + 1) else w := ⟨_, rfl⟩
        obtain ⟨S', F, a1, hE, hF⟩ := eC_fOut n (x0 := p) (C := qCs off) (off := off) (M := M) (X := X) hn hI' hR0 hof (qCs_s h00) (qCs_0 off) hM1 (by rw [cp]; exact hX)
        have hKl := zKl_ext hE hS
        have hMo := cl_M hKl
        have s67' := mo_s85 hMo
        have hF0 : ∀ b j, b < zsz S → (b < 44 ∨ 50 < b) → ¬ (b = 0 ∧ j = 18) → F b j = f b j := fun b j q1 q2 q3 => by rw [hF b j q1 q2]; exact z2n (by omega)
        obtain ⟨G, b1, hG⟩ := eM_fOut n (x0 := p) (C := qMs off) (off := off) (M := M) (X := X) (q := q) (w := w) (F0 := z2 F 85 26 (nI (fi + 1))) hn hI' hE (fun b j q1 q2 q3 q4 => by rw [z2_ne _ _ _ _ q4]; exact hF0 b j q1 q2 q3) hR0 hof (qMs_s h00) (qMs_0 off) hM4 mp (by omega) hX
        have hJ := zI0_ext hI' hE (f' := G) (fun b j q1 q2 q3 q4 => by
          unfold zScr at q2
          rw [hG b j (by omega) (by omega), z2n (by omega)]
          exact hF0 b j q1 (by omega) q3)
        have hfin : I_fi G (fi + 1) := ⟨by omega, by rw [hG 0 18 (by omega) (by omega), z2n (by omega), hF 0 18 (by omega) (by omega)]; exact z2_eq _ _ _ _, by rw [hG 85 26 (by omega) (by omega)]; exact z2_eq _ _ _ _⟩
        have y1 : F 85 1 = nI 1 := (hF0 85 1 (by omega) (by omega) (by omega)).trans h1
        have y2 : F 85 26 = nI fi := (hF0 85 26 (by omega) (by omega) (by omega)).trans x3
        have nlt : nI fi < (12 : Int32) := show nI fi < nI 12 from nI_lt (by omega) (by omega)
        have nne : ¬ nI fi = (12 : Int32) := fun z => hf12 (n_inj (by omega) (by omega) (show nI fi = nI 12 from z))
        refine ⟨X, zwi S' F, zwi S' G, ?_, ?_, zI_ok (zI0_fi hJ hfin)⟩
        · unfold F_X10_found
          rw [e_cv, if_pos h0, eC, zc_some, if_neg (show ¬ nI 1 = (0 : Int32) by decide)]
          show zc (F_X10_isWithin n (zwi S f) p (nI 0) (nI 2)) _ = _
          rw [ec, zc_some, if_neg (show ¬ nI 1 = (0 : Int32) by decide), e_gi, if_pos h0, x2, if_pos nlt, e_gi, if_pos h0, x2]
          dsimp only [zv]
          rw [zl1, nI_add, e_si, if_pos h0]
          exact a1
        · unfold F_X11_found
          dsimp only
          rw [e_gi, if_pos s67', y1, if_neg (show ¬ nI 1 = (0 : Int32) by decide)]
          show zc (F_X11_within n (zwi S' F) p (nI 0) (nI 2)) _ = _
          rw [em, zc_some, if_neg (show ¬ nI 1 = (0 : Int32) by decide), e_gi, if_pos s67', y2, if_neg nne, e_gi, if_pos s67', y2]
          dsimp only [zv]
          rw [zl1, nI_add, e_si, if_pos s67']
          exact b1
