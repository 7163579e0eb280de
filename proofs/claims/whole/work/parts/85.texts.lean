/-! ===== texts: how the class and the reference run over the page ===== -/
theorem n_m1 {k : Nat} (h : k < 2147483648) : (nI k = -nI 1) = False := eq_false (fun z => by
  have := congrArg Int32.toInt z
  rw [n_int h, show (-nI 1).toInt = -1 by decide] at this
  omega)
theorem n_ltm1 {k : Nat} (h : k < 2147483648) : (-nI 1 < nI k) = True := eq_true (Int32.lt_iff_toInt_lt.mpr (by rw [n_int h, show (-nI 1).toInt = -1 by decide]; omega))
theorem n_lem1 {k : Nat} (h : k < 2147483648) : (nI k ≤ -nI 1) = False := eq_false (fun z => by
  have := Int32.le_iff_toInt_le.mp z
  rw [n_int h, show (-nI 1).toInt = -1 by decide] at this
  omega)
theorem eC_run {σ : Type} (n : Nat) {S : zH} {f F0 : Nat → Nat → Int32} {cd : Nat → Nat} {pl t w k : Nat} {s0 s : σ} (st : σ → Nat → Option σ) (I : Nat → σ → (Nat → Nat → Int32) → Prop) (T : zH → Int32 → Option (Int32 × zH)) (hn : 513 < n) (hpl : pl ≤ 50) (ht2 : 2 < t) (h1 : zsh S 1 = some (5, 2))
    (hp : f 1 1 = nI pl) (hcd : ∀ i, i < pl → f 2 i = nI (cd i))
    (hB : ∀ kc F i, i < pl → F 1 1 = nI pl → F 2 i = nI (cd i) → F_X5_firstWrong_B6 n kc (zwi S F) 1 t (nI i) = zc (T (zwi S F) (nI (cd i))) (fun x h => F_X5_firstWrong_J24 n kc h 1 t (nI i) x))
    (hT : ∀ i s F, i < pl → I i s F → ∃ F', (∀ a j, (a < t ∨ t + w < a) → F' a j = F a j) ∧ ((st s (cd i) = none ∧ T (zwi S F) (nI (cd i)) = some (nI 0, zwi S F')) ∨ ∃ s', st s (cd i) = some s' ∧ T (zwi S F) (nI (cd i)) = some (nI 1, zwi S F') ∧ I (i + 1) s' F'))
    (h0 : I 0 s0 F0) (hF0 : ∀ a j, (a < t ∨ t + w < a) → F0 a j = f a j) (hk : k ≤ pl) (ht : tst st s0 cd k = some s) (hs : k = pl ∨ (k < pl ∧ st s (cd k) = none)) :
    ∃ F, F_X5_firstWrong_L6 n (zwi S F0) 1 t (nI 0) = some (nI k, zwi S F) ∧ (k = pl → I k s F) ∧ ∀ a j, (a < t ∨ t + w < a) → F a j = f a j := by
  unfold F_X5_firstWrong_L6
  have key9 := zforE (body := fun kc x => F_X5_firstWrong_B6 n kc x.1 1 t x.2) (fun i x => ∃ s' F, tst st s0 cd i = some s' ∧ x = (zwi S F, nI i) ∧ I i s' F ∧ ∀ a j, (a < t ∨ t + w < a) → F a j = f a j) k (Q := fun r => ∃ F, r = some (nI k, zwi S F) ∧ (k = pl → I k s F) ∧ ∀ a j, (a < t ∨ t + w < a) → F a j = f a j) (fun i x hi hx => ?_) (fun x hx => ?_) (n := n) (by omega) (x := (zwi S F0, nI 0)) ⟨s0, F0, rfl, rfl, h0, hF0⟩
  · obtain ⟨r, ⟨F, e1, e3, e4⟩, e2⟩ := key9
    exact ⟨F, by rw [e2, e1], e3, e4⟩
  · obtain ⟨s', F, g1, rfl, g2, g3⟩ := hx
    obtain ⟨s'', g4, g5⟩ := tst_step ht hi g1
    obtain ⟨F', g6, g7⟩ := hT i s' F (by omega) g2
    rcases g7 with ⟨g7, -⟩ | ⟨s3, g7, g8, g9⟩
    · rw [g4] at g7
      cases g7
    · have e : s3 = s'' := Option.some.inj (g7.symm.trans g4)
      subst e
      refine ⟨_, ⟨s3, F', g5, rfl, g9, fun a j q => (g6 a j q).trans (g3 a j q)⟩, fun kc => ?_⟩
      dsimp only
      rw [hB kc F i (by omega) ((g3 1 1 (by omega)).trans hp) ((g3 2 i (by omega)).trans (hcd i (by omega))), g8]
      simp (disch := omega) only [F_X5_firstWrong_J24, zv, e_gi, e_gr, e_gl, e_si, e_sb, e_ai, e_ar, e_ti, e_ty, e_tz, e_cv, zc_some, zmo_some, zin_T, ↓reduceIte, zit_succ, zzr0, zzr1, true_and, and_true, and_self, or_false, false_or, or_true, true_or, not_true_eq_false, not_false_eq_true, zl0, zl1, zl2, zl3, zl4, zl5, zl6, zl7, zl8, zl9, zl10, zl11, zl12, zl20, zl24, zl31, zl36, zl40, zl42, zl44, zl48, zl49, zl50, zl55, zl57, zl60, zl97, zl99, zl100, zl102, zl104, zl109, zl113, zl114, zl119, zl126, zl255, zl400, zl1000, zl101, zl103, zl1001, zl1002, zl16, zl18, zl32, zl35, zl443, n_leT, n_leF, n_ltT, n_ltF, n_eqT, n_eqF, n_swT, n_swF, nI_add, n_sub, pk_mul, zd_n]
  · obtain ⟨s', F, g1, rfl, g2, g3⟩ := hx
    have e : s' = s := Option.some.inj (g1.symm.trans ht)
    subst e
    rcases hs with hs | ⟨hs, hs2⟩
    · refine ⟨_, ⟨F, rfl, fun _ => g2, g3⟩, fun kc => ?_⟩
      have := (g3 1 1 (by omega)).trans hp
      subst hs
      simp (disch := omega) only [F_X5_firstWrong_B6, zv, e_gi, e_gr, e_gl, e_si, e_sb, e_ai, e_ar, e_ti, e_ty, e_tz, e_cv, zc_some, zmo_some, zin_T, ↓reduceIte, zit_succ, zzr0, zzr1, true_and, and_true, and_self, or_false, false_or, or_true, true_or, not_true_eq_false, not_false_eq_true, zl0, zl1, zl2, zl3, zl4, zl5, zl6, zl7, zl8, zl9, zl10, zl11, zl12, zl20, zl24, zl31, zl36, zl40, zl42, zl44, zl48, zl49, zl50, zl55, zl57, zl60, zl97, zl99, zl100, zl102, zl104, zl109, zl113, zl114, zl119, zl126, zl255, zl400, zl1000, zl101, zl103, zl1001, zl1002, zl16, zl18, zl32, zl35, zl443, n_leT, n_leF, n_ltT, n_ltF, n_eqT, n_eqF, n_swT, n_swF, nI_add, n_sub, pk_mul, zd_n, h1, this]
    · obtain ⟨F', g6, g7⟩ := hT k s' F hs g2
      rcases g7 with ⟨-, g8⟩ | ⟨s3, g7, g8, g9⟩
      · refine ⟨_, ⟨F', rfl, fun z => by omega, fun a j q => (g6 a j q).trans (g3 a j q)⟩, fun kc => ?_⟩
        dsimp only
        rw [hB kc F k hs ((g3 1 1 (by omega)).trans hp) ((g3 2 k (by omega)).trans (hcd k hs)), g8]
        simp (disch := omega) only [F_X5_firstWrong_J24, zv, e_gi, e_gr, e_gl, e_si, e_sb, e_ai, e_ar, e_ti, e_ty, e_tz, e_cv, zc_some, zmo_some, zin_T, ↓reduceIte, zit_succ, zzr0, zzr1, true_and, and_true, and_self, or_false, false_or, or_true, true_or, not_true_eq_false, not_false_eq_true, zl0, zl1, zl2, zl3, zl4, zl5, zl6, zl7, zl8, zl9, zl10, zl11, zl12, zl20, zl24, zl31, zl36, zl40, zl42, zl44, zl48, zl49, zl50, zl55, zl57, zl60, zl97, zl99, zl100, zl102, zl104, zl109, zl113, zl114, zl119, zl126, zl255, zl400, zl1000, zl101, zl103, zl1001, zl1002, zl16, zl18, zl32, zl35, zl443, n_leT, n_leF, n_ltT, n_ltF, n_eqT, n_eqF, n_swT, n_swF, nI_add, n_sub, pk_mul, zd_n]
      · rw [hs2] at g7
        cases g7
/-- the reference's cells for texts -/
def mScr (a j : Nat) : Prop := (110 ≤ a ∧ a ≤ 114) ∨ (a = 85 ∧ (j = 36 ∨ j = 37 ∨ j = 39 ∨ j = 42))
theorem eM_run {σ : Type} (n : Nat) {S : zH} {f F0 : Nat → Nat → Int32} {cd : Nat → Nat} {pl v k : Nat} {s0 s : σ} (st : σ → Nat → Option σ) (J : Nat → σ → (Nat → Nat → Int32) → Prop) (N : zH → Int32 → Int32 → Option (Int32 × zH)) (code : σ → Nat) (hn : 513 < n) (hpl : pl ≤ 50) (hM : zMo S)
    (hp : f 85 27 = nI pl) (hcd : ∀ i, i < pl → f 105 i = nI (cd i)) (hcode : ∀ i s F, J i s F → code s ≤ 11)
    (hB : ∀ kc F x i, i < pl → F 85 27 = nI pl → F 105 i = nI (cd i) → F_X11_readPage_B24 n kc (zwi S F) 85 (nI v) x (nI i) (nI 1) = zc (N (zwi S F) x (nI (cd i))) (fun y h => F_X11_readPage_J85 n kc h 85 (nI v) x (nI i) y))
    (hN : ∀ i s F, i < pl → J i s F → ∃ F', (∀ a j, ¬ mScr a j → F' a j = F a j) ∧ ((st s (cd i) = none ∧ N (zwi S F) (nI (code s)) (nI (cd i)) = some (-nI 1, zwi S F')) ∨ ∃ s', st s (cd i) = some s' ∧ N (zwi S F) (nI (code s)) (nI (cd i)) = some (nI (code s'), zwi S F') ∧ J (i + 1) s' F'))
    (h0 : J 0 s0 F0) (hF0 : ∀ a j, ¬ mScr a j → F0 a j = f a j) (hk : k ≤ pl) (ht : tst st s0 cd k = some s) (hs : k = pl ∨ (k < pl ∧ st s (cd k) = none)) :
    ∃ F, F_X11_readPage_L24 n (zwi S F0) 85 (nI v) (nI (code s0)) (nI 0) (nI 1) = F_X11_readPage_J128 n (zwi S F) 85 (nI v) (nI (code s)) (nI k) ∧ code s ≤ 11 ∧ (k = pl → J k s F) ∧ ∀ a j, ¬ mScr a j → F a j = f a j := by
  have m1 : ∀ j, j < 2147483648 → ¬ mScr 85 27 := fun j hj z => by unfold mScr at z; omega
  have m27 : ¬ mScr 85 27 := fun z => by unfold mScr at z; omega
  have m87 : ∀ i, ¬ mScr 105 i := fun i z => by unfold mScr at z; omega
  have s67 := mo_s85 hM
  unfold F_X11_readPage_L24
  rcases hs with hs | ⟨hs, hs2⟩
  · have key9 := zforE (body := fun kc x => F_X11_readPage_B24 n kc x.1 85 (nI v) x.2.1 x.2.2.1 x.2.2.2) (fun i x => ∃ s' F, tst st s0 cd i = some s' ∧ x = (zwi S F, nI (code s'), nI i, nI 1) ∧ J i s' F ∧ ∀ a j, ¬ mScr a j → F a j = f a j) k (Q := fun r => ∃ F, r = F_X11_readPage_J128 n (zwi S F) 85 (nI v) (nI (code s)) (nI k) ∧ code s ≤ 11 ∧ (k = pl → J k s F) ∧ ∀ a j, ¬ mScr a j → F a j = f a j) (fun i x hi hx => ?_) (fun x hx => ?_) (n := n) (by omega) (x := (zwi S F0, nI (code s0), nI 0, nI 1)) ⟨s0, F0, rfl, rfl, h0, hF0⟩
    · obtain ⟨r, ⟨F, e1, e3, e4, e5⟩, e2⟩ := key9
      exact ⟨F, by rw [e2, e1], e3, e4, e5⟩
    · obtain ⟨s', F, g1, rfl, g2, g3⟩ := hx
      obtain ⟨s'', g4, g5⟩ := tst_step ht hi g1
      obtain ⟨F', g6, g7⟩ := hN i s' F (by omega) g2
      rcases g7 with ⟨g7, -⟩ | ⟨s3, g7, g8, g9⟩
      · rw [g4] at g7
        cases g7
      · have e : s3 = s'' := Option.some.inj (g7.symm.trans g4)
        subst e
        have hc := hcode _ _ _ g9
        refine ⟨_, ⟨s3, F', g5, rfl, g9, fun a j q => (g6 a j q).trans (g3 a j q)⟩, fun kc => ?_⟩
        dsimp only
        rw [hB kc F _ i (by omega) ((g3 85 27 m27).trans hp) ((g3 105 i (m87 i)).trans (hcd i (by omega))), g8]
        simp (disch := omega) only [F_X11_readPage_J85, F_X11_readPage_J98, F_X11_readPage_J111, F_X11_readPage_J123, zv, e_gi, e_gr, e_gl, e_si, e_sb, e_ai, e_ar, e_ti, e_ty, e_tz, e_cv, zc_some, zmo_some, zin_T, ↓reduceIte, zit_succ, zzr0, zzr1, true_and, and_true, and_self, or_false, false_or, or_true, true_or, not_true_eq_false, not_false_eq_true, zl0, zl1, zl2, zl3, zl4, zl5, zl6, zl7, zl8, zl9, zl10, zl11, zl12, zl20, zl24, zl31, zl36, zl40, zl42, zl44, zl48, zl49, zl50, zl55, zl57, zl60, zl97, zl99, zl100, zl102, zl104, zl109, zl113, zl114, zl119, zl126, zl255, zl400, zl1000, zl101, zl103, zl1001, zl1002, zl16, zl18, zl32, zl35, zl443, n_leT, n_leF, n_ltT, n_ltF, n_eqT, n_eqF, n_swT, n_swF, nI_add, n_sub, pk_mul, zd_n, n_m1]
    · obtain ⟨s', F, g1, rfl, g2, g3⟩ := hx
      have e : s' = s := Option.some.inj (g1.symm.trans ht)
      subst e
      refine ⟨_, ⟨F, rfl, hcode _ _ _ g2, fun _ => g2, g3⟩, fun kc => ?_⟩
      have := (g3 85 27 m27).trans hp
      subst hs
      simp (disch := omega) only [F_X11_readPage_B24, zv, e_gi, e_gr, e_gl, e_si, e_sb, e_ai, e_ar, e_ti, e_ty, e_tz, e_cv, zc_some, zmo_some, zin_T, ↓reduceIte, zit_succ, zzr0, zzr1, true_and, and_true, and_self, or_false, false_or, or_true, true_or, not_true_eq_false, not_false_eq_true, zl0, zl1, zl2, zl3, zl4, zl5, zl6, zl7, zl8, zl9, zl10, zl11, zl12, zl20, zl24, zl31, zl36, zl40, zl42, zl44, zl48, zl49, zl50, zl55, zl57, zl60, zl97, zl99, zl100, zl102, zl104, zl109, zl113, zl114, zl119, zl126, zl255, zl400, zl1000, zl101, zl103, zl1001, zl1002, zl16, zl18, zl32, zl35, zl443, n_leT, n_leF, n_ltT, n_ltF, n_eqT, n_eqF, n_swT, n_swF, nI_add, n_sub, pk_mul, zd_n, s67, this]
  · have key9 := zforE (body := fun kc x => F_X11_readPage_B24 n kc x.1 85 (nI v) x.2.1 x.2.2.1 x.2.2.2) (fun i x => (i ≤ k ∧ ∃ s' F, tst st s0 cd i = some s' ∧ x = (zwi S F, nI (code s'), nI i, nI 1) ∧ J i s' F ∧ ∀ a j, ¬ mScr a j → F a j = f a j) ∨ (k < i ∧ ∃ F, x = (zwi S F, nI (code s), nI k, nI 0) ∧ code s ≤ 11 ∧ ∀ a j, ¬ mScr a j → F a j = f a j)) (k + 1) (Q := fun r => ∃ F, r = F_X11_readPage_J128 n (zwi S F) 85 (nI v) (nI (code s)) (nI k) ∧ code s ≤ 11 ∧ (k = pl → J k s F) ∧ ∀ a j, ¬ mScr a j → F a j = f a j) (fun i x hi hx => ?_) (fun x hx => ?_) (n := n) (by omega) (x := (zwi S F0, nI (code s0), nI 0, nI 1)) (Or.inl ⟨by omega, s0, F0, rfl, rfl, h0, hF0⟩)
    · obtain ⟨r, ⟨F, e1, e3, e4, e5⟩, e2⟩ := key9
      exact ⟨F, by rw [e2, e1], e3, e4, e5⟩
    · rcases hx with ⟨hik, s', F, g1, rfl, g2, g3⟩ | ⟨hik, -⟩
      · obtain ⟨F', g6, g7⟩ := hN i s' F (by omega) g2
        have hc' := hcode _ _ _ g2
        by_cases hik' : i = k
        · subst hik'
          have e : s' = s := Option.some.inj (g1.symm.trans ht)
          subst e
          rcases g7 with ⟨-, g8⟩ | ⟨s3, g7, g8, g9⟩
          · refine ⟨_, Or.inr ⟨by omega, F', rfl, hc', fun a j q => (g6 a j q).trans (g3 a j q)⟩, fun kc => ?_⟩
            dsimp only
            rw [hB kc F _ i (by omega) ((g3 85 27 m27).trans hp) ((g3 105 i (m87 i)).trans (hcd i (by omega))), g8]
            simp (disch := omega) only [F_X11_readPage_J85, F_X11_readPage_J98, F_X11_readPage_J111, F_X11_readPage_J123, zv, e_gi, e_gr, e_gl, e_si, e_sb, e_ai, e_ar, e_ti, e_ty, e_tz, e_cv, zc_some, zmo_some, zin_T, ↓reduceIte, zit_succ, zzr0, zzr1, true_and, and_true, and_self, or_false, false_or, or_true, true_or, not_true_eq_false, not_false_eq_true, zl0, zl1, zl2, zl3, zl4, zl5, zl6, zl7, zl8, zl9, zl10, zl11, zl12, zl20, zl24, zl31, zl36, zl40, zl42, zl44, zl48, zl49, zl50, zl55, zl57, zl60, zl97, zl99, zl100, zl102, zl104, zl109, zl113, zl114, zl119, zl126, zl255, zl400, zl1000, zl101, zl103, zl1001, zl1002, zl16, zl18, zl32, zl35, zl443, n_leT, n_leF, n_ltT, n_ltF, n_eqT, n_eqF, n_swT, n_swF, nI_add, n_sub, pk_mul, zd_n, Nat.add_zero]
          · rw [hs2] at g7
            cases g7
        · obtain ⟨s'', g4, g5⟩ := tst_step ht (show i < k by omega) g1
          rcases g7 with ⟨g7, -⟩ | ⟨s3, g7, g8, g9⟩
          · rw [g4] at g7
            cases g7
          · have e : s3 = s'' := Option.some.inj (g7.symm.trans g4)
            subst e
            have hc := hcode _ _ _ g9
            refine ⟨_, Or.inl ⟨by omega, s3, F', g5, rfl, g9, fun a j q => (g6 a j q).trans (g3 a j q)⟩, fun kc => ?_⟩
            dsimp only
            rw [hB kc F _ i (by omega) ((g3 85 27 m27).trans hp) ((g3 105 i (m87 i)).trans (hcd i (by omega))), g8]
            simp (disch := omega) only [F_X11_readPage_J85, F_X11_readPage_J98, F_X11_readPage_J111, F_X11_readPage_J123, zv, e_gi, e_gr, e_gl, e_si, e_sb, e_ai, e_ar, e_ti, e_ty, e_tz, e_cv, zc_some, zmo_some, zin_T, ↓reduceIte, zit_succ, zzr0, zzr1, true_and, and_true, and_self, or_false, false_or, or_true, true_or, not_true_eq_false, not_false_eq_true, zl0, zl1, zl2, zl3, zl4, zl5, zl6, zl7, zl8, zl9, zl10, zl11, zl12, zl20, zl24, zl31, zl36, zl40, zl42, zl44, zl48, zl49, zl50, zl55, zl57, zl60, zl97, zl99, zl100, zl102, zl104, zl109, zl113, zl114, zl119, zl126, zl255, zl400, zl1000, zl101, zl103, zl1001, zl1002, zl16, zl18, zl32, zl35, zl443, n_leT, n_leF, n_ltT, n_ltF, n_eqT, n_eqF, n_swT, n_swF, nI_add, n_sub, pk_mul, zd_n, n_m1]
      · omega
    · rcases hx with ⟨hik, -⟩ | ⟨hik, F, rfl, hc, g3⟩
      · omega
      · refine ⟨_, ⟨F, rfl, hc, fun z => by omega, g3⟩, fun kc => ?_⟩
        have := (g3 85 27 m27).trans hp
        simp (disch := omega) only [F_X11_readPage_B24, zv, e_gi, e_gr, e_gl, e_si, e_sb, e_ai, e_ar, e_ti, e_ty, e_tz, e_cv, zc_some, zmo_some, zin_T, ↓reduceIte, zit_succ, zzr0, zzr1, true_and, and_true, and_self, or_false, false_or, or_true, true_or, not_true_eq_false, not_false_eq_true, zl0, zl1, zl2, zl3, zl4, zl5, zl6, zl7, zl8, zl9, zl10, zl11, zl12, zl20, zl24, zl31, zl36, zl40, zl42, zl44, zl48, zl49, zl50, zl55, zl57, zl60, zl97, zl99, zl100, zl102, zl104, zl109, zl113, zl114, zl119, zl126, zl255, zl400, zl1000, zl101, zl103, zl1001, zl1002, zl16, zl18, zl32, zl35, zl443, n_leT, n_leF, n_ltT, n_ltF, n_eqT, n_eqF, n_swT, n_swF, nI_add, n_sub, pk_mul, zd_n, s67, this]
theorem eC_digitOf (n : Nat) (h : zH) {c : Nat} (hc : c ≤ 126) : F_X9_digitOf n h (nI c) = some (if 48 ≤ c ∧ c ≤ 57 then nI (c - 48) else -nI 1, h) := by
  unfold F_X9_digitOf
  by_cases h1 : c < 48
  · rw [if_neg (show ¬ (48 ≤ c ∧ c ≤ 57) by omega)]
    simp (disch := omega) only [F_X9_digitOf_J19, F_X9_digitOf_J20, zv, e_gi, e_gr, e_gl, e_si, e_sb, e_ai, e_ar, e_ti, e_ty, e_tz, e_cv, zc_some, zmo_some, zin_T, ↓reduceIte, zit_succ, zzr0, zzr1, true_and, and_true, and_self, or_false, false_or, or_true, true_or, not_true_eq_false, not_false_eq_true, zl0, zl1, zl2, zl3, zl4, zl5, zl6, zl7, zl8, zl9, zl10, zl11, zl12, zl20, zl24, zl31, zl36, zl40, zl42, zl44, zl48, zl49, zl50, zl55, zl57, zl60, zl97, zl99, zl100, zl102, zl104, zl109, zl113, zl114, zl119, zl126, zl255, zl400, zl1000, zl101, zl103, zl1001, zl1002, zl16, zl18, zl32, zl35, zl443, n_leT, n_leF, n_ltT, n_ltF, n_eqT, n_eqF, n_swT, n_swF, nI_add, n_sub, pk_mul, zd_n]
  · by_cases h2 : 57 < c
    · rw [if_neg (show ¬ (48 ≤ c ∧ c ≤ 57) by omega)]
      simp (disch := omega) only [F_X9_digitOf_J19, F_X9_digitOf_J20, zv, e_gi, e_gr, e_gl, e_si, e_sb, e_ai, e_ar, e_ti, e_ty, e_tz, e_cv, zc_some, zmo_some, zin_T, ↓reduceIte, zit_succ, zzr0, zzr1, true_and, and_true, and_self, or_false, false_or, or_true, true_or, not_true_eq_false, not_false_eq_true, zl0, zl1, zl2, zl3, zl4, zl5, zl6, zl7, zl8, zl9, zl10, zl11, zl12, zl20, zl24, zl31, zl36, zl40, zl42, zl44, zl48, zl49, zl50, zl55, zl57, zl60, zl97, zl99, zl100, zl102, zl104, zl109, zl113, zl114, zl119, zl126, zl255, zl400, zl1000, zl101, zl103, zl1001, zl1002, zl16, zl18, zl32, zl35, zl443, n_leT, n_leF, n_ltT, n_ltF, n_eqT, n_eqF, n_swT, n_swF, nI_add, n_sub, pk_mul, zd_n]
    · rw [if_pos (show 48 ≤ c ∧ c ≤ 57 by omega)]
      simp (disch := omega) only [F_X9_digitOf_J19, F_X9_digitOf_J20, zv, e_gi, e_gr, e_gl, e_si, e_sb, e_ai, e_ar, e_ti, e_ty, e_tz, e_cv, zc_some, zmo_some, zin_T, ↓reduceIte, zit_succ, zzr0, zzr1, true_and, and_true, and_self, or_false, false_or, or_true, true_or, not_true_eq_false, not_false_eq_true, zl0, zl1, zl2, zl3, zl4, zl5, zl6, zl7, zl8, zl9, zl10, zl11, zl12, zl20, zl24, zl31, zl36, zl40, zl42, zl44, zl48, zl49, zl50, zl55, zl57, zl60, zl97, zl99, zl100, zl102, zl104, zl109, zl113, zl114, zl119, zl126, zl255, zl400, zl1000, zl101, zl103, zl1001, zl1002, zl16, zl18, zl32, zl35, zl443, n_leT, n_leF, n_ltT, n_ltF, n_eqT, n_eqF, n_swT, n_swF, nI_add, n_sub, pk_mul, zd_n]
theorem qIn_N {c a b : Nat} (hc : c < 2147483648) (ha : a < 2147483648) (hb : b < 2147483648) : qIn (nI c) (nI a) (nI b) = if a ≤ c ∧ c ≤ b then nI 1 else nI 0 := by
  unfold qIn
  by_cases h1 : c < a
  · rw [if_pos (nI_lt h1 ha), if_neg (by omega)]
  · rw [if_neg (nI_nlt (by omega) hc)]
    by_cases h2 : b < c
    · rw [if_pos (nI_lt h2 hc), if_neg (by omega)]
    · rw [if_neg (nI_nlt (by omega) hb), if_pos (by omega)]
theorem eM_digit (n : Nat) (h : zH) {c : Nat} (hc : c ≤ 126) : F_X11_isDigit n h (nI c) = some (if 48 ≤ c ∧ c ≤ 57 then nI 1 else nI 0, h) := by
  unfold F_X11_isDigit
  have e : qIn (nI c) (nI 48) (nI 57) = if 48 ≤ c ∧ c ≤ 57 then nI 1 else nI 0 := qIn_N (by omega) (by omega) (by omega)
  rw [← e]
  simp (disch := omega) only [eM_in, zc_some, zl0, zl1, zl2, zl3, zl4, zl5, zl6, zl7, zl8, zl9, zl10, zl11, zl12, zl20, zl24, zl31, zl36, zl40, zl42, zl44, zl48, zl49, zl50, zl55, zl57, zl60, zl97, zl99, zl100, zl102, zl104, zl109, zl113, zl114, zl119, zl126, zl255, zl400, zl1000, zl101, zl103, zl1001, zl1002, zl16, zl18, zl32, zl35, zl443, n_leT, n_leF, n_ltT, n_ltF, n_eqT, n_eqF, n_swT, n_swF, nI_add, n_sub, pk_mul, zd_n, zzr_In]
