theorem zforK2 {σ τ β : Type} {body : (τ → Option β) → (σ → Option β) → σ → Option β} (I : Nat → σ → Prop) (N : Nat) {J : τ → Prop} (hs : ∀ i x, i < N → I i x → ∃ y, I (i + 1) y ∧ ∀ k kc, body k kc x = kc y) (he : ∀ x, I N x → ∃ y, J y ∧ ∀ k kc, body k kc x = k y) {n : Nat} (hn : N < n) {x : σ} (h0 : I 0 x) : ∃ y, J y ∧ ∀ k, zloop (body k) n x = k y := by
  have key : ∀ m i n x, i + m = N → m < n → I i x → ∃ y, J y ∧ ∀ k, zloop (body k) n x = k y := by
    intro m
    induction m with
    | zero =>
      intro i n x h1 h2 h3
      cases n with
      | zero => omega
      | succ n =>
        have : i = N := by omega
        subst this
        obtain ⟨y, hy, e⟩ := he x h3
        exact ⟨y, hy, fun k => e k _⟩
    | succ m ih =>
      intro i n x h1 h2 h3
      cases n with
      | zero => omega
      | succ n =>
        obtain ⟨y, hy, e⟩ := hs i x (by omega) h3
        obtain ⟨z, hz, e2⟩ := ih (i + 1) n y (by omega) (by omega) hy
        exact ⟨z, hz, fun k => (e k _).trans (e2 k)⟩
  exact key N 0 n x (by omega) hn h0
theorem gW_cg {F f : Nat → Nat → Int32} (h : mA F f) : gW F = gW f := by
  funext r k
  exact h 87 _ (by omega) (by omega)
theorem eM_mixCup (n : Nat) {S : zH} {f F : Nat → Nat → Int32} {R H : Nat} {v : Int64} (hn : 513 < n) (hM : zMo S) (hF : mA F f) (hR0 : f 86 0 = nI R) (hH0 : f 86 1 = nI H) (hR : 1 ≤ R) (hR6 : R ≤ 6) (hH2 : 2 ≤ H) (hH4 : H ≤ 4) :
    ∃ F', F_X11_mixCup n (zwi (zpl S 85 50 v) F) 85 = some ((), zwi (zpl S 85 50 (dCup f R H v)) F') ∧ mA F' f := by
  have s67 := mo_s85 hM
  have r0 := mo_r0 hM
  have s68 := mo_s86 hM
  have r3 := mo_r3 hM
  have s69 := mo_s87 hM
  have r15 := mo_r15 hM
  have s79 := mo_s97 hM
  have e68 := mA_r hF (a := 86) (by omega) (by omega)
  have e69 := mA_r hF (a := 87) (by omega) (by omega)
  have e79 := mA_r hF (a := 97) (by omega) (by omega)
  have em := fun v x => eM_mix n (S := S) (F := F) (v := v) (x := x) s67
  obtain ⟨F1, hF1⟩ : ∃ F1, F1 = zmd F (gW F) (fun l => F 96 l) := ⟨_, rfl⟩
  have f1 : mA F1 f := fun a j q1 q2 => by rw [hF1, zmd_o ⟨q1, q2⟩]; exact hF a j q1 q2
  have em1 := fun v x => eM_mix n (S := S) (F := F1) (v := v) (x := x) s67
  have g68 := mA_r f1 (a := 86) (by omega) (by omega)
  have g79 := mA_r f1 (a := 97) (by omega) (by omega)
  have el : ∀ v, F_X11_loadLive n (zwi (zpl S 85 50 v) F) 85 = some ((), zwi (zpl S 85 50 v) F1) := fun v => by
    have e4 := eM_live n (f := F) (w := fun r k => F 88 (4 * r + k)) (y := fun l => F 96 l) hn (T_M hM v)
    rw [zmd_self] at e4
    rw [hF1]
    exact e4
  have l4 : ∀ h, F_X11_mixCup_L110 n (zwi (zpl S 85 50 h) F1) 85 (nI 0) = some ((), zwi (zpl S 85 50 (mF (f 97) h R)) F1) := fun h => by
    unfold F_X11_mixCup_L110
    refine zfor0 (fun i => (zwi (zpl S 85 50 (mF (f 97) h i)) F1, nI i)) R rfl (fun kc i hi => ?_) (fun kc => ?_) (by omega)
    · simp (disch := omega) only [F_X11_mixCup_B110, zv, e_gi, e_gr, e_gl, e_si, e_sb, e_ai, e_ar, e_ti, e_ty, e_tz, e_cv, zc_some, zmo_some, zin_T, ↓reduceIte, zit_succ, zzr0, zzr1, true_and, and_true, and_self, or_false, false_or, or_true, true_or, not_true_eq_false, not_false_eq_true, zl0, zl1, zl2, zl3, zl4, zl5, zl6, zl7, zl8, zl9, zl10, zl11, zl12, zl20, zl24, zl31, zl36, zl40, zl42, zl44, zl48, zl49, zl50, zl55, zl57, zl60, zl97, zl99, zl100, zl102, zl104, zl109, zl113, zl114, zl119, zl126, zl255, zl400, zl1000, zl101, zl103, zl1001, zl1002, zl16, zl18, zl32, zl35, zl443, n_leT, n_leF, n_ltT, n_ltF, n_eqT, n_eqF, n_swT, n_swF, nI_add, n_sub, pk_mul, zd_n, T_sh, T_r, s67, r0, s68, r15, s79, g68, g79, hR0, em1, mF_s]
    · simp (disch := omega) only [F_X11_mixCup_B110, zv, e_gi, e_gr, e_gl, e_si, e_sb, e_ai, e_ar, e_ti, e_ty, e_tz, e_cv, zc_some, zmo_some, zin_T, ↓reduceIte, zit_succ, zzr0, zzr1, true_and, and_true, and_self, or_false, false_or, or_true, true_or, not_true_eq_false, not_false_eq_true, zl0, zl1, zl2, zl3, zl4, zl5, zl6, zl7, zl8, zl9, zl10, zl11, zl12, zl20, zl24, zl31, zl36, zl40, zl42, zl44, zl48, zl49, zl50, zl55, zl57, zl60, zl97, zl99, zl100, zl102, zl104, zl109, zl113, zl114, zl119, zl126, zl255, zl400, zl1000, zl101, zl103, zl1001, zl1002, zl16, zl18, zl32, zl35, zl443, n_leT, n_leF, n_ltT, n_ltF, n_eqT, n_eqF, n_swT, n_swF, nI_add, n_sub, pk_mul, zd_n, T_sh, T_r, s67, r0, s68, g68, hR0]
  have l3 : ∀ h, F_X11_mixCup_L82 n (zwi (zpl S 85 50 h) F1) 85 (nI 0) = some ((), zwi (zpl S 85 50 (mF (f 97) (mF (fun r => qSecond H r (gW f)) h R) R)) F1) := fun h => by
    unfold F_X11_mixCup_L82
    refine zfor0 (fun i => (zwi (zpl S 85 50 (mF (fun r => qSecond H r (gW f)) h i)) F1, nI i)) R rfl (fun kc i hi => ?_) (fun kc => ?_) (by omega)
    · have e5 := eM_second n (S := zpl S 85 50 (mF (fun r => qSecond H r (gW f)) h i)) (f := F) (w := gW F) (y := fun l => F 96 l) (r := i) hn (T_M hM _) (by rw [e68]; exact hH0) hH4 hH2 (by omega)
      rw [← hF1, gW_cg hF] at e5
      simp (disch := omega) only [F_X11_mixCup_B82, zv, e_gi, e_gr, e_gl, e_si, e_sb, e_ai, e_ar, e_ti, e_ty, e_tz, e_cv, zc_some, zmo_some, zin_T, ↓reduceIte, zit_succ, zzr0, zzr1, true_and, and_true, and_self, or_false, false_or, or_true, true_or, not_true_eq_false, not_false_eq_true, zl0, zl1, zl2, zl3, zl4, zl5, zl6, zl7, zl8, zl9, zl10, zl11, zl12, zl20, zl24, zl31, zl36, zl40, zl42, zl44, zl48, zl49, zl50, zl55, zl57, zl60, zl97, zl99, zl100, zl102, zl104, zl109, zl113, zl114, zl119, zl126, zl255, zl400, zl1000, zl101, zl103, zl1001, zl1002, zl16, zl18, zl32, zl35, zl443, n_leT, n_leF, n_ltT, n_ltF, n_eqT, n_eqF, n_swT, n_swF, nI_add, n_sub, pk_mul, zd_n, T_sh, T_r, s67, r0, s68, g68, hR0, e5, em1, mF_s]
    · simp (disch := omega) only [F_X11_mixCup_B82, zv, e_gi, e_gr, e_gl, e_si, e_sb, e_ai, e_ar, e_ti, e_ty, e_tz, e_cv, zc_some, zmo_some, zin_T, ↓reduceIte, zit_succ, zzr0, zzr1, true_and, and_true, and_self, or_false, false_or, or_true, true_or, not_true_eq_false, not_false_eq_true, zl0, zl1, zl2, zl3, zl4, zl5, zl6, zl7, zl8, zl9, zl10, zl11, zl12, zl20, zl24, zl31, zl36, zl40, zl42, zl44, zl48, zl49, zl50, zl55, zl57, zl60, zl97, zl99, zl100, zl102, zl104, zl109, zl113, zl114, zl119, zl126, zl255, zl400, zl1000, zl101, zl103, zl1001, zl1002, zl16, zl18, zl32, zl35, zl443, n_leT, n_leF, n_ltT, n_ltF, n_eqT, n_eqF, n_swT, n_swF, nI_add, n_sub, pk_mul, zd_n, T_sh, T_r, s67, r0, s68, g68, hR0, l4]
  have l2 : ∀ h, F_X11_mixCup_L27 n (zwi (zpl S 85 50 h) F) 85 (nI 0) = some ((), zwi (zpl S 85 50 (mF (f 97) (mF (fun r => qSecond H r (gW f)) (dRd f H h R) R) R)) F1) := fun h => by
    unfold F_X11_mixCup_L27
    refine zfor0 (fun i => (zwi (zpl S 85 50 (dRd f H h i)) F, nI i)) R rfl (fun kc i hi => ?_) (fun kc => ?_) (by omega)
    · simp (disch := omega) only [F_X11_mixCup_B27, zv, e_gi, e_gr, e_gl, e_si, e_sb, e_ai, e_ar, e_ti, e_ty, e_tz, e_cv, zc_some, zmo_some, zin_T, ↓reduceIte, zit_succ, zzr0, zzr1, true_and, and_true, and_self, or_false, false_or, or_true, true_or, not_true_eq_false, not_false_eq_true, zl0, zl1, zl2, zl3, zl4, zl5, zl6, zl7, zl8, zl9, zl10, zl11, zl12, zl20, zl24, zl31, zl36, zl40, zl42, zl44, zl48, zl49, zl50, zl55, zl57, zl60, zl97, zl99, zl100, zl102, zl104, zl109, zl113, zl114, zl119, zl126, zl255, zl400, zl1000, zl101, zl103, zl1001, zl1002, zl16, zl18, zl32, zl35, zl443, n_leT, n_leF, n_ltT, n_ltF, n_eqT, n_eqF, n_swT, n_swF, nI_add, n_sub, pk_mul, zd_n, T_sh, T_r, s67, r0, s68, e68, hR0]
      unfold F_X11_mixCup_L39
      rw [dRd_s]
      refine zfor0 (fun j => (zwi (zpl S 85 50 (mF (fun k => f 87 (4 * i + k)) (dRd f H h i) j)) F, nI j)) H rfl (fun kd j hj => ?_) (fun kd => ?_) (by omega)
      · simp (disch := omega) only [F_X11_mixCup_B39, zv, e_gi, e_gr, e_gl, e_si, e_sb, e_ai, e_ar, e_ti, e_ty, e_tz, e_cv, zc_some, zmo_some, zin_T, ↓reduceIte, zit_succ, zzr0, zzr1, true_and, and_true, and_self, or_false, false_or, or_true, true_or, not_true_eq_false, not_false_eq_true, zl0, zl1, zl2, zl3, zl4, zl5, zl6, zl7, zl8, zl9, zl10, zl11, zl12, zl20, zl24, zl31, zl36, zl40, zl42, zl44, zl48, zl49, zl50, zl55, zl57, zl60, zl97, zl99, zl100, zl102, zl104, zl109, zl113, zl114, zl119, zl126, zl255, zl400, zl1000, zl101, zl103, zl1001, zl1002, zl16, zl18, zl32, zl35, zl443, n_leT, n_leF, n_ltT, n_ltF, n_eqT, n_eqF, n_swT, n_swF, nI_add, n_sub, pk_mul, zd_n, T_sh, T_r, s67, r0, s68, e68, hH0, r3, s69, e69, em, mF_s]
      · simp (disch := omega) only [F_X11_mixCup_B39, zv, e_gi, e_gr, e_gl, e_si, e_sb, e_ai, e_ar, e_ti, e_ty, e_tz, e_cv, zc_some, zmo_some, zin_T, ↓reduceIte, zit_succ, zzr0, zzr1, true_and, and_true, and_self, or_false, false_or, or_true, true_or, not_true_eq_false, not_false_eq_true, zl0, zl1, zl2, zl3, zl4, zl5, zl6, zl7, zl8, zl9, zl10, zl11, zl12, zl20, zl24, zl31, zl36, zl40, zl42, zl44, zl48, zl49, zl50, zl55, zl57, zl60, zl97, zl99, zl100, zl102, zl104, zl109, zl113, zl114, zl119, zl126, zl255, zl400, zl1000, zl101, zl103, zl1001, zl1002, zl16, zl18, zl32, zl35, zl443, n_leT, n_leF, n_ltT, n_ltF, n_eqT, n_eqF, n_swT, n_swF, nI_add, n_sub, pk_mul, zd_n, T_sh, T_r, s67, r0, s68, e68, hH0]
    · simp (disch := omega) only [F_X11_mixCup_B27, zv, e_gi, e_gr, e_gl, e_si, e_sb, e_ai, e_ar, e_ti, e_ty, e_tz, e_cv, zc_some, zmo_some, zin_T, ↓reduceIte, zit_succ, zzr0, zzr1, true_and, and_true, and_self, or_false, false_or, or_true, true_or, not_true_eq_false, not_false_eq_true, zl0, zl1, zl2, zl3, zl4, zl5, zl6, zl7, zl8, zl9, zl10, zl11, zl12, zl20, zl24, zl31, zl36, zl40, zl42, zl44, zl48, zl49, zl50, zl55, zl57, zl60, zl97, zl99, zl100, zl102, zl104, zl109, zl113, zl114, zl119, zl126, zl255, zl400, zl1000, zl101, zl103, zl1001, zl1002, zl16, zl18, zl32, zl35, zl443, n_leT, n_leF, n_ltT, n_ltF, n_eqT, n_eqF, n_swT, n_swF, nI_add, n_sub, pk_mul, zd_n, T_sh, T_r, s67, r0, s68, e68, hR0, el, l3]
  refine ⟨F1, ?_, f1⟩
  unfold F_X11_mixCup F_X11_mixCup_L2 dCup
  refine zfor0 (fun i => (zwi (zpl S 85 50 (mF (f 86) v i)) F, nI i)) 6 rfl (fun kc i hi => ?_) (fun kc => ?_) (by omega)
  · simp (disch := omega) only [F_X11_mixCup_B2, zv, e_gi, e_gr, e_gl, e_si, e_sb, e_ai, e_ar, e_ti, e_ty, e_tz, e_cv, zc_some, zmo_some, zin_T, ↓reduceIte, zit_succ, zzr0, zzr1, true_and, and_true, and_self, or_false, false_or, or_true, true_or, not_true_eq_false, not_false_eq_true, zl0, zl1, zl2, zl3, zl4, zl5, zl6, zl7, zl8, zl9, zl10, zl11, zl12, zl20, zl24, zl31, zl36, zl40, zl42, zl44, zl48, zl49, zl50, zl55, zl57, zl60, zl97, zl99, zl100, zl102, zl104, zl109, zl113, zl114, zl119, zl126, zl255, zl400, zl1000, zl101, zl103, zl1001, zl1002, zl16, zl18, zl32, zl35, zl443, n_leT, n_leF, n_ltT, n_ltF, n_eqT, n_eqF, n_swT, n_swF, nI_add, n_sub, pk_mul, zd_n, T_sh, T_r, s67, r0, s68, e68, em, mF_s]
  · simp (disch := omega) only [F_X11_mixCup_B2, zv, e_gi, e_gr, e_gl, e_si, e_sb, e_ai, e_ar, e_ti, e_ty, e_tz, e_cv, zc_some, zmo_some, zin_T, ↓reduceIte, zit_succ, zzr0, zzr1, true_and, and_true, and_self, or_false, false_or, or_true, true_or, not_true_eq_false, not_false_eq_true, zl0, zl1, zl2, zl3, zl4, zl5, zl6, zl7, zl8, zl9, zl10, zl11, zl12, zl20, zl24, zl31, zl36, zl40, zl42, zl44, zl48, zl49, zl50, zl55, zl57, zl60, zl97, zl99, zl100, zl102, zl104, zl109, zl113, zl114, zl119, zl126, zl255, zl400, zl1000, zl101, zl103, zl1001, zl1002, zl16, zl18, zl32, zl35, zl443, n_leT, n_leF, n_ltT, n_ltF, n_eqT, n_eqF, n_swT, n_swF, nI_add, n_sub, pk_mul, zd_n, l2]
theorem tM2 (n : Nat) {S : zH} {f : Nat → Nat → Int32} {g c c' r r' tr pl nd R H cu nl nr np pt fi k : Nat} {da ra : Nat → Nat} (hn : 513 < n) (hI : zI S f g c c' r r' tr pl nd da R H cu nl nr ra np pt fi) (hR : 1 ≤ R) (hk : k < nr) {F : Nat → Nat → Int32} (hF : mA F f) (v : Int64) :
    ∃ F', F_X11_layRow n (zwi (zpl S 85 50 v) F) 85 (nI k) = some ((), zwi (zpl S 85 50 v) F') ∧ mA F' f ∧ ∀ l, l < nl → F' 96 l = qE f R H nd k l := by
  have hI2 := zI_scr (zI_T hI v) rfl rfl rfl (fun a j q => hF a j (by unfold zScr at q; omega) (by unfold zScr at q; omega))
  obtain ⟨hS, hpg, hdo, hcu, hg, hlv, hbr, hwa, hrw, hpi, hrv, hfi, him⟩ := hI2
  obtain ⟨-, -, -, -, it, i1, i2, i3, -⟩ := hI.2.2.2.2.2.2.2.2.1.2.2.2 k hk
  obtain ⟨F', e1, e2, e3⟩ := eM_layRow n (k := k) (it := it) hn (cl_M hS) hcu hR hdo hrw hlv.2.2.2.1 hlv.1 (fun l hl => (hlv.2.2.2.2 l hl).2.2.2.1) hk ((hF 98 k (by omega) (by omega)).trans i3) i1
  have hq := q_cg (f := f) (f' := F) (fun a q => by funext j; exact hF a j (by omega) (by omega)) R H nd k it
  refine ⟨F', e1, fun a j q1 q2 => (e2 a j q1 q2).trans (hF a j q1 q2), fun l hl => ?_⟩
  rw [e3 l hl, (hq _ _ _).1, hF _ _ (by omega) (by omega), hF _ _ (by omega) (by omega), hF _ _ (by omega) (by omega)]
  unfold qE
  rw [i3, n_clamp (by omega)]
theorem eM_mixRow (n : Nat) {S : zH} {f : Nat → Nat → Int32} {g c c' r r' tr pl nd R H cu nl nr np pt fi k : Nat} {da ra : Nat → Nat} (hn : 513 < n) (hI : zI S f g c c' r r' tr pl nd da R H cu nl nr ra np pt fi) (hk : k < nr) {F : Nat → Nat → Int32} (hF : mA F f) (v : Int64) :
    ∃ F', F_X11_mixRow n (zwi (zpl S 85 50 v) F) 85 (nI k) = some ((), zwi (zpl S 85 50 (dRow f R H nd nl k v)) F') ∧ mA F' f := by
  have hI' := hI
  obtain ⟨hS, hpg, hdo, hcu, hg, hlv, hbr, hwa, hrw, hpi, hrv, hfi, him⟩ := hI
  have hM := cl_M hS
  have s67 := mo_s85 hM
  have r17 := mo_r17 hM
  have s80 := mo_s98 hM
  have r18 := mo_r18 hM
  have s81 := mo_s99 hM
  have r19 := mo_r19 hM
  have s82 := mo_s100 hM
  have r14 := mo_r14 hM
  have s78 := mo_s96 hM
  have w1 := hrw.1
  obtain ⟨k1, k2, k3, k4, it, q1, q2, q3, q4⟩ := hrw.2.2.2 k hk
  have fe : (f 98 k).toNatClampNeg = it := by rw [q3, n_clamp (by omega)]
  have e80 := mA_r hF (a := 98) (by omega) (by omega)
  have e81 := mA_r hF (a := 99) (by omega) (by omega)
  have e82 := mA_r hF (a := 100) (by omega) (by omega)
  have em := fun v x => eM_mix n (S := S) (F := F) (v := v) (x := x) s67
  have l1 := hlv.1
  have l2 := hlv.2.1
  have hRH := hcu.2.2.2.1
  have fin : ∀ h, ∃ F', (∀ kd, F_X11_mixRow_B13 n kd (zwi (zpl S 85 50 h) F) 85 (nI k) (nI it) = some ((), zwi (zpl S 85 50 (mF (qE f R H nd k) h nl)) F')) ∧ mA F' f := fun h => by
    have hle : nI it ≤ nI it := nI_le (Nat.le_refl _) (by omega)
    rcases hRH with ⟨hR0, -, z1⟩ | ⟨hR2, -, -, -, z1⟩
    · have hn0 : nl = 0 := l2 hR0
      subst hn0
      have z1' : F 85 1 = nI 0 := (hF 85 1 (by omega) (by omega)).trans z1
      refine ⟨F, fun kd => ?_, hF⟩
      unfold F_X11_mixRow_B13
      rw [e_gr, T_sh, if_pos s67, T_r, r17, zmo_some, e_ai _ _ _ _ _ _ (by omega), T_sh, s80, zin_T (show k < 6 by omega), if_pos rfl, e80, q3, if_pos hle, e_gi, T_sh, if_pos s67, z1', if_pos (show nI 0 = (0 : Int32) from rfl)]
      rfl
    · have z1' : F 85 1 = nI 1 := (hF 85 1 (by omega) (by omega)).trans z1
      obtain ⟨F', t1, t2, t3⟩ := tM2 n hn hI' (by omega) hk hF h
      have em' := fun v x => eM_mix n (S := S) (F := F') (v := v) (x := x) s67
      have e8 : F' 85 8 = nI nl := (t2 85 8 (by omega) (by omega)).trans hlv.2.2.2.1
      refine ⟨F', fun kd => ?_, t2⟩
      unfold F_X11_mixRow_B13
      rw [e_gr, T_sh, if_pos s67, T_r, r17, zmo_some, e_ai _ _ _ _ _ _ (by omega), T_sh, s80, zin_T (show k < 6 by omega), if_pos rfl, e80, q3, if_pos hle, e_gi, T_sh, if_pos s67, z1', if_neg (show ¬ nI 1 = (0 : Int32) by decide), e_cv, T_sh, if_pos s67, t1, zc_some]
      unfold F_X11_mixRow_L75
      refine zfor0 (fun i => (zwi (zpl S 85 50 (mF (qE f R H nd k) h i)) F', nI i)) nl rfl (fun kc i hi => ?_) (fun kc => ?_) (by omega)
      · have t3' := t3 i hi
        simp (disch := omega) only [F_X11_mixRow_B75, zv, e_gi, e_gr, e_gl, e_si, e_sb, e_ai, e_ar, e_ti, e_ty, e_tz, e_cv, zc_some, zmo_some, zin_T, ↓reduceIte, zit_succ, zzr0, zzr1, true_and, and_true, and_self, or_false, false_or, or_true, true_or, not_true_eq_false, not_false_eq_true, zl0, zl1, zl2, zl3, zl4, zl5, zl6, zl7, zl8, zl9, zl10, zl11, zl12, zl20, zl24, zl31, zl36, zl40, zl42, zl44, zl48, zl49, zl50, zl55, zl57, zl60, zl97, zl99, zl100, zl102, zl104, zl109, zl113, zl114, zl119, zl126, zl255, zl400, zl1000, zl101, zl103, zl1001, zl1002, zl16, zl18, zl32, zl35, zl443, n_leT, n_leF, n_ltT, n_ltF, n_eqT, n_eqF, n_swT, n_swF, nI_add, n_sub, pk_mul, zd_n, T_sh, T_r, s67, e8, r14, s78, t3', em', mF_s]
      · simp (disch := omega) only [F_X11_mixRow_B75, F_X11_mixRow_J100, zv, e_gi, e_gr, e_gl, e_si, e_sb, e_ai, e_ar, e_ti, e_ty, e_tz, e_cv, zc_some, zmo_some, zin_T, ↓reduceIte, zit_succ, zzr0, zzr1, true_and, and_true, and_self, or_false, false_or, or_true, true_or, not_true_eq_false, not_false_eq_true, zl0, zl1, zl2, zl3, zl4, zl5, zl6, zl7, zl8, zl9, zl10, zl11, zl12, zl20, zl24, zl31, zl36, zl40, zl42, zl44, zl48, zl49, zl50, zl55, zl57, zl60, zl97, zl99, zl100, zl102, zl104, zl109, zl113, zl114, zl119, zl126, zl255, zl400, zl1000, zl101, zl103, zl1001, zl1002, zl16, zl18, zl32, zl35, zl443, n_leT, n_leF, n_ltT, n_ltF, n_eqT, n_eqF, n_swT, n_swF, nI_add, n_sub, pk_mul, zd_n, T_sh, s67, e8]
  obtain ⟨F', f1, f2⟩ := fin (mG (fun i => f 99 (6 * k + i)) (fun i => f 100 (6 * k + i)) (mx v (f 98 k)) it)
  refine ⟨F', ?_, f2⟩
  have hx : F_X11_mixRow n (zwi (zpl S 85 50 v) F) 85 (nI k) = F_X11_mixRow_L13 n (zwi (zpl S 85 50 (mx v (f 98 k))) F) 85 (nI k) (nI 0) := by
    simp (disch := omega) only [F_X11_mixRow, zv, e_gi, e_gr, e_gl, e_si, e_sb, e_ai, e_ar, e_ti, e_ty, e_tz, e_cv, zc_some, zmo_some, zin_T, ↓reduceIte, zit_succ, zzr0, zzr1, true_and, and_true, and_self, or_false, false_or, or_true, true_or, not_true_eq_false, not_false_eq_true, zl0, zl1, zl2, zl3, zl4, zl5, zl6, zl7, zl8, zl9, zl10, zl11, zl12, zl20, zl24, zl31, zl36, zl40, zl42, zl44, zl48, zl49, zl50, zl55, zl57, zl60, zl97, zl99, zl100, zl102, zl104, zl109, zl113, zl114, zl119, zl126, zl255, zl400, zl1000, zl101, zl103, zl1001, zl1002, zl16, zl18, zl32, zl35, zl443, n_leT, n_leF, n_ltT, n_ltF, n_eqT, n_eqF, n_swT, n_swF, nI_add, n_sub, pk_mul, zd_n, T_sh, T_r, s67, r17, s80, e80, em]
    rfl
  rw [hx]
  unfold dRow
  rw [fe]
  unfold F_X11_mixRow_L13
  refine zfor0 (fun i => (zwi (zpl S 85 50 (mG (fun i => f 99 (6 * k + i)) (fun i => f 100 (6 * k + i)) (mx v (f 98 k)) i)) F, nI i)) it rfl (fun kc i hi => ?_) (fun kc => f1 kc) (by omega)
  have hlt : ¬ nI it ≤ nI i := nI_ge hi (by omega)
  rw [mG_s]
  dsimp only
  unfold F_X11_mixRow_B13
  rw [e_gr, T_sh, if_pos s67, T_r, r17, zmo_some, e_ai _ _ _ _ _ _ (by omega), T_sh, s80, zin_T (show k < 6 by omega), if_pos rfl, e80, q3, if_neg hlt]
  simp (disch := omega) only [zv, e_gi, e_gr, e_gl, e_si, e_sb, e_ai, e_ar, e_ti, e_ty, e_tz, e_cv, zc_some, zmo_some, zin_T, ↓reduceIte, zit_succ, zzr0, zzr1, true_and, and_true, and_self, or_false, false_or, or_true, true_or, not_true_eq_false, not_false_eq_true, zl0, zl1, zl2, zl3, zl4, zl5, zl6, zl7, zl8, zl9, zl10, zl11, zl12, zl20, zl24, zl31, zl36, zl40, zl42, zl44, zl48, zl49, zl50, zl55, zl57, zl60, zl97, zl99, zl100, zl102, zl104, zl109, zl113, zl114, zl119, zl126, zl255, zl400, zl1000, zl101, zl103, zl1001, zl1002, zl16, zl18, zl32, zl35, zl443, n_leT, n_leF, n_ltT, n_ltF, n_eqT, n_eqF, n_swT, n_swF, nI_add, n_sub, pk_mul, zd_n, T_sh, T_r, s67, r18, s81, r19, s82, e81, e82, em]
theorem eM_rowsL (n : Nat) {S : zH} {f : Nat → Nat → Int32} {g c c' r r' tr pl nd R H cu nl nr np pt fi : Nat} {da ra : Nat → Nat} (hn : 513 < n) (hI : zI S f g c c' r r' tr pl nd da R H cu nl nr ra np pt fi) {F : Nat → Nat → Int32} (hF : mA F f) (h : Int64) :
    ∃ F' D, D = mF (dCn R nd nl nr np pt pl cu fi) (mF (f 105) (mG (f 103) (f 104) (mG (f 101) (f 102) (dRw f R H nd nl h nr) np) pt) pl) 9 ∧ F_X11_digest_L99 n (zwi (zpl S 85 50 h) F) 85 (nI 0) = some (D, zwi (zpl S 85 50 D) F') ∧ mA F' f := by
  have hI' := hI
  obtain ⟨hS, hpg, hdo, hcu, hg, hlv, hbr, hwa, hrw, hpi, hrv, hfi, him⟩ := hI
  have hM := cl_M hS
  have s67 := mo_s85 hM
  have w1 := hrw.1
  have w3 := hrw.2.2.1
  obtain ⟨D, hD⟩ : ∃ D, D = mF (dCn R nd nl nr np pt pl cu fi) (mF (f 105) (mG (f 103) (f 104) (mG (f 101) (f 102) (dRw f R H nd nl h nr) np) pt) pl) 9 := ⟨_, rfl⟩
  unfold F_X11_digest_L99
  have key9 := zforE (body := fun kc x => F_X11_digest_B99 n kc x.1 85 x.2) (fun i x => ∃ F', x = (zwi (zpl S 85 50 (dRw f R H nd nl h i)) F', nI i) ∧ mA F' f) nr (Q := fun x => ∃ F', x = some (D, zwi (zpl S 85 50 D) F') ∧ mA F' f) (fun k x hk hx => ?_) (fun x hx => ?_) (n := n) (by omega) (x := (zwi (zpl S 85 50 h) F, nI 0)) ⟨F, rfl, hF⟩
  · obtain ⟨x, ⟨F', e1, e3⟩, e2⟩ := key9
    exact ⟨F', D, hD, by rw [e2, e1], e3⟩
  · obtain ⟨F', rfl, hF'⟩ := hx
    obtain ⟨F2, t1, t2⟩ := eM_mixRow n hn hI' hk hF' (dRw f R H nd nl h k)
    have y := (hF' 85 16 (by omega) (by omega)).trans w3
    refine ⟨_, ⟨F2, rfl, t2⟩, fun kc => ?_⟩
    rw [dRw_s]
    simp (disch := omega) only [F_X11_digest_B99, zv, e_gi, e_gr, e_gl, e_si, e_sb, e_ai, e_ar, e_ti, e_ty, e_tz, e_cv, zc_some, zmo_some, zin_T, ↓reduceIte, zit_succ, zzr0, zzr1, true_and, and_true, and_self, or_false, false_or, or_true, true_or, not_true_eq_false, not_false_eq_true, zl0, zl1, zl2, zl3, zl4, zl5, zl6, zl7, zl8, zl9, zl10, zl11, zl12, zl20, zl24, zl31, zl36, zl40, zl42, zl44, zl48, zl49, zl50, zl55, zl57, zl60, zl97, zl99, zl100, zl102, zl104, zl109, zl113, zl114, zl119, zl126, zl255, zl400, zl1000, zl101, zl103, zl1001, zl1002, zl16, zl18, zl32, zl35, zl443, n_leT, n_leF, n_ltT, n_ltF, n_eqT, n_eqF, n_swT, n_swF, nI_add, n_sub, pk_mul, zd_n, T_sh, s67, y, t1]
  · obtain ⟨F', rfl, hF'⟩ := hx
    have y := (hF' 85 16 (by omega) (by omega)).trans w3
    have et := eM_tail n hn hI' hF' (dRw f R H nd nl h nr)
    rw [← hD] at et
    refine ⟨_, ⟨F', rfl, hF'⟩, fun kc => ?_⟩
    simp (disch := omega) only [F_X11_digest_B99, zv, e_gi, e_gr, e_gl, e_si, e_sb, e_ai, e_ar, e_ti, e_ty, e_tz, e_cv, zc_some, zmo_some, zin_T, ↓reduceIte, zit_succ, zzr0, zzr1, true_and, and_true, and_self, or_false, false_or, or_true, true_or, not_true_eq_false, not_false_eq_true, zl0, zl1, zl2, zl3, zl4, zl5, zl6, zl7, zl8, zl9, zl10, zl11, zl12, zl20, zl24, zl31, zl36, zl40, zl42, zl44, zl48, zl49, zl50, zl55, zl57, zl60, zl97, zl99, zl100, zl102, zl104, zl109, zl113, zl114, zl119, zl126, zl255, zl400, zl1000, zl101, zl103, zl1001, zl1002, zl16, zl18, zl32, zl35, zl443, n_leT, n_leF, n_ltT, n_ltF, n_eqT, n_eqF, n_swT, n_swF, nI_add, n_sub, pk_mul, zd_n, T_sh, s67, y, et]
theorem eM_leavesL (n : Nat) {S : zH} {f : Nat → Nat → Int32} {g c c' r r' tr pl nd R H cu nl nr np pt fi : Nat} {da ra : Nat → Nat} (hn : 513 < n) (hI : zI S f g c c' r r' tr pl nd da R H cu nl nr ra np pt fi) {F : Nat → Nat → Int32} (hF : mA F f) (h : Int64) :
    ∃ F' D, D = mF (dCn R nd nl nr np pt pl cu fi) (mF (f 105) (mG (f 103) (f 104) (mG (f 101) (f 102) (dRw f R H nd nl (dLv f H h nl) nr) np) pt) pl) 9 ∧ F_X11_digest_L58 n (zwi (zpl S 85 50 h) F) 85 (nI 0) = some (D, zwi (zpl S 85 50 D) F') ∧ mA F' f := by
  have hI' := hI
  obtain ⟨hS, hpg, hdo, hcu, hg, hlv, hbr, hwa, hrw, hpi, hrv, hfi, him⟩ := hI
  have hM := cl_M hS
  have s67 := mo_s85 hM
  have l1 := hlv.1
  have l2 := hlv.2.1
  have l4 := hlv.2.2.2.1
  have hRH := hcu.2.2.2.1
  have hH0 := hcu.2.2.1
  obtain ⟨D, hD⟩ : ∃ D, D = mF (dCn R nd nl nr np pt pl cu fi) (mF (f 105) (mG (f 103) (f 104) (mG (f 101) (f 102) (dRw f R H nd nl (dLv f H h nl) nr) np) pt) pl) 9 := ⟨_, rfl⟩
  unfold F_X11_digest_L58
  have key9 := zforE (body := fun kc x => F_X11_digest_B58 n kc x.1 85 x.2) (fun i x => ∃ F', x = (zwi (zpl S 85 50 (dLv f H h i)) F', nI i) ∧ mA F' f) nl (Q := fun x => ∃ F', x = some (D, zwi (zpl S 85 50 D) F') ∧ mA F' f) (fun l x hl hx => ?_) (fun x hx => ?_) (n := n) (by omega) (x := (zwi (zpl S 85 50 h) F, nI 0)) ⟨F, rfl, hF⟩
  · obtain ⟨x, ⟨F', e1, e3⟩, e2⟩ := key9
    exact ⟨F', D, hD, by rw [e2, e1], e3⟩
  · obtain ⟨F', rfl, hF'⟩ := hx
    have y := (hF' 85 8 (by omega) (by omega)).trans l4
    have inn : ∃ y, (∃ F2, y = (zwi (zpl S 85 50 (dLv f H h (l + 1))) F2, nI (l + 1)) ∧ mA F2 f) ∧ ∀ kc, F_X11_digest_L68 n kc (zwi (zpl S 85 50 (dLv f H h l)) F') 85 (nI l) (nI 0) = kc y := by
      unfold F_X11_digest_L68
      rw [dLv_s]
      refine zforK2 (body := fun k kd x => F_X11_digest_B68 n k kd x.1 85 (nI l) x.2) (fun j x => ∃ F2, x = (zwi (zpl S 85 50 (mF (qAbout f H l) (dLv f H h l) j)) F2, nI j) ∧ mA F2 f) 6 (fun j x hj hx => ?_) (fun x hx => ?_) (by omega) ⟨F', rfl, hF'⟩
      · obtain ⟨F2, rfl, h2⟩ := hx
        have hlv2 : I_lv F2 R nl := I_lv_c (fun a k q => h2 a k (by omega) (by omega)) hlv
        have e3 := eM_leafTold n (S := zpl S 85 50 (mF (qAbout f H l) (dLv f H h l) j)) (f := F2) (w := fun r k => F2 88 (4 * r + k)) (y := fun l => F2 96 l) (H := H) (l := l) (a := j) hn (T_M hM _) (by omega) ((h2 86 1 (by omega) (by omega)).trans hH0) (by omega) (by omega) hlv2 hl (by omega)
        rw [zmd_self, qAbout_cg h2] at e3
        generalize hF3 : zmd F2 (if j = 4 then gW F2 else fun r k => F2 88 (4 * r + k)) (fun l => F2 96 l) = F3 at e3
        have h3 : mA F3 f := fun a k q1 q2 => by rw [← hF3, zmd_o ⟨q1, q2⟩]; exact h2 a k q1 q2
        have em := fun v x => eM_mix n (S := S) (F := F3) (v := v) (x := x) s67
        refine ⟨_, ⟨F3, rfl, h3⟩, fun k kd => ?_⟩
        simp (disch := omega) only [F_X11_digest_B68, zv, e_gi, e_gr, e_gl, e_si, e_sb, e_ai, e_ar, e_ti, e_ty, e_tz, e_cv, zc_some, zmo_some, zin_T, ↓reduceIte, zit_succ, zzr0, zzr1, true_and, and_true, and_self, or_false, false_or, or_true, true_or, not_true_eq_false, not_false_eq_true, zl0, zl1, zl2, zl3, zl4, zl5, zl6, zl7, zl8, zl9, zl10, zl11, zl12, zl20, zl24, zl31, zl36, zl40, zl42, zl44, zl48, zl49, zl50, zl55, zl57, zl60, zl97, zl99, zl100, zl102, zl104, zl109, zl113, zl114, zl119, zl126, zl255, zl400, zl1000, zl101, zl103, zl1001, zl1002, zl16, zl18, zl32, zl35, zl443, n_leT, n_leF, n_ltT, n_ltF, n_eqT, n_eqF, n_swT, n_swF, nI_add, n_sub, pk_mul, zd_n, T_sh, s67, e3, em, mF_s]
      · obtain ⟨F2, rfl, h2⟩ := hx
        refine ⟨_, ⟨F2, rfl, h2⟩, fun k kd => ?_⟩
        simp (disch := omega) only [F_X11_digest_B68, zv, e_gi, e_gr, e_gl, e_si, e_sb, e_ai, e_ar, e_ti, e_ty, e_tz, e_cv, zc_some, zmo_some, zin_T, ↓reduceIte, zit_succ, zzr0, zzr1, true_and, and_true, and_self, or_false, false_or, or_true, true_or, not_true_eq_false, not_false_eq_true, zl0, zl1, zl2, zl3, zl4, zl5, zl6, zl7, zl8, zl9, zl10, zl11, zl12, zl20, zl24, zl31, zl36, zl40, zl42, zl44, zl48, zl49, zl50, zl55, zl57, zl60, zl97, zl99, zl100, zl102, zl104, zl109, zl113, zl114, zl119, zl126, zl255, zl400, zl1000, zl101, zl103, zl1001, zl1002, zl16, zl18, zl32, zl35, zl443, n_leT, n_leF, n_ltT, n_ltF, n_eqT, n_eqF, n_swT, n_swF, nI_add, n_sub, pk_mul, zd_n]
    obtain ⟨x, ⟨F2, rfl, h2⟩, e⟩ := inn
    refine ⟨_, ⟨F2, rfl, h2⟩, fun kc => ?_⟩
    have hlt : ¬ nI nl ≤ nI l := nI_ge hl (by omega)
    dsimp only
    unfold F_X11_digest_B58
    rw [e_gi, T_sh, if_pos s67, y, if_neg hlt]
    exact e kc
  · obtain ⟨F', rfl, hF'⟩ := hx
    have y := (hF' 85 8 (by omega) (by omega)).trans l4
    obtain ⟨F2, D2, hD2, t1, t2⟩ := eM_rowsL n hn hI' hF' (dLv f H h nl)
    have e : D2 = D := hD2.trans hD.symm
    rw [e] at t1
    refine ⟨_, ⟨F2, rfl, t2⟩, fun kc => ?_⟩
    simp (disch := omega) only [F_X11_digest_B58, zv, e_gi, e_gr, e_gl, e_si, e_sb, e_ai, e_ar, e_ti, e_ty, e_tz, e_cv, zc_some, zmo_some, zin_T, ↓reduceIte, zit_succ, zzr0, zzr1, true_and, and_true, and_self, or_false, false_or, or_true, true_or, not_true_eq_false, not_false_eq_true, zl0, zl1, zl2, zl3, zl4, zl5, zl6, zl7, zl8, zl9, zl10, zl11, zl12, zl20, zl24, zl31, zl36, zl40, zl42, zl44, zl48, zl49, zl50, zl55, zl57, zl60, zl97, zl99, zl100, zl102, zl104, zl109, zl113, zl114, zl119, zl126, zl255, zl400, zl1000, zl101, zl103, zl1001, zl1002, zl16, zl18, zl32, zl35, zl443, n_leT, n_leF, n_ltT, n_ltF, n_eqT, n_eqF, n_swT, n_swF, nI_add, n_sub, pk_mul, zd_n, T_sh, s67, y, t1]
