theorem zforE {σ β : Type} {body : (σ → Option β) → σ → Option β} (I : Nat → σ → Prop) (N : Nat) {Q : Option β → Prop} (hs : ∀ i x, i < N → I i x → ∃ y, I (i + 1) y ∧ ∀ kc, body kc x = kc y) (he : ∀ x, I N x → ∃ r, Q r ∧ ∀ kc, body kc x = r) {n : Nat} (hn : N < n) {x : σ} (h0 : I 0 x) : ∃ r, Q r ∧ zloop body n x = r := by
  have key : ∀ m i n x, i + m = N → m < n → I i x → ∃ r, Q r ∧ zloop body n x = r := by
    intro m
    induction m with
    | zero =>
      intro i n x h1 h2 h3
      cases n with
      | zero => omega
      | succ n =>
        have : i = N := by omega
        subst this
        obtain ⟨r, hr, e⟩ := he x h3
        exact ⟨r, hr, e _⟩
    | succ m ih =>
      intro i n x h1 h2 h3
      cases n with
      | zero => omega
      | succ n =>
        obtain ⟨y, hy, e⟩ := hs i x (by omega) h3
        show ∃ r, Q r ∧ body (fun y => zloop body n y) x = r
        rw [e]
        exact ih (i + 1) n y (by omega) (by omega) hy
  exact key N 0 n x (by omega) hn h0
/-! ===== how a row goes ===== -/
def qTi (f : Nat → Nat → Int32) (R H nd j : Nat) : (Nat → Nat → Int32) → Nat → Nat → Int32 := qTick R H (f 86) (qKd f nd (f 99 j)) (qMd f nd (f 99 j))
def qRw (f : Nat → Nat → Int32) (R H nd k i : Nat) : Nat → Nat → Int32 := zit (fun i w => qW (qTi f R H nd (6 * k + i)) w (f 100 (6 * k + i)).toNatClampNeg) q0 i
def qRx (f : Nat → Nat → Int32) (R H nd k : Nat) (wt st x : Int32) (i : Nat) : Int32 := zit (fun i x => qX (qTi f R H nd (6 * k + i)) R H (qRw f R H nd k i) wt st x (f 100 (6 * k + i)).toNatClampNeg) x i
def qEw (f : Nat → Nat → Int32) (R H nd k it : Nat) : Nat → Nat → Int32 := qW (qTick R H (f 86) (nI 0) (nI 0)) (qRw f R H nd k it) 60
def qEx (f : Nat → Nat → Int32) (R H nd k it : Nat) (wt st x : Int32) : Int32 := qX (qTick R H (f 86) (nI 0) (nI 0)) R H (qRw f R H nd k it) wt st (qRx f R H nd k wt st x it) 60
theorem qRw_s (f : Nat → Nat → Int32) (R H nd k i : Nat) : qRw f R H nd k (i + 1) = qW (qTi f R H nd (6 * k + i)) (qRw f R H nd k i) (f 100 (6 * k + i)).toNatClampNeg := rfl
theorem qRx_s (f : Nat → Nat → Int32) (R H nd k : Nat) (wt st x : Int32) (i : Nat) : qRx f R H nd k wt st x (i + 1) = qX (qTi f R H nd (6 * k + i)) R H (qRw f R H nd k i) wt st (qRx f R H nd k wt st x i) (f 100 (6 * k + i)).toNatClampNeg := rfl
theorem qRx_in {f : Nat → Nat → Int32} {R H nd k m : Nat} {wt st : Int32} (hm : m < R) (hR : R ≤ 6) : ∀ i, ∃ m', m' < R ∧ qRx f R H nd k wt st (nI m) i = nI m'
  | 0 => ⟨m, hm, rfl⟩
  | i + 1 => by
    obtain ⟨m', h1, h2⟩ := qRx_in (f := f) (H := H) (nd := nd) (k := k) (wt := wt) (st := st) hm hR i
    rw [qRx_s, h2]
    exact qX_in h1 hR _
theorem qEx_in {f : Nat → Nat → Int32} {R H nd k it m : Nat} {wt st : Int32} (hm : m < R) (hR : R ≤ 6) : ∃ m', m' < R ∧ qEx f R H nd k it wt st (nI m) = nI m' := by
  obtain ⟨m', h1, h2⟩ := qRx_in (f := f) (H := H) (nd := nd) (k := k) (wt := wt) (st := st) hm hR it
  unfold qEx
  rw [h2]
  exact qX_in h1 hR 60
theorem q_cg {f f' : Nat → Nat → Int32} (h : ∀ a, a = 86 ∨ a = 89 ∨ a = 90 ∨ a = 99 ∨ a = 100 → f' a = f a) (R H nd k it : Nat) (wt st x : Int32) : qEx f' R H nd k it wt st x = qEx f R H nd k it wt st x ∧ qRw f' R H nd k it = qRw f R H nd k it ∧ ∀ p, qKd f' nd p = qKd f nd p ∧ qMd f' nd p = qMd f nd p := by
  unfold qEx qRx qRw qTi qKd qMd
  rw [h 86 (by omega), h 89 (by omega), h 90 (by omega), h 99 (by omega), h 100 (by omega)]
  exact ⟨rfl, rfl, fun _ => ⟨rfl, rfl⟩⟩
theorem qB_rw {S : zH} {f : Nat → Nat → Int32} {c R H cu nd k : Nat} {da : Nat → Nat} (hcu : I_cu f c R H cu) (hR : 1 ≤ R) (hdo : I_do S f nd da) : ∀ i, qB R H (qRw f R H nd k i)
  | 0 => qB_0
  | i + 1 => by
    rw [qRw_s]
    exact cu_W hcu hR (do_ok hdo _) (qB_rw hcu hR hdo i) _
/-- the class tries a row -/
theorem eC_tryRow (n : Nat) {S : zH} {f : Nat → Nat → Int32} {c c' r r' tr R H cu nd nr m v z k it : Nat} {da ra : Nat → Nat} (hn : 513 < n) (hS : zKl S c c' r r' tr) (hcu : I_cu f c R H cu) (hR : 1 ≤ R) (hdo : I_do S f nd da) (hrw : I_rw S f nr ra tr) (hV : zLvs S v z) (hv : v + 4 < 42) (hz : z ≤ 10) (hvm : f v 4 = nI m) (hm : m ≤ z) (hy : ∀ l, l < m → ∃ x, x < R ∧ f (v + 1) l = nI x) (hk : k < nr) (hit : f 98 k = nI it) (hit6 : it ≤ 6) :
    ∃ F, (F_X10_tryRow n (zwi S f) 0 (ra k) v = some ((), zwi S F) ∧ zr S 19 k = some (ra k)) ∧ (∀ a j, a < 44 ∨ 50 < a → F a j = f a j) ∧ ∀ l, l < m → F 50 l = qEx f R H nd k it (f (v + 2) l) (f (v + 3) l) (f (v + 1) l) := by
  have hM := cl_M hS
  have hR6 : R ≤ 6 ∧ 2 ≤ H ∧ H ≤ 4 := by
    obtain ⟨-, -, -, h, -⟩ := hcu
    omega
  obtain ⟨k1, k2, k3, k4, it', k5, k6, k7, k8⟩ := hrw.2.2.2 k hk
  have hnr := hrw.1
  have hitt : it' = it := n_inj (by omega) (by omega) (k7.symm.trans hit)
  subst hitt
  obtain ⟨w1, w2, w3, w4, w5⟩ := k2
  have e5 := eX0_calm n (f := f) (w := fun r k => f (42 + 2 + r) k) (y := fun l => f (42 + 8) l) hn (cl_t hS) hV hv hz hvm hm
  rw [zbr_self] at e5
  generalize hY0 : (fun l => if l < m then f (v + 1) l else (fun l => f (42 + 8) l) l) = Y0 at e5
  have hY0' : ∀ l, l < m → Y0 l = f (v + 1) l := fun l hl => by rw [← hY0]; exact if_pos hl
  have hYin : ∀ i l, l < m → ∃ x, x < R ∧ (fun l => if l < m then qRx f R H nd k (f (v + 2) l) (f (v + 3) l) (f (v + 1) l) i else Y0 l) l = nI x := fun i l hl => by
    obtain ⟨x, h1, h2⟩ := hy l hl
    dsimp only
    rw [if_pos hl, h2]
    exact qRx_in h1 hR6.1 i
  have hend : ∀ kc, F_X10_tryRow_B10 n kc (zwi S (zbr f 42 (qRw f R H nd k it') (fun l => if l < m then qRx f R H nd k (f (v + 2) l) (f (v + 3) l) (f (v + 1) l) it' else Y0 l))) 0 (ra k) v (nI it') = some ((), zwi S (zbr f 42 (qEw f R H nd k it') (fun l => if l < m then qEx f R H nd k it' (f (v + 2) l) (f (v + 3) l) (f (v + 1) l) else Y0 l))) := fun kc => by
    have e6 := eC_go n (f := f) (F := f) (w := qRw f R H nd k it') (y := fun l => if l < m then qRx f R H nd k (f (v + 2) l) (f (v + 3) l) (f (v + 1) l) it' else Y0 l) (N := 60) (p := nI 0) (dd := 3) hn hS hcu hR hdo (cl_t hS) (by omega) (by omega) hV (by omega) hz hm (fun _ _ => rfl) hvm ⟨cl_s3 hS, Or.inl rfl⟩ hdo.2.2.2.1 hdo.2.2.2.2.1 (fun q => absurd q (by decide)) (qB_rw hcu hR hdo it') (hYin it') (by omega)
    have hYe : (fun l => if l < m then qX (qTick R H (f 86) (nI 0) (nI 0)) R H (qRw f R H nd k it') (f (v + 2) l) (f (v + 3) l) ((fun l => if l < m then qRx f R H nd k (f (v + 2) l) (f (v + 3) l) (f (v + 1) l) it' else Y0 l) l) 60 else (fun l => if l < m then qRx f R H nd k (f (v + 2) l) (f (v + 3) l) (f (v + 1) l) it' else Y0 l) l) = fun l => if l < m then qEx f R H nd k it' (f (v + 2) l) (f (v + 3) l) (f (v + 1) l) else Y0 l := by
      funext l
      by_cases hl : l < m
      · simp only [if_pos hl]
        rfl
      · simp only [if_neg hl]
    rw [hYe] at e6
    simp (disch := omega) only [F_X10_tryRow_B10, zv, e_gi, e_gr, e_gl, e_si, e_sb, e_ai, e_ar, e_ti, e_ty, e_tz, e_cv, zc_some, zmo_some, zin_T, ↓reduceIte, zit_succ, zzr0, zzr1, true_and, and_true, and_self, or_false, false_or, or_true, true_or, not_true_eq_false, not_false_eq_true, zl0, zl1, zl2, zl3, zl4, zl5, zl6, zl7, zl8, zl9, zl10, zl11, zl12, zl20, zl24, zl31, zl36, zl40, zl42, zl44, zl48, zl49, zl50, zl55, zl57, zl60, zl97, zl99, zl100, zl102, zl104, zl109, zl113, zl114, zl119, zl126, zl255, zl400, zl1000, zl101, zl103, zl1001, zl1002, zl16, zl18, zl32, zl35, zl443, n_leT, n_leF, n_ltT, n_ltF, n_eqT, n_eqF, n_swT, n_swF, nI_add, n_sub, pk_mul, zd_n, cl_s0 hS, cl_r0_0 hS, cl_r0_1 hS, cl_r0_2 hS, cl_r0_9 hS, cl_r0_12 hS, cl_r0_13 hS, cl_r0_14 hS, cl_r0_15 hS, cl_r0_16 hS, cl_r0_17 hS, cl_r0_19 hS, cl_r1_0 hS, cl_r51_0 hS, cl_r51_1 hS, cl_r51_2 hS, cl_r64_0 hS, cl_r64_1 hS, cl_s1 hS, cl_s2 hS, cl_s3 hS, cl_s4 hS, cl_s19 hS, cl_s51 hS, cl_s61 hS, cl_s62 hS, cl_s63 hS, cl_s64 hS, cl_s65 hS, cl_s66 hS, cl_c hS, cl_c' hS, cl_r hS, cl_r' hS, cl_tr hS, cl_sb hS, cl_st hS, cl_sk hS, cl_sl hS, cl_sw hS, cl_sc hS, cl_sc' hS, cl_sr hS, cl_sr' hS, cl_sq hS, mo_s85 hM, mo_r0 hM, mo_s86 hM, mo_r3 hM, mo_s87 hM, mo_r4 hM, mo_s88 hM, mo_r6 hM, mo_s89 hM, mo_r7 hM, mo_s90 hM, mo_r9 hM, mo_s91 hM, mo_r10 hM, mo_s92 hM, mo_r11 hM, mo_s93 hM, mo_r12 hM, mo_s94 hM, mo_r13 hM, mo_s95 hM, mo_r14 hM, mo_s96 hM, mo_r15 hM, mo_s97 hM, mo_r17 hM, mo_s98 hM, mo_r18 hM, mo_s99 hM, mo_r19 hM, mo_s100 hM, mo_r21 hM, mo_s101 hM, mo_r22 hM, mo_s102 hM, mo_r24 hM, mo_s103 hM, mo_r25 hM, mo_s104 hM, mo_r28 hM, mo_s105 hM, mo_r32 hM, mo_s106 hM, mo_r33 hM, mo_s107 hM, mo_r34 hM, mo_s108 hM, mo_r35 hM, mo_s109 hM, mo_r38 hM, mo_s110 hM, mo_r40 hM, mo_s111 hM, mo_r41 hM, mo_s112 hM, mo_r43 hM, mo_s113 hM, mo_r44 hM, mo_s114 hM, mo_r45 hM, mo_s115 hM, mo_r46 hM, mo_s116 hM, z2n, zset_o, zbr_o, zmd_o, w1, k6, e6]
    rfl
  refine ⟨zbr f 42 (qEw f R H nd k it') (fun l => if l < m then qEx f R H nd k it' (f (v + 2) l) (f (v + 3) l) (f (v + 1) l) else Y0 l), ?_, ?_, ?_⟩
  · refine ⟨?_, k1⟩
    simp (disch := omega) only [F_X10_tryRow, zv, e_gi, e_gr, e_gl, e_si, e_sb, e_ai, e_ar, e_ti, e_ty, e_tz, e_cv, zc_some, zmo_some, zin_T, ↓reduceIte, zit_succ, zzr0, zzr1, true_and, and_true, and_self, or_false, false_or, or_true, true_or, not_true_eq_false, not_false_eq_true, zl0, zl1, zl2, zl3, zl4, zl5, zl6, zl7, zl8, zl9, zl10, zl11, zl12, zl20, zl24, zl31, zl36, zl40, zl42, zl44, zl48, zl49, zl50, zl55, zl57, zl60, zl97, zl99, zl100, zl102, zl104, zl109, zl113, zl114, zl119, zl126, zl255, zl400, zl1000, zl101, zl103, zl1001, zl1002, zl16, zl18, zl32, zl35, zl443, n_leT, n_leF, n_ltT, n_ltF, n_eqT, n_eqF, n_swT, n_swF, nI_add, n_sub, pk_mul, zd_n, cl_s0 hS, cl_r0_0 hS, cl_r0_1 hS, cl_r0_2 hS, cl_r0_9 hS, cl_r0_12 hS, cl_r0_13 hS, cl_r0_14 hS, cl_r0_15 hS, cl_r0_16 hS, cl_r0_17 hS, cl_r0_19 hS, cl_r1_0 hS, cl_r51_0 hS, cl_r51_1 hS, cl_r51_2 hS, cl_r64_0 hS, cl_r64_1 hS, cl_s1 hS, cl_s2 hS, cl_s3 hS, cl_s4 hS, cl_s19 hS, cl_s51 hS, cl_s61 hS, cl_s62 hS, cl_s63 hS, cl_s64 hS, cl_s65 hS, cl_s66 hS, cl_c hS, cl_c' hS, cl_r hS, cl_r' hS, cl_tr hS, cl_sb hS, cl_st hS, cl_sk hS, cl_sl hS, cl_sw hS, cl_sc hS, cl_sc' hS, cl_sr hS, cl_sr' hS, cl_sq hS, mo_s85 hM, mo_r0 hM, mo_s86 hM, mo_r3 hM, mo_s87 hM, mo_r4 hM, mo_s88 hM, mo_r6 hM, mo_s89 hM, mo_r7 hM, mo_s90 hM, mo_r9 hM, mo_s91 hM, mo_r10 hM, mo_s92 hM, mo_r11 hM, mo_s93 hM, mo_r12 hM, mo_s94 hM, mo_r13 hM, mo_s95 hM, mo_r14 hM, mo_s96 hM, mo_r15 hM, mo_s97 hM, mo_r17 hM, mo_s98 hM, mo_r18 hM, mo_s99 hM, mo_r19 hM, mo_s100 hM, mo_r21 hM, mo_s101 hM, mo_r22 hM, mo_s102 hM, mo_r24 hM, mo_s103 hM, mo_r25 hM, mo_s104 hM, mo_r28 hM, mo_s105 hM, mo_r32 hM, mo_s106 hM, mo_r33 hM, mo_s107 hM, mo_r34 hM, mo_s108 hM, mo_r35 hM, mo_s109 hM, mo_r38 hM, mo_s110 hM, mo_r40 hM, mo_s111 hM, mo_r41 hM, mo_s112 hM, mo_r43 hM, mo_s113 hM, mo_r44 hM, mo_s114 hM, mo_r45 hM, mo_s115 hM, mo_r46 hM, mo_s116 hM, e5]
    unfold F_X10_tryRow_L10
    have h0 : zbr f 42 q0 Y0 = zbr f 42 (qRw f R H nd k 0) (fun l => if l < m then qRx f R H nd k (f (v + 2) l) (f (v + 3) l) (f (v + 1) l) 0 else Y0 l) := by
      congr 1
      funext l
      by_cases hl : l < m
      · rw [if_pos hl]
        exact hY0' l hl
      · rw [if_neg hl]
    rw [h0]
    refine zfor (fun i => (zwi S (zbr f 42 (qRw f R H nd k i) (fun l => if l < m then qRx f R H nd k (f (v + 2) l) (f (v + 3) l) (f (v + 1) l) i else Y0 l)), nI i)) it' (fun kc i hi => ?_) (fun kc => hend kc) (by omega)
    obtain ⟨i1, i2, ⟨d, i3, i4⟩, t, i5, i6⟩ := k8 i hi
    obtain ⟨dd, t1, t2, t3, t4, t5⟩ := eC_doing n hS hdo (f 99 (6 * k + i))
    have e6 := eC_go n (f := f) (F := f) (w := qRw f R H nd k i) (y := fun l => if l < m then qRx f R H nd k (f (v + 2) l) (f (v + 3) l) (f (v + 1) l) i else Y0 l) (N := t) (p := nI 0) (dd := dd) hn hS hcu hR hdo (cl_t hS) (by omega) (by omega) hV (by omega) hz hm (fun _ _ => rfl) hvm ⟨t1, t2⟩ t3 t4 (do_ok hdo _) (qB_rw hcu hR hdo i) (hYin i) (by omega)
    have hYe : (fun l => if l < m then qX (qTick R H (f 86) (qKd f nd (f 99 (6 * k + i))) (qMd f nd (f 99 (6 * k + i)))) R H (qRw f R H nd k i) (f (v + 2) l) (f (v + 3) l) ((fun l => if l < m then qRx f R H nd k (f (v + 2) l) (f (v + 3) l) (f (v + 1) l) i else Y0 l) l) t else (fun l => if l < m then qRx f R H nd k (f (v + 2) l) (f (v + 3) l) (f (v + 1) l) i else Y0 l) l) = fun l => if l < m then qRx f R H nd k (f (v + 2) l) (f (v + 3) l) (f (v + 1) l) (i + 1) else Y0 l := by
      funext l
      by_cases hl : l < m
      · simp only [if_pos hl]
        rw [qRx_s, i6, n_clamp (by omega)]
        rfl
      · simp only [if_neg hl]
    have hWe : qW (qTick R H (f 86) (qKd f nd (f 99 (6 * k + i))) (qMd f nd (f 99 (6 * k + i)))) (qRw f R H nd k i) t = qRw f R H nd k (i + 1) := by
      rw [qRw_s, i6, n_clamp (by omega)]
      rfl
    rw [hYe, hWe] at e6
    have t5' := t5 (zbr f 42 (qRw f R H nd k i) (fun l => if l < m then qRx f R H nd k (f (v + 2) l) (f (v + 3) l) (f (v + 1) l) i else Y0 l)) ((zbr_o (by omega)).trans hdo.2.1)
    simp (disch := omega) only [F_X10_tryRow_B10, zv, e_gi, e_gr, e_gl, e_si, e_sb, e_ai, e_ar, e_ti, e_ty, e_tz, e_cv, zc_some, zmo_some, zin_T, ↓reduceIte, zit_succ, zzr0, zzr1, true_and, and_true, and_self, or_false, false_or, or_true, true_or, not_true_eq_false, not_false_eq_true, zl0, zl1, zl2, zl3, zl4, zl5, zl6, zl7, zl8, zl9, zl10, zl11, zl12, zl20, zl24, zl31, zl36, zl40, zl42, zl44, zl48, zl49, zl50, zl55, zl57, zl60, zl97, zl99, zl100, zl102, zl104, zl109, zl113, zl114, zl119, zl126, zl255, zl400, zl1000, zl101, zl103, zl1001, zl1002, zl16, zl18, zl32, zl35, zl443, n_leT, n_leF, n_ltT, n_ltF, n_eqT, n_eqF, n_swT, n_swF, nI_add, n_sub, pk_mul, zd_n, cl_s0 hS, cl_r0_0 hS, cl_r0_1 hS, cl_r0_2 hS, cl_r0_9 hS, cl_r0_12 hS, cl_r0_13 hS, cl_r0_14 hS, cl_r0_15 hS, cl_r0_16 hS, cl_r0_17 hS, cl_r0_19 hS, cl_r1_0 hS, cl_r51_0 hS, cl_r51_1 hS, cl_r51_2 hS, cl_r64_0 hS, cl_r64_1 hS, cl_s1 hS, cl_s2 hS, cl_s3 hS, cl_s4 hS, cl_s19 hS, cl_s51 hS, cl_s61 hS, cl_s62 hS, cl_s63 hS, cl_s64 hS, cl_s65 hS, cl_s66 hS, cl_c hS, cl_c' hS, cl_r hS, cl_r' hS, cl_tr hS, cl_sb hS, cl_st hS, cl_sk hS, cl_sl hS, cl_sw hS, cl_sc hS, cl_sc' hS, cl_sr hS, cl_sr' hS, cl_sq hS, mo_s85 hM, mo_r0 hM, mo_s86 hM, mo_r3 hM, mo_s87 hM, mo_r4 hM, mo_s88 hM, mo_r6 hM, mo_s89 hM, mo_r7 hM, mo_s90 hM, mo_r9 hM, mo_s91 hM, mo_r10 hM, mo_s92 hM, mo_r11 hM, mo_s93 hM, mo_r12 hM, mo_s94 hM, mo_r13 hM, mo_s95 hM, mo_r14 hM, mo_s96 hM, mo_r15 hM, mo_s97 hM, mo_r17 hM, mo_s98 hM, mo_r18 hM, mo_s99 hM, mo_r19 hM, mo_s100 hM, mo_r21 hM, mo_s101 hM, mo_r22 hM, mo_s102 hM, mo_r24 hM, mo_s103 hM, mo_r25 hM, mo_s104 hM, mo_r28 hM, mo_s105 hM, mo_r32 hM, mo_s106 hM, mo_r33 hM, mo_s107 hM, mo_r34 hM, mo_s108 hM, mo_r35 hM, mo_s109 hM, mo_r38 hM, mo_s110 hM, mo_r40 hM, mo_s111 hM, mo_r41 hM, mo_s112 hM, mo_r43 hM, mo_s113 hM, mo_r44 hM, mo_s114 hM, mo_r45 hM, mo_s115 hM, mo_r46 hM, mo_s116 hM, z2n, zset_o, zbr_o, zmd_o, w1, w2, w3, w4, w5, k6, i1, i2, t5', t1, i6, e6]
  · exact fun a j q => zbr_o (by omega)
  · exact fun l hl => by rw [zbr_50 (by omega), if_pos hl]
theorem eM_itemKind (n : Nat) {S : zH} {f : Nat → Nat → Int32} {nd j d : Nat} (hM : zMo S) (hnd : f 85 5 = nI nd) (hnd8 : nd ≤ 8) (hj : j < 36) (hd : f 99 j = nI d) (hd8 : d < 8) : F_X11_itemKind n (zwi S f) 85 (nI j) = some (qKd f nd (f 99 j), zwi S f) ∧ F_X11_itemNumber n (zwi S f) 85 (nI j) = some (qMd f nd (f 99 j), zwi S f) := by
  have e := fun p => eM_isDoing n p hM hnd hnd8
  unfold qKd qMd
  rw [hd]
  rcases qHas_c (nI d) (k := nd) (by omega) with h | ⟨m, hm, hdm, h⟩
  · exact ⟨by simp (disch := omega) only [F_X11_itemKind_J28, F_X11_itemKind, zv, e_gi, e_gr, e_gl, e_si, e_sb, e_ai, e_ar, e_ti, e_ty, e_tz, e_cv, zc_some, zmo_some, zin_T, ↓reduceIte, zit_succ, zzr0, zzr1, true_and, and_true, and_self, or_false, false_or, or_true, true_or, not_true_eq_false, not_false_eq_true, zl0, zl1, zl2, zl3, zl4, zl5, zl6, zl7, zl8, zl9, zl10, zl11, zl12, zl20, zl24, zl31, zl36, zl40, zl42, zl44, zl48, zl49, zl50, zl55, zl57, zl60, zl97, zl99, zl100, zl102, zl104, zl109, zl113, zl114, zl119, zl126, zl255, zl400, zl1000, zl101, zl103, zl1001, zl1002, zl16, zl18, zl32, zl35, zl443, n_leT, n_leF, n_ltT, n_ltF, n_eqT, n_eqF, n_swT, n_swF, nI_add, n_sub, pk_mul, zd_n, mo_s85 hM, mo_r0 hM, mo_s86 hM, mo_r3 hM, mo_s87 hM, mo_r4 hM, mo_s88 hM, mo_r6 hM, mo_s89 hM, mo_r7 hM, mo_s90 hM, mo_r9 hM, mo_s91 hM, mo_r10 hM, mo_s92 hM, mo_r11 hM, mo_s93 hM, mo_r12 hM, mo_s94 hM, mo_r13 hM, mo_s95 hM, mo_r14 hM, mo_s96 hM, mo_r15 hM, mo_s97 hM, mo_r17 hM, mo_s98 hM, mo_r18 hM, mo_s99 hM, mo_r19 hM, mo_s100 hM, mo_r21 hM, mo_s101 hM, mo_r22 hM, mo_s102 hM, mo_r24 hM, mo_s103 hM, mo_r25 hM, mo_s104 hM, mo_r28 hM, mo_s105 hM, mo_r32 hM, mo_s106 hM, mo_r33 hM, mo_s107 hM, mo_r34 hM, mo_s108 hM, mo_r35 hM, mo_s109 hM, mo_r38 hM, mo_s110 hM, mo_r40 hM, mo_s111 hM, mo_r41 hM, mo_s112 hM, mo_r43 hM, mo_s113 hM, mo_r44 hM, mo_s114 hM, mo_r45 hM, mo_s115 hM, mo_r46 hM, mo_s116 hM, hd, e, h], by simp (disch := omega) only [F_X11_itemNumber_J28, F_X11_itemNumber, zv, e_gi, e_gr, e_gl, e_si, e_sb, e_ai, e_ar, e_ti, e_ty, e_tz, e_cv, zc_some, zmo_some, zin_T, ↓reduceIte, zit_succ, zzr0, zzr1, true_and, and_true, and_self, or_false, false_or, or_true, true_or, not_true_eq_false, not_false_eq_true, zl0, zl1, zl2, zl3, zl4, zl5, zl6, zl7, zl8, zl9, zl10, zl11, zl12, zl20, zl24, zl31, zl36, zl40, zl42, zl44, zl48, zl49, zl50, zl55, zl57, zl60, zl97, zl99, zl100, zl102, zl104, zl109, zl113, zl114, zl119, zl126, zl255, zl400, zl1000, zl101, zl103, zl1001, zl1002, zl16, zl18, zl32, zl35, zl443, n_leT, n_leF, n_ltT, n_ltF, n_eqT, n_eqF, n_swT, n_swF, nI_add, n_sub, pk_mul, zd_n, mo_s85 hM, mo_r0 hM, mo_s86 hM, mo_r3 hM, mo_s87 hM, mo_r4 hM, mo_s88 hM, mo_r6 hM, mo_s89 hM, mo_r7 hM, mo_s90 hM, mo_r9 hM, mo_s91 hM, mo_r10 hM, mo_s92 hM, mo_r11 hM, mo_s93 hM, mo_r12 hM, mo_s94 hM, mo_r13 hM, mo_s95 hM, mo_r14 hM, mo_s96 hM, mo_r15 hM, mo_s97 hM, mo_r17 hM, mo_s98 hM, mo_r18 hM, mo_s99 hM, mo_r19 hM, mo_s100 hM, mo_r21 hM, mo_s101 hM, mo_r22 hM, mo_s102 hM, mo_r24 hM, mo_s103 hM, mo_r25 hM, mo_s104 hM, mo_r28 hM, mo_s105 hM, mo_r32 hM, mo_s106 hM, mo_r33 hM, mo_s107 hM, mo_r34 hM, mo_s108 hM, mo_r35 hM, mo_s109 hM, mo_r38 hM, mo_s110 hM, mo_r40 hM, mo_s111 hM, mo_r41 hM, mo_s112 hM, mo_r43 hM, mo_s113 hM, mo_r44 hM, mo_s114 hM, mo_r45 hM, mo_s115 hM, mo_r46 hM, mo_s116 hM, hd, e, h]⟩
  · exact ⟨by simp (disch := omega) only [F_X11_itemKind_J28, F_X11_itemKind, zv, e_gi, e_gr, e_gl, e_si, e_sb, e_ai, e_ar, e_ti, e_ty, e_tz, e_cv, zc_some, zmo_some, zin_T, ↓reduceIte, zit_succ, zzr0, zzr1, true_and, and_true, and_self, or_false, false_or, or_true, true_or, not_true_eq_false, not_false_eq_true, zl0, zl1, zl2, zl3, zl4, zl5, zl6, zl7, zl8, zl9, zl10, zl11, zl12, zl20, zl24, zl31, zl36, zl40, zl42, zl44, zl48, zl49, zl50, zl55, zl57, zl60, zl97, zl99, zl100, zl102, zl104, zl109, zl113, zl114, zl119, zl126, zl255, zl400, zl1000, zl101, zl103, zl1001, zl1002, zl16, zl18, zl32, zl35, zl443, n_leT, n_leF, n_ltT, n_ltF, n_eqT, n_eqF, n_swT, n_swF, nI_add, n_sub, pk_mul, zd_n, mo_s85 hM, mo_r0 hM, mo_s86 hM, mo_r3 hM, mo_s87 hM, mo_r4 hM, mo_s88 hM, mo_r6 hM, mo_s89 hM, mo_r7 hM, mo_s90 hM, mo_r9 hM, mo_s91 hM, mo_r10 hM, mo_s92 hM, mo_r11 hM, mo_s93 hM, mo_r12 hM, mo_s94 hM, mo_r13 hM, mo_s95 hM, mo_r14 hM, mo_s96 hM, mo_r15 hM, mo_s97 hM, mo_r17 hM, mo_s98 hM, mo_r18 hM, mo_s99 hM, mo_r19 hM, mo_s100 hM, mo_r21 hM, mo_s101 hM, mo_r22 hM, mo_s102 hM, mo_r24 hM, mo_s103 hM, mo_r25 hM, mo_s104 hM, mo_r28 hM, mo_s105 hM, mo_r32 hM, mo_s106 hM, mo_r33 hM, mo_s107 hM, mo_r34 hM, mo_s108 hM, mo_r35 hM, mo_s109 hM, mo_r38 hM, mo_s110 hM, mo_r40 hM, mo_s111 hM, mo_r41 hM, mo_s112 hM, mo_r43 hM, mo_s113 hM, mo_r44 hM, mo_s114 hM, mo_r45 hM, mo_s115 hM, mo_r46 hM, mo_s116 hM, hd, e, h, n_clamp], by simp (disch := omega) only [F_X11_itemNumber_J28, F_X11_itemNumber, zv, e_gi, e_gr, e_gl, e_si, e_sb, e_ai, e_ar, e_ti, e_ty, e_tz, e_cv, zc_some, zmo_some, zin_T, ↓reduceIte, zit_succ, zzr0, zzr1, true_and, and_true, and_self, or_false, false_or, or_true, true_or, not_true_eq_false, not_false_eq_true, zl0, zl1, zl2, zl3, zl4, zl5, zl6, zl7, zl8, zl9, zl10, zl11, zl12, zl20, zl24, zl31, zl36, zl40, zl42, zl44, zl48, zl49, zl50, zl55, zl57, zl60, zl97, zl99, zl100, zl102, zl104, zl109, zl113, zl114, zl119, zl126, zl255, zl400, zl1000, zl101, zl103, zl1001, zl1002, zl16, zl18, zl32, zl35, zl443, n_leT, n_leF, n_ltT, n_ltF, n_eqT, n_eqF, n_swT, n_swF, nI_add, n_sub, pk_mul, zd_n, mo_s85 hM, mo_r0 hM, mo_s86 hM, mo_r3 hM, mo_s87 hM, mo_r4 hM, mo_s88 hM, mo_r6 hM, mo_s89 hM, mo_r7 hM, mo_s90 hM, mo_r9 hM, mo_s91 hM, mo_r10 hM, mo_s92 hM, mo_r11 hM, mo_s93 hM, mo_r12 hM, mo_s94 hM, mo_r13 hM, mo_s95 hM, mo_r14 hM, mo_s96 hM, mo_r15 hM, mo_s97 hM, mo_r17 hM, mo_s98 hM, mo_r18 hM, mo_s99 hM, mo_r19 hM, mo_s100 hM, mo_r21 hM, mo_s101 hM, mo_r22 hM, mo_s102 hM, mo_r24 hM, mo_s103 hM, mo_r25 hM, mo_s104 hM, mo_r28 hM, mo_s105 hM, mo_r32 hM, mo_s106 hM, mo_r33 hM, mo_s107 hM, mo_r34 hM, mo_s108 hM, mo_r35 hM, mo_s109 hM, mo_r38 hM, mo_s110 hM, mo_r40 hM, mo_s111 hM, mo_r41 hM, mo_s112 hM, mo_r43 hM, mo_s113 hM, mo_r44 hM, mo_s114 hM, mo_r45 hM, mo_s115 hM, mo_r46 hM, mo_s116 hM, hd, e, h, n_clamp]⟩
theorem eM_begin (n : Nat) {S : zH} {f w : Nat → Nat → Int32} {y : Nat → Int32} {nl : Nat} (hn : 513 < n) (hM : zMo S) (hnl : f 85 8 = nI nl) (hn8 : nl ≤ 8) : F_X11_begin n (zwi S (zmd f w y)) 85 = some ((), zwi S (zmd f q0 (fun l => if l < nl then f 92 l else y l))) := by
  have e := eM_still n (f := f) (w := w) (y := y) hn hM
  simp (disch := omega) only [F_X11_begin, zv, e_gi, e_gr, e_gl, e_si, e_sb, e_ai, e_ar, e_ti, e_ty, e_tz, e_cv, zc_some, zmo_some, zin_T, ↓reduceIte, zit_succ, zzr0, zzr1, true_and, and_true, and_self, or_false, false_or, or_true, true_or, not_true_eq_false, not_false_eq_true, zl0, zl1, zl2, zl3, zl4, zl5, zl6, zl7, zl8, zl9, zl10, zl11, zl12, zl20, zl24, zl31, zl36, zl40, zl42, zl44, zl48, zl49, zl50, zl55, zl57, zl60, zl97, zl99, zl100, zl102, zl104, zl109, zl113, zl114, zl119, zl126, zl255, zl400, zl1000, zl101, zl103, zl1001, zl1002, zl16, zl18, zl32, zl35, zl443, n_leT, n_leF, n_ltT, n_ltF, n_eqT, n_eqF, n_swT, n_swF, nI_add, n_sub, pk_mul, zd_n, mo_s85 hM, mo_r0 hM, mo_s86 hM, mo_r3 hM, mo_s87 hM, mo_r4 hM, mo_s88 hM, mo_r6 hM, mo_s89 hM, mo_r7 hM, mo_s90 hM, mo_r9 hM, mo_s91 hM, mo_r10 hM, mo_s92 hM, mo_r11 hM, mo_s93 hM, mo_r12 hM, mo_s94 hM, mo_r13 hM, mo_s95 hM, mo_r14 hM, mo_s96 hM, mo_r15 hM, mo_s97 hM, mo_r17 hM, mo_s98 hM, mo_r18 hM, mo_s99 hM, mo_r19 hM, mo_s100 hM, mo_r21 hM, mo_s101 hM, mo_r22 hM, mo_s102 hM, mo_r24 hM, mo_s103 hM, mo_r25 hM, mo_s104 hM, mo_r28 hM, mo_s105 hM, mo_r32 hM, mo_s106 hM, mo_r33 hM, mo_s107 hM, mo_r34 hM, mo_s108 hM, mo_r35 hM, mo_s109 hM, mo_r38 hM, mo_s110 hM, mo_r40 hM, mo_s111 hM, mo_r41 hM, mo_s112 hM, mo_r43 hM, mo_s113 hM, mo_r44 hM, mo_s114 hM, mo_r45 hM, mo_s115 hM, mo_r46 hM, mo_s116 hM, e]
  unfold F_X11_begin_L6
  conv => lhs; rw [← qcl_0 (G := fun l => f 92 l) (y := y)]
  refine zfor (fun i => (zwi S (zmd f q0 (fun l => if l < i then f 92 l else y l)), nI i)) nl (fun kc i hi => ?_) (fun kc => ?_) (by omega)
  · rw [← qcl_step (G := fun l => f 92 l) (y := y) (i := i) (v := f 92 i) rfl]
    simp (disch := omega) only [F_X11_begin_B6, zv, e_gi, e_gr, e_gl, e_si, e_sb, e_ai, e_ar, e_ti, e_ty, e_tz, e_cv, zc_some, zmo_some, zin_T, ↓reduceIte, zit_succ, zzr0, zzr1, true_and, and_true, and_self, or_false, false_or, or_true, true_or, not_true_eq_false, not_false_eq_true, zl0, zl1, zl2, zl3, zl4, zl5, zl6, zl7, zl8, zl9, zl10, zl11, zl12, zl20, zl24, zl31, zl36, zl40, zl42, zl44, zl48, zl49, zl50, zl55, zl57, zl60, zl97, zl99, zl100, zl102, zl104, zl109, zl113, zl114, zl119, zl126, zl255, zl400, zl1000, zl101, zl103, zl1001, zl1002, zl16, zl18, zl32, zl35, zl443, n_leT, n_leF, n_ltT, n_ltF, n_eqT, n_eqF, n_swT, n_swF, nI_add, n_sub, pk_mul, zd_n, mo_s85 hM, mo_r0 hM, mo_s86 hM, mo_r3 hM, mo_s87 hM, mo_r4 hM, mo_s88 hM, mo_r6 hM, mo_s89 hM, mo_r7 hM, mo_s90 hM, mo_r9 hM, mo_s91 hM, mo_r10 hM, mo_s92 hM, mo_r11 hM, mo_s93 hM, mo_r12 hM, mo_s94 hM, mo_r13 hM, mo_s95 hM, mo_r14 hM, mo_s96 hM, mo_r15 hM, mo_s97 hM, mo_r17 hM, mo_s98 hM, mo_r18 hM, mo_s99 hM, mo_r19 hM, mo_s100 hM, mo_r21 hM, mo_s101 hM, mo_r22 hM, mo_s102 hM, mo_r24 hM, mo_s103 hM, mo_r25 hM, mo_s104 hM, mo_r28 hM, mo_s105 hM, mo_r32 hM, mo_s106 hM, mo_r33 hM, mo_s107 hM, mo_r34 hM, mo_s108 hM, mo_r35 hM, mo_s109 hM, mo_r38 hM, mo_s110 hM, mo_r40 hM, mo_s111 hM, mo_r41 hM, mo_s112 hM, mo_r43 hM, mo_s113 hM, mo_r44 hM, mo_s114 hM, mo_r45 hM, mo_s115 hM, mo_r46 hM, mo_s116 hM, zmd_o, zmd_2y, hnl]
  · simp (disch := omega) only [F_X11_begin_B6, zv, e_gi, e_gr, e_gl, e_si, e_sb, e_ai, e_ar, e_ti, e_ty, e_tz, e_cv, zc_some, zmo_some, zin_T, ↓reduceIte, zit_succ, zzr0, zzr1, true_and, and_true, and_self, or_false, false_or, or_true, true_or, not_true_eq_false, not_false_eq_true, zl0, zl1, zl2, zl3, zl4, zl5, zl6, zl7, zl8, zl9, zl10, zl11, zl12, zl20, zl24, zl31, zl36, zl40, zl42, zl44, zl48, zl49, zl50, zl55, zl57, zl60, zl97, zl99, zl100, zl102, zl104, zl109, zl113, zl114, zl119, zl126, zl255, zl400, zl1000, zl101, zl103, zl1001, zl1002, zl16, zl18, zl32, zl35, zl443, n_leT, n_leF, n_ltT, n_ltF, n_eqT, n_eqF, n_swT, n_swF, nI_add, n_sub, pk_mul, zd_n, mo_s85 hM, mo_r0 hM, mo_s86 hM, mo_r3 hM, mo_s87 hM, mo_r4 hM, mo_s88 hM, mo_r6 hM, mo_s89 hM, mo_r7 hM, mo_s90 hM, mo_r9 hM, mo_s91 hM, mo_r10 hM, mo_s92 hM, mo_r11 hM, mo_s93 hM, mo_r12 hM, mo_s94 hM, mo_r13 hM, mo_s95 hM, mo_r14 hM, mo_s96 hM, mo_r15 hM, mo_s97 hM, mo_r17 hM, mo_s98 hM, mo_r18 hM, mo_s99 hM, mo_r19 hM, mo_s100 hM, mo_r21 hM, mo_s101 hM, mo_r22 hM, mo_s102 hM, mo_r24 hM, mo_s103 hM, mo_r25 hM, mo_s104 hM, mo_r28 hM, mo_s105 hM, mo_r32 hM, mo_s106 hM, mo_r33 hM, mo_s107 hM, mo_r34 hM, mo_s108 hM, mo_r35 hM, mo_s109 hM, mo_r38 hM, mo_s110 hM, mo_r40 hM, mo_s111 hM, mo_r41 hM, mo_s112 hM, mo_r43 hM, mo_s113 hM, mo_r44 hM, mo_s114 hM, mo_r45 hM, mo_s115 hM, mo_r46 hM, mo_s116 hM, zmd_o, hnl]
/-- the reference lays a row -/
theorem eM_layRow (n : Nat) {S : zH} {f : Nat → Nat → Int32} {c R H cu nd nr nl k it tr : Nat} {da ra : Nat → Nat} (hn : 513 < n) (hM : zMo S) (hcu : I_cu f c R H cu) (hR : 1 ≤ R) (hdo : I_do S f nd da) (hrw : I_rw S f nr ra tr) (hnl : f 85 8 = nI nl) (hn8 : nl ≤ 8) (hy : ∀ l, l < nl → ∃ x, x < R ∧ f 92 l = nI x) (hk : k < nr) (hit : f 98 k = nI it) (hit6 : it ≤ 6) :
    ∃ F, F_X11_layRow n (zwi S f) 85 (nI k) = some ((), zwi S F) ∧ (∀ a j, a ≠ 88 → a ≠ 96 → F a j = f a j) ∧ ∀ l, l < nl → F 96 l = qEx f R H nd k it (f 93 l) (f 94 l) (f 92 l) := by
  have hR6 : R ≤ 6 ∧ 2 ≤ H ∧ H ≤ 4 := by
    obtain ⟨-, -, -, h, -⟩ := hcu
    omega
  have hR0 := hcu.2.1
  have hH0 := hcu.2.2.1
  obtain ⟨k1, k2, k3, k4, it', k5, k6, k7, k8⟩ := hrw.2.2.2 k hk
  have hnr := hrw.1
  have hitt : it' = it := n_inj (by omega) (by omega) (k7.symm.trans hit)
  subst hitt
  have e5 := eM_begin n (f := f) (w := fun r k => f 88 (4 * r + k)) (y := fun l => f 96 l) hn hM hnl hn8
  rw [zmd_self] at e5
  generalize hY0 : (fun l => if l < nl then f 92 l else (fun l => f 96 l) l) = Y0 at e5
  have hY0' : ∀ l, l < nl → Y0 l = f 92 l := fun l hl => by rw [← hY0]; exact if_pos hl
  have hYin : ∀ i l, l < nl → ∃ x, x < R ∧ (fun l => if l < nl then qRx f R H nd k (f 93 l) (f 94 l) (f 92 l) i else Y0 l) l = nI x := fun i l hl => by
    obtain ⟨x, h1, h2⟩ := hy l hl
    dsimp only
    rw [if_pos hl, h2]
    exact qRx_in h1 hR6.1 i
  have hend : ∀ kc, F_X11_layRow_B6 n kc (zwi S (zmd f (qRw f R H nd k it') (fun l => if l < nl then qRx f R H nd k (f 93 l) (f 94 l) (f 92 l) it' else Y0 l))) 85 (nI k) (nI it') = some ((), zwi S (zmd f (qEw f R H nd k it') (fun l => if l < nl then qEx f R H nd k it' (f 93 l) (f 94 l) (f 92 l) else Y0 l))) := fun kc => by
    have e6 := eM_goAll n (f := f) (w := qRw f R H nd k it') (y := fun l => if l < nl then qRx f R H nd k (f 93 l) (f 94 l) (f 92 l) it' else Y0 l) (N := 60) (k := nI 0) (m := nI 0) hn hM hR0 hR6.1 hR hH0 hR6.2.2 hR6.2.1 hnl hn8 (hYin it') (by omega)
    have hYe : (fun l => if l < nl then qX (qTick R H (f 86) (nI 0) (nI 0)) R H (qRw f R H nd k it') (f 93 l) (f 94 l) ((fun l => if l < nl then qRx f R H nd k (f 93 l) (f 94 l) (f 92 l) it' else Y0 l) l) 60 else (fun l => if l < nl then qRx f R H nd k (f 93 l) (f 94 l) (f 92 l) it' else Y0 l) l) = fun l => if l < nl then qEx f R H nd k it' (f 93 l) (f 94 l) (f 92 l) else Y0 l := by
      funext l
      by_cases hl : l < nl
      · simp only [if_pos hl]
        rfl
      · simp only [if_neg hl]
    rw [hYe] at e6
    simp (disch := omega) only [F_X11_layRow_B6, zv, e_gi, e_gr, e_gl, e_si, e_sb, e_ai, e_ar, e_ti, e_ty, e_tz, e_cv, zc_some, zmo_some, zin_T, ↓reduceIte, zit_succ, zzr0, zzr1, true_and, and_true, and_self, or_false, false_or, or_true, true_or, not_true_eq_false, not_false_eq_true, zl0, zl1, zl2, zl3, zl4, zl5, zl6, zl7, zl8, zl9, zl10, zl11, zl12, zl20, zl24, zl31, zl36, zl40, zl42, zl44, zl48, zl49, zl50, zl55, zl57, zl60, zl97, zl99, zl100, zl102, zl104, zl109, zl113, zl114, zl119, zl126, zl255, zl400, zl1000, zl101, zl103, zl1001, zl1002, zl16, zl18, zl32, zl35, zl443, n_leT, n_leF, n_ltT, n_ltF, n_eqT, n_eqF, n_swT, n_swF, nI_add, n_sub, pk_mul, zd_n, mo_s85 hM, mo_r0 hM, mo_s86 hM, mo_r3 hM, mo_s87 hM, mo_r4 hM, mo_s88 hM, mo_r6 hM, mo_s89 hM, mo_r7 hM, mo_s90 hM, mo_r9 hM, mo_s91 hM, mo_r10 hM, mo_s92 hM, mo_r11 hM, mo_s93 hM, mo_r12 hM, mo_s94 hM, mo_r13 hM, mo_s95 hM, mo_r14 hM, mo_s96 hM, mo_r15 hM, mo_s97 hM, mo_r17 hM, mo_s98 hM, mo_r18 hM, mo_s99 hM, mo_r19 hM, mo_s100 hM, mo_r21 hM, mo_s101 hM, mo_r22 hM, mo_s102 hM, mo_r24 hM, mo_s103 hM, mo_r25 hM, mo_s104 hM, mo_r28 hM, mo_s105 hM, mo_r32 hM, mo_s106 hM, mo_r33 hM, mo_s107 hM, mo_r34 hM, mo_s108 hM, mo_r35 hM, mo_s109 hM, mo_r38 hM, mo_s110 hM, mo_r40 hM, mo_s111 hM, mo_r41 hM, mo_s112 hM, mo_r43 hM, mo_s113 hM, mo_r44 hM, mo_s114 hM, mo_r45 hM, mo_s115 hM, mo_r46 hM, mo_s116 hM, z2n, zset_o, zbr_o, zmd_o, k7, e6]
    rfl
  refine ⟨zmd f (qEw f R H nd k it') (fun l => if l < nl then qEx f R H nd k it' (f 93 l) (f 94 l) (f 92 l) else Y0 l), ?_, ?_, ?_⟩
  · simp (disch := omega) only [F_X11_layRow, zv, e_gi, e_gr, e_gl, e_si, e_sb, e_ai, e_ar, e_ti, e_ty, e_tz, e_cv, zc_some, zmo_some, zin_T, ↓reduceIte, zit_succ, zzr0, zzr1, true_and, and_true, and_self, or_false, false_or, or_true, true_or, not_true_eq_false, not_false_eq_true, zl0, zl1, zl2, zl3, zl4, zl5, zl6, zl7, zl8, zl9, zl10, zl11, zl12, zl20, zl24, zl31, zl36, zl40, zl42, zl44, zl48, zl49, zl50, zl55, zl57, zl60, zl97, zl99, zl100, zl102, zl104, zl109, zl113, zl114, zl119, zl126, zl255, zl400, zl1000, zl101, zl103, zl1001, zl1002, zl16, zl18, zl32, zl35, zl443, n_leT, n_leF, n_ltT, n_ltF, n_eqT, n_eqF, n_swT, n_swF, nI_add, n_sub, pk_mul, zd_n, mo_s85 hM, mo_r0 hM, mo_s86 hM, mo_r3 hM, mo_s87 hM, mo_r4 hM, mo_s88 hM, mo_r6 hM, mo_s89 hM, mo_r7 hM, mo_s90 hM, mo_r9 hM, mo_s91 hM, mo_r10 hM, mo_s92 hM, mo_r11 hM, mo_s93 hM, mo_r12 hM, mo_s94 hM, mo_r13 hM, mo_s95 hM, mo_r14 hM, mo_s96 hM, mo_r15 hM, mo_s97 hM, mo_r17 hM, mo_s98 hM, mo_r18 hM, mo_s99 hM, mo_r19 hM, mo_s100 hM, mo_r21 hM, mo_s101 hM, mo_r22 hM, mo_s102 hM, mo_r24 hM, mo_s103 hM, mo_r25 hM, mo_s104 hM, mo_r28 hM, mo_s105 hM, mo_r32 hM, mo_s106 hM, mo_r33 hM, mo_s107 hM, mo_r34 hM, mo_s108 hM, mo_r35 hM, mo_s109 hM, mo_r38 hM, mo_s110 hM, mo_r40 hM, mo_s111 hM, mo_r41 hM, mo_s112 hM, mo_r43 hM, mo_s113 hM, mo_r44 hM, mo_s114 hM, mo_r45 hM, mo_s115 hM, mo_r46 hM, mo_s116 hM, e5]
    unfold F_X11_layRow_L6
    have h0 : zmd f q0 Y0 = zmd f (qRw f R H nd k 0) (fun l => if l < nl then qRx f R H nd k (f 93 l) (f 94 l) (f 92 l) 0 else Y0 l) := by
      congr 1
      funext l
      by_cases hl : l < nl
      · rw [if_pos hl]
        exact hY0' l hl
      · rw [if_neg hl]
    rw [h0]
    refine zfor (fun i => (zwi S (zmd f (qRw f R H nd k i) (fun l => if l < nl then qRx f R H nd k (f 93 l) (f 94 l) (f 92 l) i else Y0 l)), nI i)) it' (fun kc i hi => ?_) (fun kc => hend kc) (by omega)
    obtain ⟨i1, i2, ⟨d, i3, i4⟩, t, i5, i6⟩ := k8 i hi
    have e6 := eM_goAll n (f := f) (w := qRw f R H nd k i) (y := fun l => if l < nl then qRx f R H nd k (f 93 l) (f 94 l) (f 92 l) i else Y0 l) (N := t) (k := qKd f nd (f 99 (6 * k + i))) (m := qMd f nd (f 99 (6 * k + i))) hn hM hR0 hR6.1 hR hH0 hR6.2.2 hR6.2.1 hnl hn8 (hYin i) (by omega)
    have hYe : (fun l => if l < nl then qX (qTick R H (f 86) (qKd f nd (f 99 (6 * k + i))) (qMd f nd (f 99 (6 * k + i)))) R H (qRw f R H nd k i) (f 93 l) (f 94 l) ((fun l => if l < nl then qRx f R H nd k (f 93 l) (f 94 l) (f 92 l) i else Y0 l) l) t else (fun l => if l < nl then qRx f R H nd k (f 93 l) (f 94 l) (f 92 l) i else Y0 l) l) = fun l => if l < nl then qRx f R H nd k (f 93 l) (f 94 l) (f 92 l) (i + 1) else Y0 l := by
      funext l
      by_cases hl : l < nl
      · simp only [if_pos hl]
        rw [qRx_s, i6, n_clamp (by omega)]
        rfl
      · simp only [if_neg hl]
    have hWe : qW (qTick R H (f 86) (qKd f nd (f 99 (6 * k + i))) (qMd f nd (f 99 (6 * k + i)))) (qRw f R H nd k i) t = qRw f R H nd k (i + 1) := by
      rw [qRw_s, i6, n_clamp (by omega)]
      rfl
    rw [hYe, hWe] at e6
    generalize (fun l => if l < nl then qRx f R H nd k (f 93 l) (f 94 l) (f 92 l) i else Y0 l) = Yi at e6 ⊢
    have g1 := eM_itemKind n (f := zmd f (qRw f R H nd k i) Yi) (nd := nd) (j := 6 * k + i) (d := d) hM ((zmd_o (by omega)).trans hdo.2.2.1) hdo.1 (by omega) ((zmd_o (by omega)).trans i4) i3
    have g2 := (q_cg (f := f) (f' := zmd f (qRw f R H nd k i) Yi) (fun a q => by funext j; exact zmd_o (by omega)) R H nd k 0 0 0 0).2.2 (zmd f (qRw f R H nd k i) Yi 99 (6 * k + i))
    rw [g2.1, g2.2, zmd_o (by omega)] at g1
    simp (disch := omega) only [F_X11_layRow_B6, zv, e_gi, e_gr, e_gl, e_si, e_sb, e_ai, e_ar, e_ti, e_ty, e_tz, e_cv, zc_some, zmo_some, zin_T, ↓reduceIte, zit_succ, zzr0, zzr1, true_and, and_true, and_self, or_false, false_or, or_true, true_or, not_true_eq_false, not_false_eq_true, zl0, zl1, zl2, zl3, zl4, zl5, zl6, zl7, zl8, zl9, zl10, zl11, zl12, zl20, zl24, zl31, zl36, zl40, zl42, zl44, zl48, zl49, zl50, zl55, zl57, zl60, zl97, zl99, zl100, zl102, zl104, zl109, zl113, zl114, zl119, zl126, zl255, zl400, zl1000, zl101, zl103, zl1001, zl1002, zl16, zl18, zl32, zl35, zl443, n_leT, n_leF, n_ltT, n_ltF, n_eqT, n_eqF, n_swT, n_swF, nI_add, n_sub, pk_mul, zd_n, mo_s85 hM, mo_r0 hM, mo_s86 hM, mo_r3 hM, mo_s87 hM, mo_r4 hM, mo_s88 hM, mo_r6 hM, mo_s89 hM, mo_r7 hM, mo_s90 hM, mo_r9 hM, mo_s91 hM, mo_r10 hM, mo_s92 hM, mo_r11 hM, mo_s93 hM, mo_r12 hM, mo_s94 hM, mo_r13 hM, mo_s95 hM, mo_r14 hM, mo_s96 hM, mo_r15 hM, mo_s97 hM, mo_r17 hM, mo_s98 hM, mo_r18 hM, mo_s99 hM, mo_r19 hM, mo_s100 hM, mo_r21 hM, mo_s101 hM, mo_r22 hM, mo_s102 hM, mo_r24 hM, mo_s103 hM, mo_r25 hM, mo_s104 hM, mo_r28 hM, mo_s105 hM, mo_r32 hM, mo_s106 hM, mo_r33 hM, mo_s107 hM, mo_r34 hM, mo_s108 hM, mo_r35 hM, mo_s109 hM, mo_r38 hM, mo_s110 hM, mo_r40 hM, mo_s111 hM, mo_r41 hM, mo_s112 hM, mo_r43 hM, mo_s113 hM, mo_r44 hM, mo_s114 hM, mo_r45 hM, mo_s115 hM, mo_r46 hM, mo_s116 hM, z2n, zset_o, zbr_o, zmd_o, k7, g1.1, g1.2, i6, e6]
  · exact fun a j q1 q2 => zmd_o ⟨q1, q2⟩
  · exact fun l hl => by rw [zmd_y (by omega), if_pos hl]
