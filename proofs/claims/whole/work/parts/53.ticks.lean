/-! ===== the class's leaves ===== -/
theorem eX1_hasRing (n : Nat) {S : zH} {f : Nat → Nat → Int32} {c R m : Nat} (hC : zCu S c) (hR : f (c + 1) 0 = nI R) (hR6 : R ≤ 6) (hm : m < 2147483648) : F_X1_hasRing n (zwi S f) c (nI m) = some (if m < R then nI 1 else nI 0, zwi S f) := by
  obtain ⟨c1, c2, c3⟩ := hC
  unfold F_X1_hasRing F_X1_hasRing_J18 F_X1_hasRing_J19
  by_cases h : m < R
  · rw [if_pos h]
    simp (disch := omega) only [zv, e_gi, e_gr, e_gl, e_si, e_sb, e_ai, e_ar, e_ti, e_ty, e_tz, e_cv, zc_some, zmo_some, zin_T, ↓reduceIte, zit_succ, zzr0, zzr1, true_and, and_true, and_self, or_false, false_or, or_true, true_or, not_true_eq_false, not_false_eq_true, zl0, zl1, zl2, zl3, zl4, zl5, zl6, zl7, zl8, zl9, zl10, zl11, zl12, zl20, zl24, zl31, zl36, zl40, zl42, zl44, zl48, zl49, zl50, zl55, zl57, zl60, zl97, zl99, zl100, zl102, zl104, zl109, zl113, zl114, zl119, zl126, zl255, zl400, zl1000, zl101, zl103, zl1001, zl1002, zl16, zl18, zl32, zl35, zl443, n_leT, n_leF, n_ltT, n_ltF, n_eqT, n_eqF, n_swT, n_swF, nI_add, n_sub, pk_mul, zd_n, c1, c2, c3, hR]
  · rw [if_neg h]
    simp (disch := omega) only [zv, e_gi, e_gr, e_gl, e_si, e_sb, e_ai, e_ar, e_ti, e_ty, e_tz, e_cv, zc_some, zmo_some, zin_T, ↓reduceIte, zit_succ, zzr0, zzr1, true_and, and_true, and_self, or_false, false_or, or_true, true_or, not_true_eq_false, not_false_eq_true, zl0, zl1, zl2, zl3, zl4, zl5, zl6, zl7, zl8, zl9, zl10, zl11, zl12, zl20, zl24, zl31, zl36, zl40, zl42, zl44, zl48, zl49, zl50, zl55, zl57, zl60, zl97, zl99, zl100, zl102, zl104, zl109, zl113, zl114, zl119, zl126, zl255, zl400, zl1000, zl101, zl103, zl1001, zl1002, zl16, zl18, zl32, zl35, zl443, n_leT, n_leF, n_ltT, n_ltF, n_eqT, n_eqF, n_swT, n_swF, nI_add, n_sub, pk_mul, zd_n, c1, c2, c3, hR]
theorem eX0_second (n : Nat) {S : zH} {f w : Nat → Nat → Int32} {y : Nat → Int32} {b H r : Nat} (hn : 513 < n) (hB : zBr S b) (hH4 : H ≤ 4) (hH2 : 2 ≤ H) (hr : r < 6) :
    F_X0_secondTurning n (zwi S (zbr f b w y)) b (nI r) (nI H) = some (qSecond H r w, zwi S (zbr f b w y)) := by
  obtain ⟨b1, b2, b3, b4, b5, b6, b7⟩ := hB
  unfold F_X0_secondTurning
  simp (disch := omega) only [zv, e_gi, e_gr, e_gl, e_si, e_sb, e_ai, e_ar, e_ti, e_ty, e_tz, e_cv, zc_some, zmo_some, zin_T, ↓reduceIte, zit_succ, zzr0, zzr1, true_and, and_true, and_self, or_false, false_or, or_true, true_or, not_true_eq_false, not_false_eq_true, zl0, zl1, zl2, zl3, zl4, zl5, zl6, zl7, zl8, zl9, zl10, zl11, zl12, zl20, zl24, zl31, zl36, zl40, zl42, zl44, zl48, zl49, zl50, zl55, zl57, zl60, zl97, zl99, zl100, zl102, zl104, zl109, zl113, zl114, zl119, zl126, zl255, zl400, zl1000, zl101, zl103, zl1001, zl1002, zl16, zl18, zl32, zl35, zl443, n_leT, n_leF, n_ltT, n_ltF, n_eqT, n_eqF, n_swT, n_swF, nI_add, n_sub, pk_mul, zd_n]
  unfold F_X0_secondTurning_L32
  refine zfor (fun i => (zwi S (zbr f b w y), zit (fun i s => s + w r (i + 1) * w r (i + 1)) (nI 0) i, nI (i + 1))) (H - 1) (fun kc i hi => ?_) (fun kc => ?_) (by omega)
  · simp (disch := omega) only [F_X0_secondTurning_B32, zv, e_gi, e_gr, e_gl, e_si, e_sb, e_ai, e_ar, e_ti, e_ty, e_tz, e_cv, zc_some, zmo_some, zin_T, ↓reduceIte, zit_succ, zzr0, zzr1, true_and, and_true, and_self, or_false, false_or, or_true, true_or, not_true_eq_false, not_false_eq_true, zl0, zl1, zl2, zl3, zl4, zl5, zl6, zl7, zl8, zl9, zl10, zl11, zl12, zl20, zl24, zl31, zl36, zl40, zl42, zl44, zl48, zl49, zl50, zl55, zl57, zl60, zl97, zl99, zl100, zl102, zl104, zl109, zl113, zl114, zl119, zl126, zl255, zl400, zl1000, zl101, zl103, zl1001, zl1002, zl16, zl18, zl32, zl35, zl443, n_leT, n_leF, n_ltT, n_ltF, n_eqT, n_eqF, n_swT, n_swF, nI_add, n_sub, pk_mul, zd_n, zbr_o, zbr_w, zbr_y, zbr_2w, zbr_2y, b1, b2, b3, b4, b5, b6, b7]
  · simp (disch := omega) only [F_X0_secondTurning_B32, zv, e_gi, e_gr, e_gl, e_si, e_sb, e_ai, e_ar, e_ti, e_ty, e_tz, e_cv, zc_some, zmo_some, zin_T, ↓reduceIte, zit_succ, zzr0, zzr1, true_and, and_true, and_self, or_false, false_or, or_true, true_or, not_true_eq_false, not_false_eq_true, zl0, zl1, zl2, zl3, zl4, zl5, zl6, zl7, zl8, zl9, zl10, zl11, zl12, zl20, zl24, zl31, zl36, zl40, zl42, zl44, zl48, zl49, zl50, zl55, zl57, zl60, zl97, zl99, zl100, zl102, zl104, zl109, zl113, zl114, zl119, zl126, zl255, zl400, zl1000, zl101, zl103, zl1001, zl1002, zl16, zl18, zl32, zl35, zl443, n_leT, n_leF, n_ltT, n_ltF, n_eqT, n_eqF, n_swT, n_swF, nI_add, n_sub, pk_mul, zd_n, zbr_o, zbr_w, zbr_y, zbr_2w, zbr_2y, b1, b2, b3, b4, b5, b6, b7]
    rfl
theorem n_clamp {n : Nat} (h : n < 2147483648) : (nI n).toNatClampNeg = n := nI_clamp h
theorem eX0_pullOf (n : Nat) {S : zH} {f w : Nat → Nat → Int32} {y : Nat → Int32} {b c v z H R l m : Nat} (hn : 513 < n) (hB : zBr S b) (hC : zCu S c) (hV : zLvs S v z) (hcb : c + 1 < b) (hvb : v + 4 < b) (hR : f (c + 1) 0 = nI R) (hR6 : R ≤ 6) (hH : f (c + 1) 1 = nI H) (hH4 : H ≤ 4) (hH2 : 2 ≤ H) (hz : z ≤ 10) (hl : l < z) (hm : y l = nI m) (hmR : m < R) :
    F_X0_pullOf n (zwi S (zbr f b w y)) b c v (nI l) = some (qPull H w m (f (v + 2) l), zwi S (zbr f b w y)) := by
  have hB' := hB
  obtain ⟨b1, b2, b3, b4, b5, b6, b7⟩ := hB
  obtain ⟨v1, v2, v3, v4, v5, v6, v7, v8, v9⟩ := hV
  have e1 := eX1_hasRing n (f := zbr f b w y) (m := m) hC ((zbr_o (by omega)).trans hR) hR6 (by omega)
  have e2 := eX0_second n (f := f) (w := w) (y := y) (r := m) hn hB' hH4 hH2 (by omega)
  unfold F_X0_pullOf qPull
  simp (disch := omega) only [zv, e_gi, e_gr, e_gl, e_si, e_sb, e_ai, e_ar, e_ti, e_ty, e_tz, e_cv, zc_some, zmo_some, zin_T, ↓reduceIte, zit_succ, zzr0, zzr1, true_and, and_true, and_self, or_false, false_or, or_true, true_or, not_true_eq_false, not_false_eq_true, zl0, zl1, zl2, zl3, zl4, zl5, zl6, zl7, zl8, zl9, zl10, zl11, zl12, zl20, zl24, zl31, zl36, zl40, zl42, zl44, zl48, zl49, zl50, zl55, zl57, zl60, zl97, zl99, zl100, zl102, zl104, zl109, zl113, zl114, zl119, zl126, zl255, zl400, zl1000, zl101, zl103, zl1001, zl1002, zl16, zl18, zl32, zl35, zl443, n_leT, n_leF, n_ltT, n_ltF, n_eqT, n_eqF, n_swT, n_swF, nI_add, n_sub, pk_mul, zd_n, hC.1, hR, hH, zbr_o, zbr_w, zbr_y, zbr_2w, zbr_2y, b1, b2, b3, b4, b5, b6, b7, hm, e1, eX1_heights n hC, e2, hmR, v1, v3, v7]
theorem qcl_step {G y : Nat → Int32} {i : Nat} {v : Int32} (h : v = G i) : z1 (fun l => if l < i then G l else y l) i v = fun l => if l < i + 1 then G l else y l := by
  funext l
  unfold z1
  dsimp only
  by_cases h1 : l = i
  · subst h1
    rw [if_pos rfl, if_pos (by omega), h]
  · by_cases h2 : l < i
    · rw [if_neg h1, if_pos h2, if_pos (by omega)]
    · rw [if_neg h1, if_neg h2, if_neg (by omega)]
theorem qcl_stay {G y : Nat → Int32} {i : Nat} (h : y i = G i) : (fun l => if l < i then G l else y l) = fun l => if l < i + 1 then G l else y l := by
  funext l
  by_cases h1 : l = i
  · subst h1
    rw [if_neg (by omega), if_pos (by omega), h]
  · by_cases h2 : l < i
    · rw [if_pos h2, if_pos (by omega)]
    · rw [if_neg h2, if_neg (by omega)]
theorem qcl_0 {G y : Nat → Int32} : (fun l => if l < 0 then G l else y l) = y := by
  funext l
  exact if_neg (Nat.not_lt_zero l)
theorem n_inj {a b : Nat} (ha : a < 2147483648) (hb : b < 2147483648) (h : nI a = nI b) : a = b := (nI_eq ha hb).mp h
/-- a leaf stays in the cup -/
theorem qGoes_in {R H m : Nat} {w : Nat → Nat → Int32} {wt st : Int32} (hm : m < R) (hR : R ≤ 6) : ∃ m', m' < R ∧ qGoes R H w (nI m) wt st = nI m' := by
  unfold qGoes
  by_cases h1 : qPull H w (nI m).toNatClampNeg wt ≤ st ∨ nI m ≤ nI 0
  · rw [if_pos h1]
    by_cases h2 : -st ≤ qPull H w (nI m).toNatClampNeg wt ∨ nI R - nI 1 ≤ nI m
    · rw [if_pos h2]
      exact ⟨m, hm, rfl⟩
    · rw [if_neg h2]
      refine ⟨m + 1, ?_, nI_add m 1⟩
      rcases Nat.lt_or_ge (m + 1) R with h3 | h3
      · exact h3
      · exact absurd (Or.inr (by rw [n_sub (by omega)]; exact nI_le (by omega) (by omega))) h2
  · rw [if_neg h1]
    have h3 : ¬ m ≤ 0 := fun q => h1 (Or.inr (nI_le q (by omega)))
    exact ⟨m - 1, by omega, n_sub (by omega)⟩
theorem eX0_pullAll (n : Nat) {S : zH} {f w : Nat → Nat → Int32} {y : Nat → Int32} {b c v z H R nl : Nat} (hn : 513 < n) (hB : zBr S b) (hC : zCu S c) (hV : zLvs S v z) (hcb : c + 1 < b) (hvb : v + 4 < b) (hR : f (c + 1) 0 = nI R) (hR6 : R ≤ 6) (hH : f (c + 1) 1 = nI H) (hH4 : H ≤ 4) (hH2 : 2 ≤ H) (hz : z ≤ 10) (hnl : f v 4 = nI nl) (hnz : nl ≤ z) (hy : ∀ l, l < nl → ∃ m, m < R ∧ y l = nI m) :
    F_X0_pullAll n (zwi S (zbr f b w y)) b c v = some ((), zwi S (zbr f b w (fun l => if l < nl then qGoes R H w (y l) (f (v + 2) l) (f (v + 3) l) else y l))) := by
  have hB' := hB
  have hV' := hV
  obtain ⟨b1, b2, b3, b4, b5, b6, b7⟩ := hB
  obtain ⟨v1, v2, v3, v4, v5, v6, v7, v8, v9⟩ := hV
  unfold F_X0_pullAll F_X0_pullAll_L2
  conv => lhs; rw [← qcl_0 (G := fun l => qGoes R H w (y l) (f (v + 2) l) (f (v + 3) l)) (y := y)]
  refine zfor (fun i => (zwi S (zbr f b w (fun l => if l < i then qGoes R H w (y l) (f (v + 2) l) (f (v + 3) l) else y l)), nI i)) nl (fun kc i hi => ?_) (fun kc => ?_) (by omega)
  · obtain ⟨m, hm, hym⟩ := hy i hi
    have hyi : (fun l => if l < i then qGoes R H w (y l) (f (v + 2) l) (f (v + 3) l) else y l) i = nI m := (if_neg (Nat.lt_irrefl i)).trans hym
    have e1 := eX0_pullOf n (w := w) (y := fun l => if l < i then qGoes R H w (y l) (f (v + 2) l) (f (v + 3) l) else y l) (l := i) hn hB' hC hV' hcb hvb hR hR6 hH hH4 hH2 hz (by omega) hyi hm
    generalize hY : (fun l => if l < i then qGoes R H w (y l) (f (v + 2) l) (f (v + 3) l) else y l) = Y at e1 hyi
    have hg : qGoes R H w (y i) (f (v + 2) i) (f (v + 3) i) = if qPull H w m (f (v + 2) i) ≤ f (v + 3) i ∨ nI m ≤ nI 0 then (if -f (v + 3) i ≤ qPull H w m (f (v + 2) i) ∨ nI R - nI 1 ≤ nI m then nI m else nI m + nI 1) else nI m - nI 1 := by
      rw [hym]
      unfold qGoes
      rw [n_clamp (by omega)]
    have hst : ∀ v', v' = qGoes R H w (y i) (f (v + 2) i) (f (v + 3) i) → z1 Y i v' = fun l => if l < i + 1 then qGoes R H w (y l) (f (v + 2) l) (f (v + 3) l) else y l := fun v' h => by
      rw [← hY]
      exact qcl_step (G := fun l => qGoes R H w (y l) (f (v + 2) l) (f (v + 3) l)) h
    have hsy : y i = qGoes R H w (y i) (f (v + 2) i) (f (v + 3) i) → Y = fun l => if l < i + 1 then qGoes R H w (y l) (f (v + 2) l) (f (v + 3) l) else y l := fun h => by
      rw [← hY]
      exact qcl_stay (G := fun l => qGoes R H w (y l) (f (v + 2) l) (f (v + 3) l)) h
    by_cases hA : qPull H w m (f (v + 2) i) ≤ f (v + 3) i
    · by_cases hC' : -f (v + 3) i ≤ qPull H w m (f (v + 2) i)
      · rw [if_pos (Or.inl hA), if_pos (Or.inl hC')] at hg
        rw [← hsy (by rw [hg, hym])]
        simp (disch := omega) only [F_X0_pullAll_B2, F_X0_pullAll_J52, F_X0_pullAll_J89, zv, e_gi, e_gr, e_gl, e_si, e_sb, e_ai, e_ar, e_ti, e_ty, e_tz, e_cv, zc_some, zmo_some, zin_T, ↓reduceIte, zit_succ, zzr0, zzr1, true_and, and_true, and_self, or_false, false_or, or_true, true_or, not_true_eq_false, not_false_eq_true, zl0, zl1, zl2, zl3, zl4, zl5, zl6, zl7, zl8, zl9, zl10, zl11, zl12, zl20, zl24, zl31, zl36, zl40, zl42, zl44, zl48, zl49, zl50, zl55, zl57, zl60, zl97, zl99, zl100, zl102, zl104, zl109, zl113, zl114, zl119, zl126, zl255, zl400, zl1000, zl101, zl103, zl1001, zl1002, zl16, zl18, zl32, zl35, zl443, n_leT, n_leF, n_ltT, n_ltF, n_eqT, n_eqF, n_swT, n_swF, nI_add, n_sub, pk_mul, zd_n, e1, hC.1, hR, hnl, zbr_o, zbr_w, zbr_y, zbr_2w, zbr_2y, b1, b2, b3, b4, b5, b6, b7, v1, v3, v4, v8, hA, hC', hyi]
      · by_cases hD : R - 1 ≤ m
        · rw [if_pos (Or.inl hA), if_pos (Or.inr (by rw [n_sub (by omega)]; exact nI_le hD (by omega)))] at hg
          rw [← hsy (by rw [hg, hym])]
          simp (disch := omega) only [F_X0_pullAll_B2, F_X0_pullAll_J52, F_X0_pullAll_J89, zv, e_gi, e_gr, e_gl, e_si, e_sb, e_ai, e_ar, e_ti, e_ty, e_tz, e_cv, zc_some, zmo_some, zin_T, ↓reduceIte, zit_succ, zzr0, zzr1, true_and, and_true, and_self, or_false, false_or, or_true, true_or, not_true_eq_false, not_false_eq_true, zl0, zl1, zl2, zl3, zl4, zl5, zl6, zl7, zl8, zl9, zl10, zl11, zl12, zl20, zl24, zl31, zl36, zl40, zl42, zl44, zl48, zl49, zl50, zl55, zl57, zl60, zl97, zl99, zl100, zl102, zl104, zl109, zl113, zl114, zl119, zl126, zl255, zl400, zl1000, zl101, zl103, zl1001, zl1002, zl16, zl18, zl32, zl35, zl443, n_leT, n_leF, n_ltT, n_ltF, n_eqT, n_eqF, n_swT, n_swF, nI_add, n_sub, pk_mul, zd_n, e1, eX1_rings n hC, hC.1, hR, hnl, zbr_o, zbr_w, zbr_y, zbr_2w, zbr_2y, b1, b2, b3, b4, b5, b6, b7, v1, v3, v4, v8, hA, hC', hyi]
        · rw [if_pos (Or.inl hA), if_neg (by rw [n_sub (by omega)]; exact fun q => q.elim hC' (nI_ge (by omega) (by omega)))] at hg
          rw [← hst _ hg.symm]
          simp (disch := omega) only [F_X0_pullAll_B2, F_X0_pullAll_J52, F_X0_pullAll_J89, zv, e_gi, e_gr, e_gl, e_si, e_sb, e_ai, e_ar, e_ti, e_ty, e_tz, e_cv, zc_some, zmo_some, zin_T, ↓reduceIte, zit_succ, zzr0, zzr1, true_and, and_true, and_self, or_false, false_or, or_true, true_or, not_true_eq_false, not_false_eq_true, zl0, zl1, zl2, zl3, zl4, zl5, zl6, zl7, zl8, zl9, zl10, zl11, zl12, zl20, zl24, zl31, zl36, zl40, zl42, zl44, zl48, zl49, zl50, zl55, zl57, zl60, zl97, zl99, zl100, zl102, zl104, zl109, zl113, zl114, zl119, zl126, zl255, zl400, zl1000, zl101, zl103, zl1001, zl1002, zl16, zl18, zl32, zl35, zl443, n_leT, n_leF, n_ltT, n_ltF, n_eqT, n_eqF, n_swT, n_swF, nI_add, n_sub, pk_mul, zd_n, e1, eX1_rings n hC, hC.1, hR, hnl, zbr_o, zbr_w, zbr_y, zbr_2w, zbr_2y, b1, b2, b3, b4, b5, b6, b7, v1, v3, v4, v8, hA, hC', hyi]
    · by_cases hB0 : m ≤ 0
      · by_cases hC' : -f (v + 3) i ≤ qPull H w m (f (v + 2) i)
        · rw [if_pos (Or.inr (nI_le hB0 (by omega))), if_pos (Or.inl hC')] at hg
          rw [← hsy (by rw [hg, hym])]
          simp (disch := omega) only [F_X0_pullAll_B2, F_X0_pullAll_J52, F_X0_pullAll_J89, zv, e_gi, e_gr, e_gl, e_si, e_sb, e_ai, e_ar, e_ti, e_ty, e_tz, e_cv, zc_some, zmo_some, zin_T, ↓reduceIte, zit_succ, zzr0, zzr1, true_and, and_true, and_self, or_false, false_or, or_true, true_or, not_true_eq_false, not_false_eq_true, zl0, zl1, zl2, zl3, zl4, zl5, zl6, zl7, zl8, zl9, zl10, zl11, zl12, zl20, zl24, zl31, zl36, zl40, zl42, zl44, zl48, zl49, zl50, zl55, zl57, zl60, zl97, zl99, zl100, zl102, zl104, zl109, zl113, zl114, zl119, zl126, zl255, zl400, zl1000, zl101, zl103, zl1001, zl1002, zl16, zl18, zl32, zl35, zl443, n_leT, n_leF, n_ltT, n_ltF, n_eqT, n_eqF, n_swT, n_swF, nI_add, n_sub, pk_mul, zd_n, e1, hC.1, hR, hnl, zbr_o, zbr_w, zbr_y, zbr_2w, zbr_2y, b1, b2, b3, b4, b5, b6, b7, v1, v3, v4, v8, hA, hC', hyi]
        · by_cases hD : R - 1 ≤ m
          · rw [if_pos (Or.inr (nI_le hB0 (by omega))), if_pos (Or.inr (by rw [n_sub (by omega)]; exact nI_le hD (by omega)))] at hg
            rw [← hsy (by rw [hg, hym])]
            simp (disch := omega) only [F_X0_pullAll_B2, F_X0_pullAll_J52, F_X0_pullAll_J89, zv, e_gi, e_gr, e_gl, e_si, e_sb, e_ai, e_ar, e_ti, e_ty, e_tz, e_cv, zc_some, zmo_some, zin_T, ↓reduceIte, zit_succ, zzr0, zzr1, true_and, and_true, and_self, or_false, false_or, or_true, true_or, not_true_eq_false, not_false_eq_true, zl0, zl1, zl2, zl3, zl4, zl5, zl6, zl7, zl8, zl9, zl10, zl11, zl12, zl20, zl24, zl31, zl36, zl40, zl42, zl44, zl48, zl49, zl50, zl55, zl57, zl60, zl97, zl99, zl100, zl102, zl104, zl109, zl113, zl114, zl119, zl126, zl255, zl400, zl1000, zl101, zl103, zl1001, zl1002, zl16, zl18, zl32, zl35, zl443, n_leT, n_leF, n_ltT, n_ltF, n_eqT, n_eqF, n_swT, n_swF, nI_add, n_sub, pk_mul, zd_n, e1, eX1_rings n hC, hC.1, hR, hnl, zbr_o, zbr_w, zbr_y, zbr_2w, zbr_2y, b1, b2, b3, b4, b5, b6, b7, v1, v3, v4, v8, hA, hC', hyi]
          · rw [if_pos (Or.inr (nI_le hB0 (by omega))), if_neg (by rw [n_sub (by omega)]; exact fun q => q.elim hC' (nI_ge (by omega) (by omega)))] at hg
            rw [← hst _ hg.symm]
            simp (disch := omega) only [F_X0_pullAll_B2, F_X0_pullAll_J52, F_X0_pullAll_J89, zv, e_gi, e_gr, e_gl, e_si, e_sb, e_ai, e_ar, e_ti, e_ty, e_tz, e_cv, zc_some, zmo_some, zin_T, ↓reduceIte, zit_succ, zzr0, zzr1, true_and, and_true, and_self, or_false, false_or, or_true, true_or, not_true_eq_false, not_false_eq_true, zl0, zl1, zl2, zl3, zl4, zl5, zl6, zl7, zl8, zl9, zl10, zl11, zl12, zl20, zl24, zl31, zl36, zl40, zl42, zl44, zl48, zl49, zl50, zl55, zl57, zl60, zl97, zl99, zl100, zl102, zl104, zl109, zl113, zl114, zl119, zl126, zl255, zl400, zl1000, zl101, zl103, zl1001, zl1002, zl16, zl18, zl32, zl35, zl443, n_leT, n_leF, n_ltT, n_ltF, n_eqT, n_eqF, n_swT, n_swF, nI_add, n_sub, pk_mul, zd_n, e1, eX1_rings n hC, hC.1, hR, hnl, zbr_o, zbr_w, zbr_y, zbr_2w, zbr_2y, b1, b2, b3, b4, b5, b6, b7, v1, v3, v4, v8, hA, hC', hyi]
      · rw [if_neg (fun q => q.elim hA (nI_ge (by omega) (by omega)))] at hg
        rw [← hst _ hg.symm]
        simp (disch := omega) only [F_X0_pullAll_B2, F_X0_pullAll_J52, F_X0_pullAll_J89, zv, e_gi, e_gr, e_gl, e_si, e_sb, e_ai, e_ar, e_ti, e_ty, e_tz, e_cv, zc_some, zmo_some, zin_T, ↓reduceIte, zit_succ, zzr0, zzr1, true_and, and_true, and_self, or_false, false_or, or_true, true_or, not_true_eq_false, not_false_eq_true, zl0, zl1, zl2, zl3, zl4, zl5, zl6, zl7, zl8, zl9, zl10, zl11, zl12, zl20, zl24, zl31, zl36, zl40, zl42, zl44, zl48, zl49, zl50, zl55, zl57, zl60, zl97, zl99, zl100, zl102, zl104, zl109, zl113, zl114, zl119, zl126, zl255, zl400, zl1000, zl101, zl103, zl1001, zl1002, zl16, zl18, zl32, zl35, zl443, n_leT, n_leF, n_ltT, n_ltF, n_eqT, n_eqF, n_swT, n_swF, nI_add, n_sub, pk_mul, zd_n, e1, eX1_rings n hC, hC.1, hR, hnl, zbr_o, zbr_w, zbr_y, zbr_2w, zbr_2y, b1, b2, b3, b4, b5, b6, b7, v1, v3, v4, v8, hA, hyi]
  · simp (disch := omega) only [F_X0_pullAll_B2, zv, e_gi, e_gr, e_gl, e_si, e_sb, e_ai, e_ar, e_ti, e_ty, e_tz, e_cv, zc_some, zmo_some, zin_T, ↓reduceIte, zit_succ, zzr0, zzr1, true_and, and_true, and_self, or_false, false_or, or_true, true_or, not_true_eq_false, not_false_eq_true, zl0, zl1, zl2, zl3, zl4, zl5, zl6, zl7, zl8, zl9, zl10, zl11, zl12, zl20, zl24, zl31, zl36, zl40, zl42, zl44, zl48, zl49, zl50, zl55, zl57, zl60, zl97, zl99, zl100, zl102, zl104, zl109, zl113, zl114, zl119, zl126, zl255, zl400, zl1000, zl101, zl103, zl1001, zl1002, zl16, zl18, zl32, zl35, zl443, n_leT, n_leF, n_ltT, n_ltF, n_eqT, n_eqF, n_swT, n_swF, nI_add, n_sub, pk_mul, zd_n, hnl, zbr_o, zbr_w, zbr_y, zbr_2w, zbr_2y, b1, b2, b3, b4, b5, b6, b7, v1]
/-! ===== so many ticks ===== -/
def qW (T : (Nat → Nat → Int32) → Nat → Nat → Int32) (w : Nat → Nat → Int32) (t : Nat) : Nat → Nat → Int32 := zit (fun _ w => T w) w t
def qX (T : (Nat → Nat → Int32) → Nat → Nat → Int32) (R H : Nat) (w : Nat → Nat → Int32) (wt st x : Int32) (t : Nat) : Int32 := zit (fun i x => qGoes R H (qW T w (i + 1)) x wt st) x t
theorem qW_s (T : (Nat → Nat → Int32) → Nat → Nat → Int32) (w : Nat → Nat → Int32) (t : Nat) : qW T w (t + 1) = T (qW T w t) := rfl
theorem qX_s (T : (Nat → Nat → Int32) → Nat → Nat → Int32) (R H : Nat) (w : Nat → Nat → Int32) (wt st x : Int32) (t : Nat) : qX T R H w wt st x (t + 1) = qGoes R H (qW T w (t + 1)) (qX T R H w wt st x t) wt st := rfl
theorem qX_in {T : (Nat → Nat → Int32) → Nat → Nat → Int32} {R H m : Nat} {w : Nat → Nat → Int32} {wt st : Int32} (hm : m < R) (hR : R ≤ 6) : ∀ t, ∃ m', m' < R ∧ qX T R H w wt st (nI m) t = nI m'
  | 0 => ⟨m, hm, rfl⟩
  | t + 1 => by
    obtain ⟨m', h1, h2⟩ := qX_in (T := T) (H := H) (w := w) (wt := wt) (st := st) hm hR t
    rw [qX_s, h2]
    exact qGoes_in h1 hR
theorem eX0_doTicks (n : Nat) {S : zH} {f w : Nat → Nat → Int32} {y : Nat → Int32} {b c v d z H R nl u N : Nat} (hn : 513 < n) (hB : zBr S b) (hC : zCu S c) (hV : zLvs S v z) (hcb : c + 1 < b) (hvb : v + 4 < b) (hd : zsh S d = some (2, 2)) (hdb : d < b ∨ b + 8 < d) (hR : f (c + 1) 0 = nI R) (hR6 : R ≤ 6) (hR1 : 1 ≤ R) (hH : f (c + 1) 1 = nI H) (hH4 : H ≤ 4) (hH2 : 2 ≤ H) (hu : f (c + 1) 3 = nI u) (hu9 : u ≤ 9) (hz : z ≤ 10) (hnl : f v 4 = nI nl) (hnz : nl ≤ z) (hy : ∀ l, l < nl → ∃ m, m < R ∧ y l = nI m) (hN : N ≤ 100)
    (hw : ∀ t, t < N → qFix R H (qW (qTick R H (f (c + 1)) (f d 0) (f d 1)) w t)) :
    F_X0_doTicks n (zwi S (zbr f b w y)) b c v d (nI N) = some ((), zwi S (zbr f b (qW (qTick R H (f (c + 1)) (f d 0) (f d 1)) w N) (fun l => if l < nl then qX (qTick R H (f (c + 1)) (f d 0) (f d 1)) R H w (f (v + 2) l) (f (v + 3) l) (y l) N else y l))) := by
  unfold F_X0_doTicks F_X0_doTicks_L3
  have h0 : y = fun l => if l < nl then qX (qTick R H (f (c + 1)) (f d 0) (f d 1)) R H w (f (v + 2) l) (f (v + 3) l) (y l) 0 else y l := by
    funext l
    by_cases hl : l < nl
    · rw [if_pos hl]; rfl
    · rw [if_neg hl]
  conv => lhs; rw [h0]
  refine zfor (fun t => (zwi S (zbr f b (qW (qTick R H (f (c + 1)) (f d 0) (f d 1)) w t) (fun l => if l < nl then qX (qTick R H (f (c + 1)) (f d 0) (f d 1)) R H w (f (v + 2) l) (f (v + 3) l) (y l) t else y l)), nI t)) N (fun kc t ht => ?_) (fun kc => ?_) (by omega)
  · have hw1 := hw t ht
    rw [qW_s]
    generalize hWt : qW (qTick R H (f (c + 1)) (f d 0) (f d 1)) w t = Wt at hw1
    have hY : ∀ l, l < nl → ∃ m, m < R ∧ (fun l => if l < nl then qX (qTick R H (f (c + 1)) (f d 0) (f d 1)) R H w (f (v + 2) l) (f (v + 3) l) (y l) t else y l) l = nI m := fun l hl => by
      obtain ⟨m, h1, h2⟩ := hy l hl
      dsimp only
      rw [if_pos hl, h2]
      exact qX_in h1 hR6 t
    have hn1 : (fun l => if l < nl then qX (qTick R H (f (c + 1)) (f d 0) (f d 1)) R H w (f (v + 2) l) (f (v + 3) l) (y l) (t + 1) else y l) = fun l => if l < nl then qGoes R H (qTick R H (f (c + 1)) (f d 0) (f d 1) Wt) ((fun l => if l < nl then qX (qTick R H (f (c + 1)) (f d 0) (f d 1)) R H w (f (v + 2) l) (f (v + 3) l) (y l) t else y l) l) (f (v + 2) l) (f (v + 3) l) else (fun l => if l < nl then qX (qTick R H (f (c + 1)) (f d 0) (f d 1)) R H w (f (v + 2) l) (f (v + 3) l) (y l) t else y l) l := by
      funext l
      by_cases hl : l < nl
      · simp only [if_pos hl]
        rw [qX_s, qW_s, hWt]
      · simp only [if_neg hl]
    rw [hn1]
    generalize (fun l => if l < nl then qX (qTick R H (f (c + 1)) (f d 0) (f d 1)) R H w (f (v + 2) l) (f (v + 3) l) (y l) t else y l) = Y at hY
    have e1 := eX0_move n (w := Wt) (y := Y) hn hB hC hcb hd hdb hR hR6 hH hH4 (by omega) hw1
    have e2 : ∀ w', F_X2_base n (zwi S (zbr f b w' Y)) d = some (qBase (f d 0) (f d 1), zwi S (zbr f b w' Y)) := fun w' => by
      rw [eX2_base n hd, zbr_o (by omega), zbr_o (by omega)]
    have e3 : ∀ w' ba, F_X0_slow n (zwi S (zbr f b w' Y)) b c ba = _ := fun w' ba => eX0_slow n (w := w') (y := Y) hn hB hC hcb hR hR6 hR1 hH hH4 hu hu9
    have e4 : ∀ w', F_X0_blend n (zwi S (zbr f b w' Y)) b c = _ := fun w' => eX0_blend n (w := w') (y := Y) hn hB hC hcb hR hR6 hH hH4 (by omega)
    have e5 : ∀ w', F_X0_pullAll n (zwi S (zbr f b w' Y)) b c v = _ := fun w' => eX0_pullAll n (w := w') (y := Y) hn hB hC hV hcb hvb hR hR6 hH hH4 hH2 hz hnl hnz hY
    simp (disch := omega) only [F_X0_doTicks_B3, zv, e_gi, e_gr, e_gl, e_si, e_sb, e_ai, e_ar, e_ti, e_ty, e_tz, e_cv, zc_some, zmo_some, zin_T, ↓reduceIte, zit_succ, zzr0, zzr1, true_and, and_true, and_self, or_false, false_or, or_true, true_or, not_true_eq_false, not_false_eq_true, zl0, zl1, zl2, zl3, zl4, zl5, zl6, zl7, zl8, zl9, zl10, zl11, zl12, zl20, zl24, zl31, zl36, zl40, zl42, zl44, zl48, zl49, zl50, zl55, zl57, zl60, zl97, zl99, zl100, zl102, zl104, zl109, zl113, zl114, zl119, zl126, zl255, zl400, zl1000, zl101, zl103, zl1001, zl1002, zl16, zl18, zl32, zl35, zl443, n_leT, n_leF, n_ltT, n_ltF, n_eqT, n_eqF, n_swT, n_swF, nI_add, n_sub, pk_mul, zd_n, hB.1, hd, e1, e2, e3, e4, e5]
    rfl
  · simp (disch := omega) only [F_X0_doTicks_B3, zv, e_gi, e_gr, e_gl, e_si, e_sb, e_ai, e_ar, e_ti, e_ty, e_tz, e_cv, zc_some, zmo_some, zin_T, ↓reduceIte, zit_succ, zzr0, zzr1, true_and, and_true, and_self, or_false, false_or, or_true, true_or, not_true_eq_false, not_false_eq_true, zl0, zl1, zl2, zl3, zl4, zl5, zl6, zl7, zl8, zl9, zl10, zl11, zl12, zl20, zl24, zl31, zl36, zl40, zl42, zl44, zl48, zl49, zl50, zl55, zl57, zl60, zl97, zl99, zl100, zl102, zl104, zl109, zl113, zl114, zl119, zl126, zl255, zl400, zl1000, zl101, zl103, zl1001, zl1002, zl16, zl18, zl32, zl35, zl443, n_leT, n_leF, n_ltT, n_ltF, n_eqT, n_eqF, n_swT, n_swF, nI_add, n_sub, pk_mul, zd_n]
