theorem zs268435456 : (268435456 : Int32) = nI 268435456 := rfl
theorem zs400 : (400 : Int32) = nI 400 := rfl
theorem qCs_0 (off : Nat → Int32) : qCs off 0 = (nI 0, nI 0, nI 1000000) := if_pos rfl
theorem qMs_0 (off : Nat → Int32) : qMs off 0 = (nI 0, nI 268435456) := if_pos rfl
theorem qCs_p (off : Nat → Int32) {i : Nat} (h : i ≠ 0) : qCs off i = (nI ((qBe off (i - 1)).1 / 20 + 1), nI ((qBe off (i - 1)).1 % 20 + 1), (qBe off (i - 1)).2) := if_neg h
theorem qMs_p (off : Nat → Int32) {i : Nat} (h : i ≠ 0) : qMs off i = (nI (qBe off (i - 1)).1, (qBe off (i - 1)).2) := if_neg h
/-- the rounds of the class -/
theorem eC_fIn (n : Nat) {S S2 : zH} {f F2 : Nat → Nat → Int32} {g c c' r r' tr pl nd R H cu nl nr np pt fi v d : Nat} {da ra : Nat → Nat} {off : Nat → Int32} {C : Nat → Int32 × Int32 × Int32} {x0 : Int32} (hn : 513 < n) (hI : zI S f g c c' r r' tr pl nd da R H cu nl nr ra np pt fi) (hE : zExt S S2) (hR : 1 ≤ R) (hd : zsh S2 d = some (2, 2)) (hdz : zsz S ≤ d) (hv : v < 20)
    (hof : ∀ (F : Nat → Nat → Int32) (v m : Nat), m < 20 → (∀ b j, b = 86 ∨ (91 ≤ b ∧ b ≤ 97 ∧ b ≠ 96) → F b j = f b j) → qO (qSt F R H (v + 1) (m + 1)) (F 97) R nl = off (20 * v + m))
    (hC : ∀ i, C (i + 1) = if (C i).2.2 ≤ off i then C i else (nI (i / 20 + 1), nI (i % 20 + 1), off i))
    (f2a : F2 d 0 = nI 1) (f2b : F2 d 1 = nI (v + 1)) (f2c : ∀ b j, b < zsz S → (b < 44 ∨ 50 < b) → F2 b j = z2 f 0 18 (nI (fi + 1)) b j) :
    ∃ F', (∀ k, F_X10_found_L77 n k v (zwi S2 F2) 0 x0 (C (20 * v)).1 (C (20 * v)).2.1 (C (20 * v)).2.2 (nI (v + 1)) d (nI 1) = k (zwi S2 F', (C (20 * v + 20)).1, (C (20 * v + 20)).2.1, (C (20 * v + 20)).2.2, nI (v + 1 + 1), v + 1)) ∧ ∀ b j, b < zsz S → (b < 44 ∨ 50 < b) → F' b j = z2 f 0 18 (nI (fi + 1)) b j := by
  have hzz := cl_zz hI.1
  have h90 : zsh S2 0 = some (9, 20) := (hE.1 0 (by omega)).trans (cl_s0 hI.1)
  have key : ∃ y, (∃ F', y = (zwi S2 F', (C (20 * v + 20)).1, (C (20 * v + 20)).2.1, (C (20 * v + 20)).2.2, nI (v + 1 + 1), v + 1) ∧ ∀ b j, b < zsz S → (b < 44 ∨ 50 < b) → F' b j = z2 f 0 18 (nI (fi + 1)) b j) ∧ ∀ k, F_X10_found_L77 n k v (zwi S2 F2) 0 x0 (C (20 * v)).1 (C (20 * v)).2.1 (C (20 * v)).2.2 (nI (v + 1)) d (nI 1) = k y := by
    unfold F_X10_found_L77
    refine zforK2 (body := fun k kc x => F_X10_found_B77 n k kc v x.1 0 x0 x.2.1 x.2.2.1 x.2.2.2.1 (nI (v + 1)) d x.2.2.2.2) (fun m x => ∃ F', x = (zwi S2 F', (C (20 * v + m)).1, (C (20 * v + m)).2.1, (C (20 * v + m)).2.2, nI (m + 1)) ∧ F' d 0 = nI 1 ∧ F' d 1 = nI (v + 1) ∧ ∀ b j, b < zsz S → (b < 44 ∨ 50 < b) → F' b j = z2 f 0 18 (nI (fi + 1)) b j) 20 (fun m x hm hx => ?_) (fun x hx => ?_) (by omega) ⟨F2, rfl, f2a, f2b, f2c⟩
    · obtain ⟨F', rfl, g1, g2, g3⟩ := hx
      have hJ := zI0_ext hI hE (f' := F') (fun b j q1 q2 q3 q4 => by
        unfold zScr at q2
        rw [g3 b j q1 (by omega)]
        exact z2n (by omega))
      obtain ⟨F3, t1, t2⟩ := eC_stir n (dd := d) (v := v + 1) (many := m + 1) hn hJ hR hd (by omega) g1 g2 (by omega)
      rw [hof F' v m hm (fun b j q => by rw [g3 b j (by omega) (by omega)]; exact z2n (by omega))] at t1
      refine ⟨(zwi S2 F3, (C (20 * v + (m + 1))).1, (C (20 * v + (m + 1))).2.1, (C (20 * v + (m + 1))).2.2, nI (m + 1 + 1)), ⟨F3, rfl, (t2 _ _ (by omega)).trans g1, (t2 _ _ (by omega)).trans g2, fun b j q1 q2 => (t2 b j q2).trans (g3 b j q1 q2)⟩, fun k kc => ?_⟩
      have hlt : ¬ (20 : Int32) < nI (m + 1) := show ¬ nI 20 < nI (m + 1) from nI_nlt (by omega) (by omega)
      have e1 := hC (20 * v + m)
      rw [show (20 * v + m) / 20 + 1 = v + 1 by omega, show (20 * v + m) % 20 + 1 = m + 1 by omega, Nat.add_assoc] at e1
      rw [e1]
      dsimp only
      unfold F_X10_found_B77
      rw [if_neg hlt, e_cv, if_pos h90, t1, zc_some]
      by_cases hq : (C (20 * v + m)).2.2 ≤ off (20 * v + m)
      · rw [if_pos hq, if_pos hq]
        simp (disch := omega) only [F_X10_found_J111, zv, zl0, zl1, zl2, zl3, zl4, zl5, zl6, zl7, zl8, zl9, zl10, zl11, zl12, zl20, zl24, zl31, zl36, zl40, zl42, zl44, zl48, zl49, zl50, zl55, zl57, zl60, zl97, zl99, zl100, zl102, zl104, zl109, zl113, zl114, zl119, zl126, zl255, zl400, zl1000, zl101, zl103, zl1001, zl1002, zl16, zl18, zl32, zl35, zl443, n_leT, n_leF, n_ltT, n_ltF, n_eqT, n_eqF, n_swT, n_swF, nI_add, n_sub, pk_mul, zd_n]
      · rw [if_neg hq, if_neg hq]
        simp (disch := omega) only [F_X10_found_J111, zv, zl0, zl1, zl2, zl3, zl4, zl5, zl6, zl7, zl8, zl9, zl10, zl11, zl12, zl20, zl24, zl31, zl36, zl40, zl42, zl44, zl48, zl49, zl50, zl55, zl57, zl60, zl97, zl99, zl100, zl102, zl104, zl109, zl113, zl114, zl119, zl126, zl255, zl400, zl1000, zl101, zl103, zl1001, zl1002, zl16, zl18, zl32, zl35, zl443, n_leT, n_leF, n_ltT, n_ltF, n_eqT, n_eqF, n_swT, n_swF, nI_add, n_sub, pk_mul, zd_n]
    · obtain ⟨F', rfl, g1, g2, g3⟩ := hx
      refine ⟨_, ⟨F', rfl, g3⟩, fun k kc => ?_⟩
      have hlt : (20 : Int32) < nI (20 + 1) := show nI 20 < nI (20 + 1) from nI_lt (by omega) (by omega)
      dsimp only
      unfold F_X10_found_B77
      rw [if_pos hlt]
      simp (disch := omega) only [zv, zl0, zl1, zl2, zl3, zl4, zl5, zl6, zl7, zl8, zl9, zl10, zl11, zl12, zl20, zl24, zl31, zl36, zl40, zl42, zl44, zl48, zl49, zl50, zl55, zl57, zl60, zl97, zl99, zl100, zl102, zl104, zl109, zl113, zl114, zl119, zl126, zl255, zl400, zl1000, zl101, zl103, zl1001, zl1002, zl16, zl18, zl32, zl35, zl443, n_leT, n_leF, n_ltT, n_ltF, n_eqT, n_eqF, n_swT, n_swF, nI_add, n_sub, pk_mul, zd_n]
  obtain ⟨y, ⟨F', rfl, g3⟩, e⟩ := key
  exact ⟨F', e, g3⟩
theorem eC_fOut (n : Nat) {S : zH} {f : Nat → Nat → Int32} {g c c' r r' tr pl nd R H cu nl nr np pt fi M : Nat} {da ra : Nat → Nat} {off : Nat → Int32} {C : Nat → Int32 × Int32 × Int32} {x0 : Int32} (hn : 513 < n) (hI : zI S f g c c' r r' tr pl nd da R H cu nl nr ra np pt fi) (hR : 1 ≤ R)
    (hof : ∀ (F : Nat → Nat → Int32) (v m : Nat), m < 20 → (∀ b j, b = 86 ∨ (91 ≤ b ∧ b ≤ 97 ∧ b ≠ 96) → F b j = f b j) → qO (qSt F R H (v + 1) (m + 1)) (F 97) R nl = off (20 * v + m))
    (hC : ∀ i, C (i + 1) = if (C i).2.2 ≤ off i then C i else (nI (i / 20 + 1), nI (i % 20 + 1), off i)) (hC0 : C 0 = (nI 0, nI 0, nI 1000000)) (hM : M = 20 * 20) {X : Int32} (hX : X = if x0 = nI 0 then (C M).1 else if x0 = nI 1 then (C M).2.1 else (C M).2.2) :
    ∃ S' F, F_X10_found_L55 n 0 (zwi S (z2 f 0 18 (nI (fi + 1)))) 0 x0 (nI 0) (nI 0) (nI 1000000) (nI 1) = some (X, zwi S' F) ∧ zExt S S' ∧ ∀ b j, b < zsz S → (b < 44 ∨ 50 < b) → F b j = z2 f 0 18 (nI (fi + 1)) b j := by
  have hzz := cl_zz hI.1
  unfold F_X10_found_L55
  have key9 := zforE (body := fun kc x => F_X10_found_B55 n kc x.2.2.2.2.2 x.1 0 x0 x.2.1 x.2.2.1 x.2.2.2.1 x.2.2.2.2.1) (fun v x => ∃ S' F, x = (zwi S' F, (C (20 * v)).1, (C (20 * v)).2.1, (C (20 * v)).2.2, nI (v + 1), v) ∧ zExt S S' ∧ ∀ b j, b < zsz S → (b < 44 ∨ 50 < b) → F b j = z2 f 0 18 (nI (fi + 1)) b j) 20 (Q := fun x => ∃ S' F, x = some (X, zwi S' F) ∧ zExt S S' ∧ ∀ b j, b < zsz S → (b < 44 ∨ 50 < b) → F b j = z2 f 0 18 (nI (fi + 1)) b j) (fun v x hv hx => ?_) (fun x hx => ?_) (n := n) (by omega) (x := (zwi S (z2 f 0 18 (nI (fi + 1))), nI 0, nI 0, nI 1000000, nI 1, 0)) ⟨S, z2 f 0 18 (nI (fi + 1)), by rw [Nat.mul_zero, hC0], zExt_refl S, fun _ _ _ _ => rfl⟩
  · obtain ⟨x, ⟨S', F, e1, e3⟩, e2⟩ := key9
    exact ⟨S', F, by rw [e2, e1], e3⟩
  · obtain ⟨S', F, rfl, hE, hF⟩ := hx
    have hE2 : zExt S (znew S' 2 2) := zExt_trans hE (zExt_new S' 2 2)
    have hz' := hE.2.2
    have hsd : zsh (znew S' 2 2) (zsz S') = some (2, 2) := znew_shN _ _ _
    obtain ⟨F2, hF2⟩ : ∃ F2, F2 = z2 (z2 (fun x y => if x = zsz S' then nI 0 else F x y) (zsz S') 0 (nI 1)) (zsz S') 1 (nI (v + 1)) := ⟨_, rfl⟩
    have f2a : F2 (zsz S') 0 = nI 1 := by rw [hF2, z2n (by omega)]; exact z2_eq _ _ _ _
    have f2b : F2 (zsz S') 1 = nI (v + 1) := by rw [hF2]; exact z2_eq _ _ _ _
    have f2c : ∀ b j, b < zsz S → (b < 44 ∨ 50 < b) → F2 b j = z2 f 0 18 (nI (fi + 1)) b j := fun b j q1 q2 => by
      rw [hF2, z2n (by omega), z2n (by omega), if_neg (by omega)]
      exact hF b j q1 q2
    have ini : F_X2_init n (zwi (znew S' 2 2) (fun x y => if x = zsz S' then nI 0 else F x y)) (zsz S') (1 : Int32) (nI (v + 1)) = some ((), zwi (znew S' 2 2) F2) := by
      unfold F_X2_init
      rw [e_si, if_pos hsd, e_si, if_pos hsd, hF2]
      rfl
    obtain ⟨F', k1, k2⟩ := eC_fIn n (x0 := x0) hn hI hE2 hR hsd hz' hv hof hC f2a f2b f2c
    refine ⟨(zwi (znew S' 2 2) F', (C (20 * (v + 1))).1, (C (20 * (v + 1))).2.1, (C (20 * (v + 1))).2.2, nI (v + 1 + 1), v + 1), ⟨znew S' 2 2, F', rfl, hE2, k2⟩, fun kc => ?_⟩
    have hlt : ¬ (20 : Int32) < nI (v + 1) := show ¬ nI 20 < nI (v + 1) from nI_nlt (by omega) (by omega)
    have k1' := k1 kc
    rw [show 20 * v + 20 = 20 * (v + 1) by omega] at k1'
    dsimp only
    unfold F_X10_found_B55
    rw [if_pos (show v ≤ 20 by omega), if_neg hlt, if_pos hv, e_no, ini, zc_some]
    exact k1'
  · obtain ⟨S', F, rfl, hE, hF⟩ := hx
    refine ⟨_, ⟨S', F, rfl, hE, hF⟩, fun kc => ?_⟩
    have hlt : (20 : Int32) < nI (20 + 1) := show nI 20 < nI (20 + 1) from nI_lt (by omega) (by omega)
    rw [← hM]
    dsimp only
    unfold F_X10_found_B55
    rw [if_pos (Nat.le_refl 20), if_pos hlt, hX]
    by_cases a0 : x0 = nI 0
    · rw [if_pos a0, if_pos (show x0 = (0 : Int32) from a0)]
      rfl
    · rw [if_neg a0, if_neg (show ¬ x0 = (0 : Int32) from a0)]
      by_cases a1 : x0 = nI 1
      · rw [if_pos a1, if_pos (show x0 = (1 : Int32) from a1)]
        rfl
      · rw [if_neg a1, if_neg (show ¬ x0 = (1 : Int32) from a1)]
        rfl
