/-! ===== many years ===== -/
def qYs (pt : Nat) (ea ne hd : Int32) (e W : Nat → Int32) (Y : Nat) : (Nat → Int32) × Nat × Int32 := zit (fun i s => ((qYear pt ea ne hd e s.1).1, s.2.1 + (qYear pt ea ne hd e s.1).2, qFy s.2.2 (nI i) (qYear pt ea ne hd e s.1).2)) (W, 0, -nI 1) Y
theorem qYs_0 (pt : Nat) (ea ne hd : Int32) (e W : Nat → Int32) : qYs pt ea ne hd e W 0 = (W, 0, -nI 1) := rfl
theorem qYs_s (pt : Nat) (ea ne hd : Int32) (e W : Nat → Int32) (i : Nat) : qYs pt ea ne hd e W (i + 1) = ((qYear pt ea ne hd e (qYs pt ea ne hd e W i).1).1, (qYs pt ea ne hd e W i).2.1 + (qYear pt ea ne hd e (qYs pt ea ne hd e W i).1).2, qFy (qYs pt ea ne hd e W i).2.2 (nI i) (qYear pt ea ne hd e (qYs pt ea ne hd e W i).1).2) := rfl
theorem qYs_le {pt : Nat} {ea ne hd : Int32} {e W : Nat → Int32} (h : pt ≤ 10) : ∀ Y, (qYs pt ea ne hd e W Y).2.1 ≤ 8 * Y
  | 0 => Nat.le_refl 0
  | Y + 1 => by
    have h1 := qYs_le (ea := ea) (ne := ne) (hd := hd) (e := e) (W := W) h Y
    have h2 := qYear_le pt ea ne hd e (qYs pt ea ne hd e W Y).1
    rw [qYs_s]
    dsimp only
    omega
theorem eC_beginY (n : Nat) {S : zH} {f : Nat → Nat → Int32} {r pt : Nat} {W : Nat → Int32} (hn : 513 < n) (hR : zRv S r) (hp : f r 4 = nI pt) (h10 : pt ≤ 10) (hW : ∀ p, p < pt → f (r + 1) p = W p) :
    ∃ F, F_X7_beginYears n (zwi S f) r = some ((), zwi S F) ∧ (∀ p, p < pt → F (r + 3) p = W p) ∧ ∀ a j, a ≠ r + 3 → F a j = f a j := by
  obtain ⟨c1, c2, c3, c4, c5, c6, c7, c8, c9⟩ := hR
  unfold F_X7_beginYears F_X7_beginYears_L2
  have key9 := zforE (body := fun kc x => F_X7_beginYears_B2 n kc x.1 r x.2) (fun i x => ∃ F, x = (zwi S F, nI i) ∧ (∀ p, p < i → F (r + 3) p = W p) ∧ ∀ a j, a ≠ r + 3 → F a j = f a j) pt (Q := fun x => ∃ F, x = some ((), zwi S F) ∧ (∀ p, p < pt → F (r + 3) p = W p) ∧ ∀ a j, a ≠ r + 3 → F a j = f a j) (fun i x hi hx => ?_) (fun x hx => ?_) (n := n) (by omega) (x := (zwi S f, nI 0)) ⟨f, rfl, fun p q => by omega, fun _ _ _ => rfl⟩
  · obtain ⟨x, ⟨F, e1, e3⟩, e2⟩ := key9
    exact ⟨F, by rw [← zl0] at e2; rw [e2, e1], e3⟩
  · obtain ⟨F, rfl, g1, g2⟩ := hx
    have q4 := (g2 r 4 (by omega)).trans hp
    have w1 := (g2 (r + 1) i (by omega)).trans (hW i hi)
    refine ⟨_, ⟨z2 F (r + 3) i (W i), rfl, fun p q => ?_, fun a j q => by rw [z2n (by omega)]; exact g2 a j q⟩, fun kc => by simp (disch := omega) only [F_X7_beginYears_B2, zv, e_gi, e_gr, e_gl, e_si, e_sb, e_ai, e_ar, e_ti, e_ty, e_tz, e_cv, zc_some, zmo_some, zin_T, ↓reduceIte, zit_succ, zzr0, zzr1, true_and, and_true, and_self, or_false, false_or, or_true, true_or, not_true_eq_false, not_false_eq_true, zl0, zl1, zl2, zl3, zl4, zl5, zl6, zl7, zl8, zl9, zl10, zl11, zl12, zl20, zl24, zl31, zl36, zl40, zl42, zl44, zl48, zl49, zl50, zl55, zl57, zl60, zl97, zl99, zl100, zl102, zl104, zl109, zl113, zl114, zl119, zl126, zl255, zl400, zl1000, zl101, zl103, zl1001, zl1002, zl16, zl18, zl32, zl35, zl443, n_leT, n_leF, n_ltT, n_ltF, n_eqT, n_eqF, n_swT, n_swF, nI_add, n_sub, pk_mul, zd_n, c1, c2, c4, c6, c8, q4, w1]⟩
    by_cases e5 : p = i
    · subst e5; exact z2_eq _ _ _ _
    · rw [z2n (by omega)]; exact g1 p (by omega)
  · obtain ⟨F, rfl, g1, g2⟩ := hx
    have q4 := (g2 r 4 (by omega)).trans hp
    exact ⟨_, ⟨F, rfl, g1, g2⟩, fun kc => by simp (disch := omega) only [F_X7_beginYears_B2, zv, e_gi, e_gr, e_gl, e_si, e_sb, e_ai, e_ar, e_ti, e_ty, e_tz, e_cv, zc_some, zmo_some, zin_T, ↓reduceIte, zit_succ, zzr0, zzr1, true_and, and_true, and_self, or_false, false_or, or_true, true_or, not_true_eq_false, not_false_eq_true, zl0, zl1, zl2, zl3, zl4, zl5, zl6, zl7, zl8, zl9, zl10, zl11, zl12, zl20, zl24, zl31, zl36, zl40, zl42, zl44, zl48, zl49, zl50, zl55, zl57, zl60, zl97, zl99, zl100, zl102, zl104, zl109, zl113, zl114, zl119, zl126, zl255, zl400, zl1000, zl101, zl103, zl1001, zl1002, zl16, zl18, zl32, zl35, zl443, n_leT, n_leF, n_ltT, n_ltF, n_eqT, n_eqF, n_swT, n_swF, nI_add, n_sub, pk_mul, zd_n, c1, q4]⟩
theorem eC_goY (n : Nat) {S : zH} {f : Nat → Nat → Int32} {r pt Y : Nat} {W e : Nat → Int32} {ea ne hd : Int32} (hn : 513 < n) (hR : zRv S r) (hp : f r 4 = nI pt) (h2 : 2 ≤ pt) (h10 : pt ≤ 10) (hY : Y ≤ 100) (hW : ∀ p, p < pt → f (r + 1) p = W p) (he : ∀ p, p < pt → f (r + 2) p = e p) :
    ∃ F, F_X7_goYears n (zwi S f) r (nI Y) ea ne hd = some (nI (qYs pt ea ne hd e W Y).2.1, zwi S F) ∧ (∀ p, p < pt → F (r + 3) p = (qYs pt ea ne hd e W Y).1 p) ∧ ∀ a j, a ≠ r + 3 → a ≠ r + 4 → F a j = f a j := by
  have c1 := hR.1
  obtain ⟨F1, b1, b2, b3⟩ := eC_beginY n hn hR hp h10 hW
  have mid : ∃ F, F_X7_goYears_L10 n (zwi S F1) r (nI Y) ea ne hd (nI 0) (nI 0) = some (nI (qYs pt ea ne hd e W Y).2.1, zwi S F) ∧ (∀ p, p < pt → F (r + 3) p = (qYs pt ea ne hd e W Y).1 p) ∧ ∀ a j, a ≠ r + 3 → a ≠ r + 4 → F a j = f a j := by
    unfold F_X7_goYears_L10
    have key9 := zforE (body := fun kc x => F_X7_goYears_B10 n kc x.1 r (nI Y) ea ne hd x.2.1 x.2.2) (fun i x => ∃ F, x = (zwi S F, nI (qYs pt ea ne hd e W i).2.1, nI i) ∧ (∀ p, p < pt → F (r + 3) p = (qYs pt ea ne hd e W i).1 p) ∧ ∀ a j, a ≠ r + 3 → a ≠ r + 4 → F a j = f a j) Y (Q := fun x => ∃ F, x = some (nI (qYs pt ea ne hd e W Y).2.1, zwi S F) ∧ (∀ p, p < pt → F (r + 3) p = (qYs pt ea ne hd e W Y).1 p) ∧ ∀ a j, a ≠ r + 3 → a ≠ r + 4 → F a j = f a j) (fun i x hi hx => ?_) (fun x hx => ?_) (n := n) (by omega) (x := (zwi S F1, nI 0, nI 0)) ⟨F1, rfl, b2, fun a j q _ => b3 a j q⟩
    · obtain ⟨x, ⟨F, e1, e3⟩, e2⟩ := key9
      exact ⟨F, by rw [e2, e1], e3⟩
    · obtain ⟨F, rfl, g1, g2⟩ := hx
      obtain ⟨Z, y1, y2, y3⟩ := eC_year n (F0 := F) (ea := ea) (ne := ne) (hd := hd) (e := e) hn hR ((g2 r 4 (by omega) (by omega)).trans hp) h2 h10 g1 (fun p hpp => (g2 (r + 2) p (by omega) (by omega)).trans (he p hpp))
      refine ⟨_, ⟨Z, rfl, y2, fun a j q1 q2 => (y3 a j q1 q2).trans (g2 a j q1 q2)⟩, fun kc => ?_⟩
      rw [qYs_s]
      simp (disch := omega) only [F_X7_goYears_B10, zv, e_gi, e_gr, e_gl, e_si, e_sb, e_ai, e_ar, e_ti, e_ty, e_tz, e_cv, zc_some, zmo_some, zin_T, ↓reduceIte, zit_succ, zzr0, zzr1, true_and, and_true, and_self, or_false, false_or, or_true, true_or, not_true_eq_false, not_false_eq_true, zl0, zl1, zl2, zl3, zl4, zl5, zl6, zl7, zl8, zl9, zl10, zl11, zl12, zl20, zl24, zl31, zl36, zl40, zl42, zl44, zl48, zl49, zl50, zl55, zl57, zl60, zl97, zl99, zl100, zl102, zl104, zl109, zl113, zl114, zl119, zl126, zl255, zl400, zl1000, zl101, zl103, zl1001, zl1002, zl16, zl18, zl32, zl35, zl443, n_leT, n_leF, n_ltT, n_ltF, n_eqT, n_eqF, n_swT, n_swF, nI_add, n_sub, pk_mul, zd_n, c1, y1]
    · obtain ⟨F, rfl, g1, g2⟩ := hx
      exact ⟨_, ⟨F, rfl, g1, g2⟩, fun kc => by simp (disch := omega) only [F_X7_goYears_B10, zv, e_gi, e_gr, e_gl, e_si, e_sb, e_ai, e_ar, e_ti, e_ty, e_tz, e_cv, zc_some, zmo_some, zin_T, ↓reduceIte, zit_succ, zzr0, zzr1, true_and, and_true, and_self, or_false, false_or, or_true, true_or, not_true_eq_false, not_false_eq_true, zl0, zl1, zl2, zl3, zl4, zl5, zl6, zl7, zl8, zl9, zl10, zl11, zl12, zl20, zl24, zl31, zl36, zl40, zl42, zl44, zl48, zl49, zl50, zl55, zl57, zl60, zl97, zl99, zl100, zl102, zl104, zl109, zl113, zl114, zl119, zl126, zl255, zl400, zl1000, zl101, zl103, zl1001, zl1002, zl16, zl18, zl32, zl35, zl443, n_leT, n_leF, n_ltT, n_ltF, n_eqT, n_eqF, n_swT, n_swF, nI_add, n_sub, pk_mul, zd_n]⟩
  obtain ⟨F, m1, m2⟩ := mid
  refine ⟨F, ?_, m2⟩
  unfold F_X7_goYears
  rw [e_cv, if_pos c1, b1, zc_some]
  exact m1
theorem eM_layY (n : Nat) {S : zH} {f : Nat → Nat → Int32} {pt Y : Nat} {W e : Nat → Int32} {ea ne hd : Int32} (hn : 513 < n) (hM : zMo S) (hp : f 85 23 = nI pt) (h2 : 2 ≤ pt) (h10 : pt ≤ 10) (hY : Y ≤ 100) (hW : ∀ p, p < pt → f 103 p = W p) (he : ∀ p, p < pt → f 104 p = e p) :
    ∃ F, F_X11_layYears n (zwi S f) 85 (nI Y) ea ne hd = some ((), zwi S F) ∧ (∀ p, p < pt → F 115 p = (qYs pt ea ne hd e W Y).1 p) ∧ F 85 48 = nI (qYs pt ea ne hd e W Y).2.1 ∧ F 85 49 = (qYs pt ea ne hd e W Y).2.2 ∧ ∀ a j, a ≠ 115 → a ≠ 116 → ¬ (a = 85 ∧ (j = 47 ∨ j = 48 ∨ j = 49)) → F a j = f a j := by
  have s67 := mo_s85 hM
  have r45 := mo_r45 hM
  have s97 := mo_s115 hM
  have r24 := mo_r24 hM
  have s85 := mo_s103 hM
  obtain ⟨F0, hF0⟩ : ∃ F0, F0 = z2 (z2 (z2 f 85 47 hd) 85 48 (nI 0)) 85 49 (-nI 1) := ⟨_, rfl⟩
  have f0 : ∀ a j, ¬ (a = 85 ∧ (j = 47 ∨ j = 48 ∨ j = 49)) → F0 a j = f a j := fun a j q => by rw [hF0, z2n (by omega), z2n (by omega), z2n (by omega)]
  have f47 : F0 85 47 = hd := by rw [hF0, z2n (by omega), z2n (by omega)]; exact z2_eq _ _ _ _
  have f48 : F0 85 48 = nI 0 := by rw [hF0, z2n (by omega)]; exact z2_eq _ _ _ _
  have f49 : F0 85 49 = -nI 1 := by rw [hF0]; exact z2_eq _ _ _ _
  have fin : ∀ F1 : Nat → Nat → Int32, (∀ p, p < pt → F1 115 p = W p) → (∀ a j, a ≠ 115 → F1 a j = F0 a j) → ∃ F, F_X11_layYears_L51 n (zwi S F1) 85 (nI Y) ea ne (nI 0) = some ((), zwi S F) ∧ (∀ p, p < pt → F 115 p = (qYs pt ea ne hd e W Y).1 p) ∧ F 85 48 = nI (qYs pt ea ne hd e W Y).2.1 ∧ F 85 49 = (qYs pt ea ne hd e W Y).2.2 ∧ ∀ a j, a ≠ 115 → a ≠ 116 → ¬ (a = 85 ∧ (j = 47 ∨ j = 48 ∨ j = 49)) → F a j = f a j := fun F1 hF1 hF1' => by
    unfold F_X11_layYears_L51
    have key9 := zforE (body := fun kc x => F_X11_layYears_B51 n kc x.1 85 (nI Y) ea ne x.2) (fun i x => ∃ F, x = (zwi S F, nI i) ∧ (∀ p, p < pt → F 115 p = (qYs pt ea ne hd e W i).1 p) ∧ F 85 48 = nI (qYs pt ea ne hd e W i).2.1 ∧ F 85 49 = (qYs pt ea ne hd e W i).2.2 ∧ F 85 47 = hd ∧ ∀ a j, a ≠ 115 → a ≠ 116 → ¬ (a = 85 ∧ (j = 47 ∨ j = 48 ∨ j = 49)) → F a j = f a j) Y (Q := fun x => ∃ F, x = some ((), zwi S F) ∧ (∀ p, p < pt → F 115 p = (qYs pt ea ne hd e W Y).1 p) ∧ F 85 48 = nI (qYs pt ea ne hd e W Y).2.1 ∧ F 85 49 = (qYs pt ea ne hd e W Y).2.2 ∧ ∀ a j, a ≠ 115 → a ≠ 116 → ¬ (a = 85 ∧ (j = 47 ∨ j = 48 ∨ j = 49)) → F a j = f a j) (fun i x hi hx => ?_) (fun x hx => ?_) (n := n) (by omega) (x := (zwi S F1, nI 0)) ⟨F1, rfl, hF1, (hF1' 85 48 (by omega)).trans f48, (hF1' 85 49 (by omega)).trans f49, (hF1' 85 47 (by omega)).trans f47, fun a j q1 _ q2 => (hF1' a j q1).trans (f0 a j q2)⟩
    · obtain ⟨x, ⟨F, e1, e3⟩, e2⟩ := key9
      exact ⟨F, by rw [e2, e1], e3⟩
    · obtain ⟨F, rfl, g1, g48, g49, g47, g2⟩ := hx
      obtain ⟨Z, y1, y2, y3, y4, y5⟩ := eM_year n (F0 := F) (ea := ea) (ne := ne) (hd := hd) (e := e) (y := nI i) hn hM ((g2 85 23 (by omega) (by omega) (by omega)).trans hp) h2 h10 (by rw [n_m1 (by omega)]; exact fun z => z) g1 (fun p hpp => (g2 104 p (by omega) (by omega) (by omega)).trans (he p hpp)) g47 g48 g49
      refine ⟨_, ⟨Z, rfl, y2, y3, y4, (y5 85 47 (by omega) (by omega) (by omega)).trans g47, fun a j q1 q2 q3 => (y5 a j q1 q2 (by omega)).trans (g2 a j q1 q2 q3)⟩, fun kc => ?_⟩
      simp (disch := omega) only [F_X11_layYears_B51, zv, e_gi, e_gr, e_gl, e_si, e_sb, e_ai, e_ar, e_ti, e_ty, e_tz, e_cv, zc_some, zmo_some, zin_T, ↓reduceIte, zit_succ, zzr0, zzr1, true_and, and_true, and_self, or_false, false_or, or_true, true_or, not_true_eq_false, not_false_eq_true, zl0, zl1, zl2, zl3, zl4, zl5, zl6, zl7, zl8, zl9, zl10, zl11, zl12, zl20, zl24, zl31, zl36, zl40, zl42, zl44, zl48, zl49, zl50, zl55, zl57, zl60, zl97, zl99, zl100, zl102, zl104, zl109, zl113, zl114, zl119, zl126, zl255, zl400, zl1000, zl101, zl103, zl1001, zl1002, zl16, zl18, zl32, zl35, zl443, n_leT, n_leF, n_ltT, n_ltF, n_eqT, n_eqF, n_swT, n_swF, nI_add, n_sub, pk_mul, zd_n, s67, y1]
    · obtain ⟨F, rfl, g1, g48, g49, g47, g2⟩ := hx
      exact ⟨_, ⟨F, rfl, g1, g48, g49, g2⟩, fun kc => by simp (disch := omega) only [F_X11_layYears_B51, zv, e_gi, e_gr, e_gl, e_si, e_sb, e_ai, e_ar, e_ti, e_ty, e_tz, e_cv, zc_some, zmo_some, zin_T, ↓reduceIte, zit_succ, zzr0, zzr1, true_and, and_true, and_self, or_false, false_or, or_true, true_or, not_true_eq_false, not_false_eq_true, zl0, zl1, zl2, zl3, zl4, zl5, zl6, zl7, zl8, zl9, zl10, zl11, zl12, zl20, zl24, zl31, zl36, zl40, zl42, zl44, zl48, zl49, zl50, zl55, zl57, zl60, zl97, zl99, zl100, zl102, zl104, zl109, zl113, zl114, zl119, zl126, zl255, zl400, zl1000, zl101, zl103, zl1001, zl1002, zl16, zl18, zl32, zl35, zl443, n_leT, n_leF, n_ltT, n_ltF, n_eqT, n_eqF, n_swT, n_swF, nI_add, n_sub, pk_mul, zd_n]⟩
  have mid : ∃ F, F_X11_layYears_L19 n (zwi S F0) 85 (nI Y) ea ne (nI 0) = some ((), zwi S F) ∧ (∀ p, p < pt → F 115 p = (qYs pt ea ne hd e W Y).1 p) ∧ F 85 48 = nI (qYs pt ea ne hd e W Y).2.1 ∧ F 85 49 = (qYs pt ea ne hd e W Y).2.2 ∧ ∀ a j, a ≠ 115 → a ≠ 116 → ¬ (a = 85 ∧ (j = 47 ∨ j = 48 ∨ j = 49)) → F a j = f a j := by
    unfold F_X11_layYears_L19
    have key9 := zforE (body := fun kc x => F_X11_layYears_B19 n kc x.1 85 (nI Y) ea ne x.2) (fun i x => ∃ F, x = (zwi S F, nI i) ∧ (∀ p, p < i → F 115 p = W p) ∧ ∀ a j, a ≠ 115 → F a j = F0 a j) pt (Q := fun x => ∃ F, x = some ((), zwi S F) ∧ (∀ p, p < pt → F 115 p = (qYs pt ea ne hd e W Y).1 p) ∧ F 85 48 = nI (qYs pt ea ne hd e W Y).2.1 ∧ F 85 49 = (qYs pt ea ne hd e W Y).2.2 ∧ ∀ a j, a ≠ 115 → a ≠ 116 → ¬ (a = 85 ∧ (j = 47 ∨ j = 48 ∨ j = 49)) → F a j = f a j) (fun i x hi hx => ?_) (fun x hx => ?_) (n := n) (by omega) (x := (zwi S F0, nI 0)) ⟨F0, rfl, fun p q => by omega, fun _ _ _ => rfl⟩
    · obtain ⟨x, ⟨F, e1, e3⟩, e2⟩ := key9
      exact ⟨F, by rw [e2, e1], e3⟩
    · obtain ⟨F, rfl, g1, g2⟩ := hx
      have q4 := (g2 85 23 (by omega)).trans ((f0 85 23 (by omega)).trans hp)
      have w1 := (g2 103 i (by omega)).trans ((f0 103 i (by omega)).trans (hW i hi))
      refine ⟨_, ⟨z2 F 115 i (W i), rfl, fun p q => ?_, fun a j q => by rw [z2n (by omega)]; exact g2 a j q⟩, fun kc => by simp (disch := omega) only [F_X11_layYears_B19, zv, e_gi, e_gr, e_gl, e_si, e_sb, e_ai, e_ar, e_ti, e_ty, e_tz, e_cv, zc_some, zmo_some, zin_T, ↓reduceIte, zit_succ, zzr0, zzr1, true_and, and_true, and_self, or_false, false_or, or_true, true_or, not_true_eq_false, not_false_eq_true, zl0, zl1, zl2, zl3, zl4, zl5, zl6, zl7, zl8, zl9, zl10, zl11, zl12, zl20, zl24, zl31, zl36, zl40, zl42, zl44, zl48, zl49, zl50, zl55, zl57, zl60, zl97, zl99, zl100, zl102, zl104, zl109, zl113, zl114, zl119, zl126, zl255, zl400, zl1000, zl101, zl103, zl1001, zl1002, zl16, zl18, zl32, zl35, zl443, n_leT, n_leF, n_ltT, n_ltF, n_eqT, n_eqF, n_swT, n_swF, nI_add, n_sub, pk_mul, zd_n, s67, r45, s97, r24, s85, q4, w1]⟩
      by_cases e5 : p = i
      · subst e5; exact z2_eq _ _ _ _
      · rw [z2n (by omega)]; exact g1 p (by omega)
    · obtain ⟨F, rfl, g1, g2⟩ := hx
      have q4 := (g2 85 23 (by omega)).trans ((f0 85 23 (by omega)).trans hp)
      obtain ⟨Z, y1, y2⟩ := fin F g1 g2
      exact ⟨_, ⟨Z, rfl, y2⟩, fun kc => by simp (disch := omega) only [F_X11_layYears_B19, zv, e_gi, e_gr, e_gl, e_si, e_sb, e_ai, e_ar, e_ti, e_ty, e_tz, e_cv, zc_some, zmo_some, zin_T, ↓reduceIte, zit_succ, zzr0, zzr1, true_and, and_true, and_self, or_false, false_or, or_true, true_or, not_true_eq_false, not_false_eq_true, zl0, zl1, zl2, zl3, zl4, zl5, zl6, zl7, zl8, zl9, zl10, zl11, zl12, zl20, zl24, zl31, zl36, zl40, zl42, zl44, zl48, zl49, zl50, zl55, zl57, zl60, zl97, zl99, zl100, zl102, zl104, zl109, zl113, zl114, zl119, zl126, zl255, zl400, zl1000, zl101, zl103, zl1001, zl1002, zl16, zl18, zl32, zl35, zl443, n_leT, n_leF, n_ltT, n_ltF, n_eqT, n_eqF, n_swT, n_swF, nI_add, n_sub, pk_mul, zd_n, s67, q4, y1]⟩
  obtain ⟨F, m1, m2⟩ := mid
  refine ⟨F, ?_, m2⟩
  unfold F_X11_layYears
  simp (disch := omega) only [zv, e_gi, e_gr, e_gl, e_si, e_sb, e_ai, e_ar, e_ti, e_ty, e_tz, e_cv, zc_some, zmo_some, zin_T, ↓reduceIte, zit_succ, zzr0, zzr1, true_and, and_true, and_self, or_false, false_or, or_true, true_or, not_true_eq_false, not_false_eq_true, zl0, zl1, zl2, zl3, zl4, zl5, zl6, zl7, zl8, zl9, zl10, zl11, zl12, zl20, zl24, zl31, zl36, zl40, zl42, zl44, zl48, zl49, zl50, zl55, zl57, zl60, zl97, zl99, zl100, zl102, zl104, zl109, zl113, zl114, zl119, zl126, zl255, zl400, zl1000, zl101, zl103, zl1001, zl1002, zl16, zl18, zl32, zl35, zl443, n_leT, n_leF, n_ltT, n_ltF, n_eqT, n_eqF, n_swT, n_swF, nI_add, n_sub, pk_mul, zd_n, s67]
  rw [← hF0]
  exact m1
theorem eM_years_no (n : Nat) (h : zH) (y p q : Int32) (hh : qIn y (nI 0) (nI 99) = nI 0 ∨ qFlow p q = nI 0) : F_X11_areYears n h y p q = some (nI 0, h) := by
  rw [eM_years]
  rcases hh with hh | hh
  · rw [if_pos hh]
  · rw [hh]
    split <;> rfl
theorem eM_years_ok (n : Nat) (h : zH) (y p q : Int32) (h1 : qIn y (nI 0) (nI 99) = nI 1) (h2 : qFlow p q = nI 1) : F_X11_areYears n h y p q = some (nI 1, h) := by
  rw [eM_years, h1, h2, if_neg (by decide)]
theorem qFlow_1 {p q : Int32} (h : ¬ qFlow p q = nI 0) : qFlow p q = nI 1 := by
  unfold qFlow at *
  by_cases h1 : qIn p (nI 0) (nI 9) = nI 0
  · rw [if_pos h1] at h
    exact absurd rfl h
  · rw [if_neg h1] at h ⊢
    rcases qIn_c q (nI 1) (nI 99) with z | z
    · exact absurd z.1 h
    · exact z.1
theorem rv_q {f : Nat → Nat → Int32} {r pt : Nat} (h : I_rv f r pt) : ∀ p, p < pt → f (r + 1) p = f 103 p ∧ f (r + 2) p = f 104 p := fun p hp => ⟨(h.2.2.2.2 p hp).1, (h.2.2.2.2 p hp).2.1⟩
theorem k_point {g n : Nat} (hn : 513 < n) {h : zH} (hI : zInv g h) (p y ea ne : Int32) : zOk g (F_X10_point n h 0 p y ea ne) (fun h => F_X11_point n h 85 p y ea ne) := by
  obtain ⟨S, f, c, c', r, r', tr, pl, nd, da, R, H, cu, nl, nr, ra, np, pt, fi, rfl, hI⟩ := hI
  have hI' := hI
  obtain ⟨hS, hpg, hdo, ⟨hc6, hR, hH, hRH, hu2, hu3, hu4, hcu, hcu2⟩, hg, hlv, hbr, hwa, hrw, hpi, hrv, hfi, him⟩ := hI
  have hM := cl_M hS
  have hC := cl_Cu hS
  have hcc := cl_cc hS
  have hrr := cl_rr hS
  have htt := cl_tt hS
  have hR1 : f (c + 1) 0 = nI R := (hc6 0 (by omega)).trans hR
  have hH1 : f (c + 1) 1 = nI H := (hc6 1 (by omega)).trans hH
  have hR6 : R ≤ 6 ∧ H ≤ 4 := by rcases hRH with h | h <;> omega
  have hRk : (R = 0 ∧ f 85 1 = nI 0) ∨ (1 ≤ R ∧ R ≤ 6 ∧ f 85 1 = nI 1) := hRH.imp (fun h => ⟨h.1, h.2.2⟩) (fun h => ⟨by omega, h.2.1, h.2.2.2.2⟩)
  have hv := rv_q hrv
  obtain ⟨v1, v2, v3, v4, -⟩ := hrv
  have h0 : zsh S 0 = some (9, 20) := cl_s0 hS
  have r7 : zr S 0 7 = some r := cl_r hS
  have hRv := cl_Rv hS
  have c1 := hRv.1
  have s67 := mo_s85 hM
  have eh := eC_hasPoint n (f := f) p c1 v3
  have ei := qIn_has p (k := pt) (by omega)
  rcases qHas_c p (k := pt) (by omega) with h9 | ⟨m, hm, rfl, h9⟩
  · rw [h9] at eh ei
    exact ⟨-nI 101, zwi S f, zwi S f, by unfold F_X10_point; simp (disch := omega) only [zv, e_gi, e_gr, e_gl, e_si, e_sb, e_ai, e_ar, e_ti, e_ty, e_tz, e_cv, zc_some, zmo_some, zin_T, ↓reduceIte, zit_succ, zzr0, zzr1, true_and, and_true, and_self, or_false, false_or, or_true, true_or, not_true_eq_false, not_false_eq_true, zl0, zl1, zl2, zl3, zl4, zl5, zl6, zl7, zl8, zl9, zl10, zl11, zl12, zl20, zl24, zl31, zl36, zl40, zl42, zl44, zl48, zl49, zl50, zl55, zl57, zl60, zl97, zl99, zl100, zl102, zl104, zl109, zl113, zl114, zl119, zl126, zl255, zl400, zl1000, zl101, zl103, zl1001, zl1002, zl16, zl18, zl32, zl35, zl443, n_leT, n_leF, n_ltT, n_ltF, n_eqT, n_eqF, n_swT, n_swF, nI_add, n_sub, pk_mul, zd_n, h0, r7, c1, eh], by unfold F_X11_point; simp only [zv, e_gi, e_gr, e_gl, e_si, e_sb, e_ai, e_ar, e_ti, e_ty, e_tz, e_cv, zc_some, zmo_some, zin_T, ↓reduceIte, zit_succ, zzr0, zzr1, true_and, and_true, and_self, or_false, false_or, or_true, true_or, not_true_eq_false, not_false_eq_true, s67, v4, zl0, zl1, zl101, eM_in, ei], zI_ok (zI_scr hI' rfl rfl rfl (fun _ _ _ => rfl))⟩
  · rw [h9] at eh ei
    have ei' : qIn (nI m) (nI 0) (nI (pt - 1)) = nI 1 := by rw [← n_sub (by omega)]; exact ei
    rcases qIn_c y (nI 0) (nI 99) with h8 | h8
    · have ey := eM_years_no n (zwi S f) y ea ne (Or.inl h8.1)
      exact ⟨-nI 102, zwi S f, zwi S f, by unfold F_X10_point F_X10_point_J30; simp (disch := omega) only [zv, e_gi, e_gr, e_gl, e_si, e_sb, e_ai, e_ar, e_ti, e_ty, e_tz, e_cv, zc_some, zmo_some, zin_T, ↓reduceIte, zit_succ, zzr0, zzr1, true_and, and_true, and_self, or_false, false_or, or_true, true_or, not_true_eq_false, not_false_eq_true, zl0, zl1, zl2, zl3, zl4, zl5, zl6, zl7, zl8, zl9, zl10, zl11, zl12, zl20, zl24, zl31, zl36, zl40, zl42, zl44, zl48, zl49, zl50, zl55, zl57, zl60, zl97, zl99, zl100, zl102, zl104, zl109, zl113, zl114, zl119, zl126, zl255, zl400, zl1000, zl101, zl103, zl1001, zl1002, zl16, zl18, zl32, zl35, zl443, n_leT, n_leF, n_ltT, n_ltF, n_eqT, n_eqF, n_swT, n_swF, nI_add, n_sub, pk_mul, zd_n, h0, r7, c1, eh, eC_years, h8.1], by unfold F_X11_point; simp (disch := omega) only [zv, e_gi, e_gr, e_gl, e_si, e_sb, e_ai, e_ar, e_ti, e_ty, e_tz, e_cv, zc_some, zmo_some, zin_T, ↓reduceIte, zit_succ, zzr0, zzr1, true_and, and_true, and_self, or_false, false_or, or_true, true_or, not_true_eq_false, not_false_eq_true, zl0, zl1, zl2, zl3, zl4, zl5, zl6, zl7, zl8, zl9, zl10, zl11, zl12, zl20, zl24, zl31, zl36, zl40, zl42, zl44, zl48, zl49, zl50, zl55, zl57, zl60, zl97, zl99, zl100, zl102, zl104, zl109, zl113, zl114, zl119, zl126, zl255, zl400, zl1000, zl101, zl103, zl1001, zl1002, zl16, zl18, zl32, zl35, zl443, n_leT, n_leF, n_ltT, n_ltF, n_eqT, n_eqF, n_swT, n_swF, nI_add, n_sub, pk_mul, zd_n, s67, v4, eM_in, ei', ey], zI_ok (zI_scr hI' rfl rfl rfl (fun _ _ _ => rfl))⟩
    · obtain ⟨Y, -, hY, rfl⟩ := qIn_n (by omega) h8.2 (by omega)
      by_cases h7 : qFlow ea ne = nI 0
      · have ey := eM_years_no n (zwi S f) (nI Y) ea ne (Or.inr h7)
        exact ⟨-nI 102, zwi S f, zwi S f, by unfold F_X10_point F_X10_point_J30; simp (disch := omega) only [zv, e_gi, e_gr, e_gl, e_si, e_sb, e_ai, e_ar, e_ti, e_ty, e_tz, e_cv, zc_some, zmo_some, zin_T, ↓reduceIte, zit_succ, zzr0, zzr1, true_and, and_true, and_self, or_false, false_or, or_true, true_or, not_true_eq_false, not_false_eq_true, zl0, zl1, zl2, zl3, zl4, zl5, zl6, zl7, zl8, zl9, zl10, zl11, zl12, zl20, zl24, zl31, zl36, zl40, zl42, zl44, zl48, zl49, zl50, zl55, zl57, zl60, zl97, zl99, zl100, zl102, zl104, zl109, zl113, zl114, zl119, zl126, zl255, zl400, zl1000, zl101, zl103, zl1001, zl1002, zl16, zl18, zl32, zl35, zl443, n_leT, n_leF, n_ltT, n_ltF, n_eqT, n_eqF, n_swT, n_swF, nI_add, n_sub, pk_mul, zd_n, h0, r7, c1, eh, eC_years, h8.1, eC_flow, h7], by unfold F_X11_point; simp (disch := omega) only [zv, e_gi, e_gr, e_gl, e_si, e_sb, e_ai, e_ar, e_ti, e_ty, e_tz, e_cv, zc_some, zmo_some, zin_T, ↓reduceIte, zit_succ, zzr0, zzr1, true_and, and_true, and_self, or_false, false_or, or_true, true_or, not_true_eq_false, not_false_eq_true, zl0, zl1, zl2, zl3, zl4, zl5, zl6, zl7, zl8, zl9, zl10, zl11, zl12, zl20, zl24, zl31, zl36, zl40, zl42, zl44, zl48, zl49, zl50, zl55, zl57, zl60, zl97, zl99, zl100, zl102, zl104, zl109, zl113, zl114, zl119, zl126, zl255, zl400, zl1000, zl101, zl103, zl1001, zl1002, zl16, zl18, zl32, zl35, zl443, n_leT, n_leF, n_ltT, n_ltF, n_eqT, n_eqF, n_swT, n_swF, nI_add, n_sub, pk_mul, zd_n, s67, v4, eM_in, ei', ey], zI_ok (zI_scr hI' rfl rfl rfl (fun _ _ _ => rfl))⟩
      · have h71 := qFlow_1 h7
        obtain ⟨F, t1, t2, t3⟩ := eC_goY n (f := f) (ea := ea) (ne := ne) (hd := -nI 1) (Y := Y) (W := f 103) (e := f 104) hn hRv v3 (by omega) v2 (by omega) (fun p q => (hv p q).1) (fun p q => (hv p q).2)
        obtain ⟨G, u1, u2, -, -, u5⟩ := eM_layY n (f := F) (ea := ea) (ne := ne) (hd := -nI 1) (Y := Y) (W := f 103) (e := f 104) hn hM ((t3 85 23 (by omega) (by omega)).trans v4) (by omega) v2 (by omega) (fun p q => t3 103 p (by omega) (by omega)) (fun p q => t3 104 p (by omega) (by omega))
        have ey := eM_years_ok n (zwi S F) (nI Y) ea ne h8.1 h71
        have q4 : F 85 23 = nI pt := (t3 85 23 (by omega) (by omega)).trans v4
        have r2 := hRv.2.2.2.1
        have c8 := hRv.2.2.2.2.2.2.2.1
        have t2' := t2 m hm
        have u2' := u2 m hm
        refine ⟨(qYs pt ea ne (-nI 1) (f 104) (f 103) Y).1 m, zwi S F, zwi S G, ?_, ?_, zI_ok (zI_scr hI' rfl rfl rfl (fun a j q => by unfold zScr at q; rw [u5 a j (by omega) (by omega) (by omega), t3 a j (by omega) (by omega)]))⟩
        · unfold F_X10_point
          simp (disch := omega) only [zv, e_gi, e_gr, e_gl, e_si, e_sb, e_ai, e_ar, e_ti, e_ty, e_tz, e_cv, zc_some, zmo_some, zin_T, ↓reduceIte, zit_succ, zzr0, zzr1, true_and, and_true, and_self, or_false, false_or, or_true, true_or, not_true_eq_false, not_false_eq_true, zl0, zl1, zl2, zl3, zl4, zl5, zl6, zl7, zl8, zl9, zl10, zl11, zl12, zl20, zl24, zl31, zl36, zl40, zl42, zl44, zl48, zl49, zl50, zl55, zl57, zl60, zl97, zl99, zl100, zl102, zl104, zl109, zl113, zl114, zl119, zl126, zl255, zl400, zl1000, zl101, zl103, zl1001, zl1002, zl16, zl18, zl32, zl35, zl443, n_leT, n_leF, n_ltT, n_ltF, n_eqT, n_eqF, n_swT, n_swF, nI_add, n_sub, pk_mul, zd_n, h0, r7, c1, eh, eC_years, h8.1, eC_flow, h71, t1, r2, c8, t2']
        · unfold F_X11_point
          simp (disch := omega) only [zv, e_gi, e_gr, e_gl, e_si, e_sb, e_ai, e_ar, e_ti, e_ty, e_tz, e_cv, zc_some, zmo_some, zin_T, ↓reduceIte, zit_succ, zzr0, zzr1, true_and, and_true, and_self, or_false, false_or, or_true, true_or, not_true_eq_false, not_false_eq_true, zl0, zl1, zl2, zl3, zl4, zl5, zl6, zl7, zl8, zl9, zl10, zl11, zl12, zl20, zl24, zl31, zl36, zl40, zl42, zl44, zl48, zl49, zl50, zl55, zl57, zl60, zl97, zl99, zl100, zl102, zl104, zl109, zl113, zl114, zl119, zl126, zl255, zl400, zl1000, zl101, zl103, zl1001, zl1002, zl16, zl18, zl32, zl35, zl443, n_leT, n_leF, n_ltT, n_ltF, n_eqT, n_eqF, n_swT, n_swF, nI_add, n_sub, pk_mul, zd_n, s67, q4, eM_in, ei', ey, u1, mo_r45 hM, mo_s115 hM, u2']
