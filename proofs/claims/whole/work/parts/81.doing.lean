/-- the reference's limits of a doing -/
def qLo (p : Int32) : Int32 := if p = nI 1 then nI 1 else if p = nI 2 then nI 1 else if p = nI 3 then nI 1 else nI 0
def qHi (p : Int32) : Int32 := if p = nI 1 then nI 20 else if p = nI 2 then nI 20 else if p = nI 3 then nI 40 else nI 0
theorem eM_doing (n : Nat) (h : zH) (p q : Int32) : F_X11_doing n h 85 p q = F_X11_doing_J52 n h 85 p q (qLo p) (qHi p) := by
  unfold qLo qHi
  by_cases h1 : p = nI 1
  · subst h1
    simp (disch := omega) only [F_X11_doing, F_X11_doing_J10, F_X11_doing_J15, F_X11_doing_J25, F_X11_doing_J30, zv, e_gi, e_gr, e_gl, e_si, e_sb, e_ai, e_ar, e_ti, e_ty, e_tz, e_cv, zc_some, zmo_some, zin_T, ↓reduceIte, zit_succ, zzr0, zzr1, true_and, and_true, and_self, or_false, false_or, or_true, true_or, not_true_eq_false, not_false_eq_true, zl0, zl1, zl2, zl3, zl4, zl5, zl6, zl7, zl8, zl9, zl10, zl11, zl12, zl20, zl24, zl31, zl36, zl40, zl42, zl44, zl48, zl49, zl50, zl55, zl57, zl60, zl97, zl99, zl100, zl102, zl104, zl109, zl113, zl114, zl119, zl126, zl255, zl400, zl1000, zl101, zl103, zl1001, zl1002, zl16, zl18, zl32, zl35, zl443, n_leT, n_leF, n_ltT, n_ltF, n_eqT, n_eqF, n_swT, n_swF, nI_add, n_sub, pk_mul, zd_n]
  · by_cases h2 : p = nI 2
    · subst h2
      simp (disch := omega) only [F_X11_doing, F_X11_doing_J10, F_X11_doing_J15, F_X11_doing_J25, F_X11_doing_J30, zv, e_gi, e_gr, e_gl, e_si, e_sb, e_ai, e_ar, e_ti, e_ty, e_tz, e_cv, zc_some, zmo_some, zin_T, ↓reduceIte, zit_succ, zzr0, zzr1, true_and, and_true, and_self, or_false, false_or, or_true, true_or, not_true_eq_false, not_false_eq_true, zl0, zl1, zl2, zl3, zl4, zl5, zl6, zl7, zl8, zl9, zl10, zl11, zl12, zl20, zl24, zl31, zl36, zl40, zl42, zl44, zl48, zl49, zl50, zl55, zl57, zl60, zl97, zl99, zl100, zl102, zl104, zl109, zl113, zl114, zl119, zl126, zl255, zl400, zl1000, zl101, zl103, zl1001, zl1002, zl16, zl18, zl32, zl35, zl443, n_leT, n_leF, n_ltT, n_ltF, n_eqT, n_eqF, n_swT, n_swF, nI_add, n_sub, pk_mul, zd_n]
    · by_cases h3 : p = nI 3
      · subst h3
        simp (disch := omega) only [F_X11_doing, F_X11_doing_J10, F_X11_doing_J15, F_X11_doing_J25, F_X11_doing_J30, zv, e_gi, e_gr, e_gl, e_si, e_sb, e_ai, e_ar, e_ti, e_ty, e_tz, e_cv, zc_some, zmo_some, zin_T, ↓reduceIte, zit_succ, zzr0, zzr1, true_and, and_true, and_self, or_false, false_or, or_true, true_or, not_true_eq_false, not_false_eq_true, zl0, zl1, zl2, zl3, zl4, zl5, zl6, zl7, zl8, zl9, zl10, zl11, zl12, zl20, zl24, zl31, zl36, zl40, zl42, zl44, zl48, zl49, zl50, zl55, zl57, zl60, zl97, zl99, zl100, zl102, zl104, zl109, zl113, zl114, zl119, zl126, zl255, zl400, zl1000, zl101, zl103, zl1001, zl1002, zl16, zl18, zl32, zl35, zl443, n_leT, n_leF, n_ltT, n_ltF, n_eqT, n_eqF, n_swT, n_swF, nI_add, n_sub, pk_mul, zd_n]
      · simp (disch := omega) only [F_X11_doing, F_X11_doing_J10, F_X11_doing_J15, F_X11_doing_J25, F_X11_doing_J30, zv, e_gi, e_gr, e_gl, e_si, e_sb, e_ai, e_ar, e_ti, e_ty, e_tz, e_cv, zc_some, zmo_some, zin_T, ↓reduceIte, zit_succ, zzr0, zzr1, true_and, and_true, and_self, or_false, false_or, or_true, true_or, not_true_eq_false, not_false_eq_true, zl0, zl1, zl2, zl3, zl4, zl5, zl6, zl7, zl8, zl9, zl10, zl11, zl12, zl20, zl24, zl31, zl36, zl40, zl42, zl44, zl48, zl49, zl50, zl55, zl57, zl60, zl97, zl99, zl100, zl102, zl104, zl109, zl113, zl114, zl119, zl126, zl255, zl400, zl1000, zl101, zl103, zl1001, zl1002, zl16, zl18, zl32, zl35, zl443, n_leT, n_leF, n_ltT, n_ltF, n_eqT, n_eqF, n_swT, n_swF, nI_add, n_sub, pk_mul, zd_n, h1, h2, h3]
theorem qIn_1 {p a b : Int32} : qIn p a b = nI 1 ↔ ¬ p < a ∧ ¬ b < p := by
  rcases qIn_c p a b with h | h
  · rw [h.1]
    exact ⟨fun z => absurd z (by decide), fun z => h.2.elim (fun y => absurd y z.1) (fun y => absurd y z.2)⟩
  · rw [h.1]
    exact ⟨fun _ => h.2, fun _ => rfl⟩
theorem qIn_00 {q : Int32} : qIn q (nI 0) (nI 0) = nI 1 ↔ q = nI 0 := by
  rw [qIn_1]
  constructor
  · intro h
    have h1 := i_nlt h.1
    have h2 := i_nlt h.2
    exact i_eq (by omega)
  · rintro rfl
    exact ⟨nI_nlt (by omega) (by omega), nI_nlt (by omega) (by omega)⟩
theorem qTo_in (p q : Int32) : qTo p q ↔ qIn p (nI 0) (nI 4) = nI 1 ∧ qIn q (qLo p) (qHi p) = nI 1 := by
  have n5 : ∀ a b : Nat, a < 5 → b < 5 → a ≠ b → ¬ nI a = nI b := fun a b ha hb hab z => hab (n_inj (by omega) (by omega) z)
  have in4 : ∀ m : Nat, m ≤ 4 → qIn (nI m) (nI 0) (nI 4) = nI 1 := fun m hm => qIn_1.mpr ⟨nI_nlt (by omega) (by omega), nI_nlt (by omega) (by omega)⟩
  have lh0 : qLo (nI 0) = nI 0 ∧ qHi (nI 0) = nI 0 := by decide
  have lh1 : qLo (nI 1) = nI 1 ∧ qHi (nI 1) = nI 20 := by decide
  have lh2 : qLo (nI 2) = nI 1 ∧ qHi (nI 2) = nI 20 := by decide
  have lh3 : qLo (nI 3) = nI 1 ∧ qHi (nI 3) = nI 40 := by decide
  have lh4 : qLo (nI 4) = nI 0 ∧ qHi (nI 4) = nI 0 := by decide
  constructor
  · rintro (⟨rfl, h⟩ | ⟨rfl, h⟩ | ⟨rfl | rfl, h⟩ | ⟨rfl, h⟩)
    · exact ⟨in4 0 (by omega), by rw [lh0.1, lh0.2]; exact qIn_00.mpr h⟩
    · exact ⟨in4 4 (by omega), by rw [lh4.1, lh4.2]; exact qIn_00.mpr h⟩
    · exact ⟨in4 1 (by omega), by rw [lh1.1, lh1.2]; exact qIn_1.mpr h⟩
    · exact ⟨in4 2 (by omega), by rw [lh2.1, lh2.2]; exact qIn_1.mpr h⟩
    · exact ⟨in4 3 (by omega), by rw [lh3.1, lh3.2]; exact qIn_1.mpr h⟩
  · rintro ⟨h1, h2⟩
    obtain ⟨m, -, hm, rfl⟩ := qIn_n (a := 0) (b := 4) (by omega) (qIn_1.mp h1) (by omega)
    have hm5 : m = 0 ∨ m = 1 ∨ m = 2 ∨ m = 3 ∨ m = 4 := by omega
    rcases hm5 with rfl | rfl | rfl | rfl | rfl
    · rw [lh0.1, lh0.2] at h2
      exact Or.inl ⟨rfl, qIn_00.mp h2⟩
    · rw [lh1.1, lh1.2] at h2
      exact Or.inr (Or.inr (Or.inl ⟨Or.inl rfl, qIn_1.mp h2⟩))
    · rw [lh2.1, lh2.2] at h2
      exact Or.inr (Or.inr (Or.inl ⟨Or.inr rfl, qIn_1.mp h2⟩))
    · rw [lh3.1, lh3.2] at h2
      exact Or.inr (Or.inr (Or.inr ⟨rfl, qIn_1.mp h2⟩))
    · rw [lh4.1, lh4.2] at h2
      exact Or.inr (Or.inl ⟨rfl, qIn_00.mp h2⟩)
