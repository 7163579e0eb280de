set_option maxRecDepth 100000 in
theorem iL_s0 : zsh zhL 0 = some (9, 20) := by decide +kernel
set_option maxRecDepth 100000 in
theorem iL_refs : ∀ q ∈ cRefs, zr zhL q.1 q.2.1 = some q.2.2 := by decide +kernel
set_option maxRecDepth 100000 in
theorem iL_shs : ∀ q ∈ cShs, zsh zhL q.1 = some q.2 := by decide +kernel
set_option maxRecDepth 100000 in
theorem iL_r : zr zhL 0 4 = some 5 ∧ zr zhL 0 5 = some 7 ∧ zr zhL 0 7 = some 9 ∧ zr zhL 0 8 = some 14 ∧ zr zhL 0 10 = some 20 := by decide +kernel
set_option maxRecDepth 100000 in
theorem iL_lv : zLvs zhL 23 8 := by unfold zLvs; decide +kernel
set_option maxRecDepth 100000 in
theorem iL_wd : zLvs zhL 28 10 := by unfold zLvs; decide +kernel
set_option maxRecDepth 100000 in
theorem iL_b1 : zBr zhL 33 := by unfold zBr; decide +kernel
set_option maxRecDepth 100000 in
theorem iL_b2 : zBr zhL 42 := by unfold zBr; decide +kernel
set_option maxRecDepth 100000 in
theorem iL_b3 : zBr zhL 52 := by unfold zBr; decide +kernel
set_option maxRecDepth 100000 in
theorem iL_c1 : zCu zhL 5 := by unfold zCu; decide +kernel
set_option maxRecDepth 100000 in
theorem iL_c2 : zCu zhL 7 := by unfold zCu; decide +kernel
set_option maxRecDepth 100000 in
theorem iL_r1 : zRv zhL 9 := by unfold zRv; decide +kernel
set_option maxRecDepth 100000 in
theorem iL_r2 : zRv zhL 14 := by unfold zRv; decide +kernel
set_option maxRecDepth 100000 in
theorem iL_rw : zRw zhL 20 := by unfold zRw; decide +kernel
set_option maxRecDepth 100000 in
theorem iL_mo : zMo zhL := by unfold zMo; decide +kernel
set_option maxRecDepth 100000 in
theorem iL_sz : zsz zhL = 117 := by decide +kernel
theorem iL_Kl : zKl zhL 5 7 9 14 20 := ⟨iL_s0, iL_refs, iL_shs, iL_r.1, iL_r.2.1, iL_r.2.2.1, iL_r.2.2.2.1, iL_r.2.2.2.2, iL_lv, iL_wd, iL_b1, iL_b2, iL_b3, iL_c1, iL_c2, iL_r1, iL_r2, iL_rw, iL_mo, Or.inl ⟨rfl, rfl⟩, Or.inl ⟨rfl, rfl⟩, Or.inl rfl, by rw [iL_sz]; decide, by rw [iL_sz]; decide⟩
set_option maxRecDepth 100000 in
theorem iL_i1 : zi zhL 1 1 = nI 0 ∧ zi zhL 85 27 = nI 0 ∧ zi zhL 0 3 = nI 0 ∧ zi zhL 85 5 = nI 0 ∧ zi zhL 3 0 = nI 0 ∧ zi zhL 3 1 = nI 0 := by decide +kernel
set_option maxRecDepth 100000 in
theorem iL_i2 : (∀ k, k < 6 → zi zhL (5 + 1) k = zi zhL 86 k) ∧ zi zhL 86 0 = nI 0 ∧ zi zhL 86 1 = nI 0 ∧ zi zhL 85 1 = nI 0 ∧ zi zhL 86 2 = nI 0 ∧ zi zhL 86 3 = nI 0 ∧ zi zhL 86 4 = nI 0 ∧ zi zhL 0 6 = nI 0 ∧ zi zhL 85 2 = nI 0 := by decide +kernel
set_option maxRecDepth 100000 in
theorem iL_i3 : zi zhL 23 4 = nI 0 ∧ zi zhL 85 8 = nI 0 ∧ zi zhL 0 11 = nI 0 ∧ zi zhL 85 16 = nI 0 ∧ zi zhL 64 2 = nI 0 ∧ zi zhL 85 20 = nI 0 ∧ zi zhL 9 4 = nI 0 ∧ zi zhL 85 23 = nI 0 ∧ zi zhL 0 18 = nI 0 ∧ zi zhL 85 26 = nI 0 ∧ zi zhL 51 3 = -nI 1 ∧ zi zhL 85 29 = nI 0 := by decide +kernel
set_option maxRecDepth 100000 in
theorem iL_i4 : ∀ r, r < 6 → ∀ k, k < 4 → zi zhL (35 + r) k = zi zhL 87 (4 * r + k) := by decide +kernel
set_option maxRecDepth 100000 in
theorem iL_i5 : ∀ r, r < 6 → zi zhL 63 r = zi zhL 97 r ∧ zi zhL 97 r = nI 0 := by decide +kernel
set_option maxRecDepth 100000 in
theorem iL_sp : ∀ k, k < 6 → zr zhL 19 k = some (67 + 3 * k) ∧ zRw zhL (67 + 3 * k) := by unfold zRw; decide +kernel
theorem zInv_of {S : zH} (hP : zSp S 0) (hK : zKl S 5 7 9 14 20) (h1 : zi S 1 1 = nI 0 ∧ zi S 85 27 = nI 0 ∧ zi S 0 3 = nI 0 ∧ zi S 85 5 = nI 0 ∧ zi S 3 0 = nI 0 ∧ zi S 3 1 = nI 0)
    (h2 : (∀ k, k < 6 → zi S (5 + 1) k = zi S 86 k) ∧ zi S 86 0 = nI 0 ∧ zi S 86 1 = nI 0 ∧ zi S 85 1 = nI 0 ∧ zi S 86 2 = nI 0 ∧ zi S 86 3 = nI 0 ∧ zi S 86 4 = nI 0 ∧ zi S 0 6 = nI 0 ∧ zi S 85 2 = nI 0)
    (h3 : zi S 23 4 = nI 0 ∧ zi S 85 8 = nI 0 ∧ zi S 0 11 = nI 0 ∧ zi S 85 16 = nI 0 ∧ zi S 64 2 = nI 0 ∧ zi S 85 20 = nI 0 ∧ zi S 9 4 = nI 0 ∧ zi S 85 23 = nI 0 ∧ zi S 0 18 = nI 0 ∧ zi S 85 26 = nI 0 ∧ zi S 51 3 = -nI 1 ∧ zi S 85 29 = nI 0)
    (h4 : ∀ r, r < 6 → ∀ k, k < 4 → zi S (35 + r) k = zi S 87 (4 * r + k)) (h5 : ∀ r, r < 6 → zi S 63 r = zi S 97 r ∧ zi S 97 r = nI 0) : zInv 0 S := by
  obtain ⟨a1, a2, a3, a4, a5, a6⟩ := h1
  obtain ⟨b1, b2, b3, b4, b5, b6, b7, b8, b9⟩ := h2
  obtain ⟨c1, c2, c3, c4, c5, c6, c7, c8, c9, c10, c11, c12⟩ := h3
  exact ⟨S, zi S, 5, 7, 9, 14, 20, 0, 0, fun _ => 0, 0, 0, 0, 0, 0, fun _ => 0, 0, 0, 0, (zwi_self S).symm, hK, ⟨by omega, a1, a2, fun i hi => by omega⟩, ⟨by omega, a3, a4, a5, a6, fun k hk => by omega⟩, ⟨b1, b2, b3, Or.inl ⟨rfl, rfl, b4⟩, ⟨0, by omega, b5⟩, ⟨0, by omega, b6⟩, ⟨0, by omega, b7⟩, b8, b9⟩, Nat.le_refl 0, ⟨by omega, fun _ => rfl, c1, c2, fun l hl => by omega⟩, ⟨fun r k hr hk => h4 r hr k hk, fun r k hr => by omega⟩, fun r hr => ⟨(h5 r hr).1, 0, by omega, (h5 r hr).2⟩, ⟨⟨by omega, by omega, hP⟩, c3, c4, fun k hk => by omega⟩, ⟨by omega, c5, c6, fun p hp => by omega⟩, ⟨Or.inl rfl, by omega, c7, c8, fun p hp => by omega⟩, ⟨by omega, c9, c10⟩, Or.inl ⟨c11, Or.inl c12⟩⟩
theorem zInv_L : zInv 0 zhL := zInv_of (fun k _ h => iL_sp k h) iL_Kl iL_i1 iL_i2 iL_i3 iL_i4 iL_i5
/-- the law's start: both objects are made -/
theorem law_init (xs : Nat → Int32) (L : Nat) : F_L_law 600 xs L zh0 = F_L_law_L18 600 xs L 0 zhL 0 85 (nI 0) := by
  have e1 : F_X10_init 600 zhA 0 = some ((), zhC) := zGet_of zhC_some
  have e2 : F_X11_init 600 zhM 85 = some ((), zhL) := (n_X11_init 600 zhM 85).trans (zGet_of zhL_some)
  have h1 : F_L_law 600 xs L zh0 = zc (F_X10_init 600 zhA 0) fun _ h3 => zno h3 10 51 fun w4 h5 => zc (F_X11_init 600 h5 w4) fun _ h6 => F_L_law_L18 600 xs L 0 h6 0 w4 (0 : Int32) := rfl
  rw [h1, e1, zc_some]
  have h2 : (zno zhC 10 51 fun w4 h5 => zc (F_X11_init 600 h5 w4) fun _ h6 => F_L_law_L18 600 xs L 0 h6 0 w4 (0 : Int32)) = zc (F_X11_init 600 zhM (zsz zhC)) fun _ h6 => F_L_law_L18 600 xs L 0 h6 0 (zsz zhC) (0 : Int32) := rfl
  rw [h2, zhC_sz, e2, zc_some]
  rfl
