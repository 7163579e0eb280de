/-! ===== the rounds stay between -99 and 99 ===== -/
theorem i_bm {x : Int} (h : -2147483648 ≤ x ∧ x < 2147483648) : x.bmod (2 ^ 32) = x := by
  unfold Int.bmod
  have e : ((4294967296 : Int) + 1) / 2 = 2147483648 := by decide
  have e2 : ((2 ^ 32 : Nat) : Int) = 4294967296 := by decide
  simp only [e2, e]
  by_cases h0 : x % 4294967296 < 2147483648
  · rw [if_pos h0]
    omega
  · rw [if_neg h0]
    omega
theorem i_add {a b : Int32} (h : -2147483648 ≤ a.toInt + b.toInt ∧ a.toInt + b.toInt < 2147483648) : (a + b).toInt = a.toInt + b.toInt := by rw [Int32.toInt_add, i_bm h]
theorem i_sub {a b : Int32} (h : -2147483648 ≤ a.toInt - b.toInt ∧ a.toInt - b.toInt < 2147483648) : (a - b).toInt = a.toInt - b.toInt := by rw [Int32.toInt_sub, i_bm h]
theorem i_mul {a b : Int32} (h : -2147483648 ≤ a.toInt * b.toInt ∧ a.toInt * b.toInt < 2147483648) : (a * b).toInt = a.toInt * b.toInt := by rw [Int32.toInt_mul, i_bm h]
theorem i_div {a b : Int32} (h : -2147483648 ≤ a.toInt.tdiv b.toInt ∧ a.toInt.tdiv b.toInt < 2147483648) : (a / b).toInt = a.toInt.tdiv b.toInt := by rw [Int32.toInt_div, i_bm h]
theorem q_td {d s c : Int} (hs : 0 ≤ s) (hsc : s ≤ c) (hc : 0 < c) : (0 ≤ d → 0 ≤ (d * s).tdiv c ∧ (d * s).tdiv c ≤ d) ∧ (d ≤ 0 → d ≤ (d * s).tdiv c ∧ (d * s).tdiv c ≤ 0) := by
  have pos : ∀ d : Int, 0 ≤ d → 0 ≤ (d * s).tdiv c ∧ (d * s).tdiv c ≤ d := fun d hd => by
    have h1 : 0 ≤ d * s := Int.mul_nonneg hd hs
    rw [Int.tdiv_eq_ediv_of_nonneg h1]
    exact ⟨Int.ediv_nonneg h1 (by omega), Int.ediv_le_of_le_mul hc (Int.mul_le_mul_of_nonneg_left hsc hd)⟩
  refine ⟨pos d, fun hd => ?_⟩
  have h2 := pos (-d) (by omega)
  have h3 : (d * s).tdiv c = -((-d * s).tdiv c) := by
    rw [Int.neg_mul, Int.neg_tdiv, Int.neg_neg]
  omega
def qb (v : Int32) : Prop := -99 ≤ v.toInt ∧ v.toInt ≤ 99
theorem qb_cl {v : Int32} (h : qb v) : qcl v = v := by
  unfold qcl
  have h1 := n_neg99
  have h2 := n_99
  rw [if_pos (Int32.le_iff_toInt_le.mpr (by have := h.2; omega)), if_pos (Int32.le_iff_toInt_le.mpr (by have := h.1; omega))]
theorem qb_qcl (v : Int32) : qb (qcl v) := by
  unfold qcl qb
  have h1 := n_neg99
  have h2 := n_99
  by_cases ha : v ≤ nI 99
  · rw [if_pos ha]
    have := i_le ha
    by_cases hb : -nI 99 ≤ v
    · rw [if_pos hb]
      have := i_le hb
      omega
    · rw [if_neg hb]
      omega
  · rw [if_neg ha]
    omega
theorem n_int {n : Nat} (h : n < 2147483648) : (nI n).toInt = n := nI_toInt h
theorem i_mulb {a b : Int} (ha : -2000 ≤ a ∧ a ≤ 2000) (hb : 0 ≤ b ∧ b ≤ 100) : -200000 ≤ a * b ∧ a * b ≤ 200000 := by
  have h1 : a * b ≤ 2000 * b := Int.mul_le_mul_of_nonneg_right ha.2 hb.1
  have h2 : -2000 * b ≤ a * b := Int.mul_le_mul_of_nonneg_right ha.1 hb.1
  omega
theorem qb_half {v : Int32} (h : qb v) : qb (v / nI 2) := by
  obtain ⟨h1, h2⟩ := h
  have q := q_td (d := v.toInt) (s := 1) (c := 2) (by omega) (by omega) (by omega)
  rw [Int.mul_one] at q
  have e : (v / nI 2).toInt = v.toInt.tdiv 2 := by
    have := i_div (a := v) (b := nI 2)
    rw [show (nI 2).toInt = 2 by decide] at this
    refine this ?_
    rcases Int.le_total 0 v.toInt with z | z
    · have := q.1 z; omega
    · have := q.2 z; omega
  unfold qb
  rw [e]
  rcases Int.le_total 0 v.toInt with z | z
  · have := q.1 z; omega
  · have := q.2 z; omega
theorem qb_drag {ba t x : Int32} {u : Nat} (hx : qb x) (hb : 0 ≤ ba.toInt ∧ ba.toInt ≤ 99) (ht : t = nI u) (hu : u ≤ 10) : qb (qDrag ba t x) := by
  obtain ⟨h1, h2⟩ := hx
  unfold qDrag
  rw [ht, n_sub hu]
  have e1 : (x - ba).toInt = x.toInt - ba.toInt := i_sub (by omega)
  have hs : (nI (10 - u)).toInt = ((10 - u : Nat) : Int) := n_int (by omega)
  have hm := i_mulb (a := x.toInt - ba.toInt) (b := ((10 - u : Nat) : Int)) (by omega) (by omega)
  have e2 : ((x - ba) * nI (10 - u)).toInt = (x.toInt - ba.toInt) * ((10 - u : Nat) : Int) := by
    rw [i_mul (by rw [e1, hs]; omega), e1, hs]
  have q := q_td (d := x.toInt - ba.toInt) (s := ((10 - u : Nat) : Int)) (c := 10) (by omega) (by omega) (by omega)
  have e3 : ((x - ba) * nI (10 - u) / nI 10).toInt = ((x.toInt - ba.toInt) * ((10 - u : Nat) : Int)).tdiv 10 := by
    have := i_div (a := (x - ba) * nI (10 - u)) (b := nI 10)
    rw [show (nI 10).toInt = 10 by decide, e2] at this
    refine this ?_
    rcases Int.le_total 0 (x.toInt - ba.toInt) with z | z
    · have := q.1 z; omega
    · have := q.2 z; omega
  unfold qb
  rcases Int.le_total 0 (x.toInt - ba.toInt) with z | z
  · have := q.1 z
    rw [i_add (by rw [e3]; omega), e3]
    omega
  · have := q.2 z
    rw [i_add (by rw [e3]; omega), e3]
    omega
theorem qb_blend {x y m : Int32} {u : Nat} (hx : qb x) (hy : qb y) (hm : m = nI u) (hu : u ≤ 9) : qb (x + (y - x) * m / nI 20) ∧ qb (y - (y - x) * m / nI 20) := by
  obtain ⟨h1, h2⟩ := hx
  obtain ⟨h3, h4⟩ := hy
  rw [hm]
  have e1 : (y - x).toInt = y.toInt - x.toInt := i_sub (by omega)
  have hs : (nI u).toInt = (u : Int) := n_int (by omega)
  have hq := i_mulb (a := y.toInt - x.toInt) (b := (u : Int)) (by omega) (by omega)
  have e2 : ((y - x) * nI u).toInt = (y.toInt - x.toInt) * (u : Int) := by
    rw [i_mul (by rw [e1, hs]; omega), e1, hs]
  have q := q_td (d := y.toInt - x.toInt) (s := (u : Int)) (c := 20) (by omega) (by omega) (by omega)
  have e3 : ((y - x) * nI u / nI 20).toInt = ((y.toInt - x.toInt) * (u : Int)).tdiv 20 := by
    have := i_div (a := (y - x) * nI u) (b := nI 20)
    rw [show (nI 20).toInt = 20 by decide, e2] at this
    refine this ?_
    rcases Int.le_total 0 (y.toInt - x.toInt) with z | z
    · have := q.1 z; omega
    · have := q.2 z; omega
  unfold qb
  rcases Int.le_total 0 (y.toInt - x.toInt) with z | z
  · have := q.1 z
    rw [i_add (by rw [e3]; omega), i_sub (by rw [e3]; omega), e3]
    omega
  · have := q.2 z
    rw [i_add (by rw [e3]; omega), i_sub (by rw [e3]; omega), e3]
    omega
def qB (R H : Nat) (w : Nat → Nat → Int32) : Prop := ∀ r k, r < R → k < H → qb (w r k)
theorem qB_fix {R H : Nat} {w : Nat → Nat → Int32} (h : qB R H w) : qFix R H w := fun r k hr hk => qb_cl (h r k hr hk)
theorem qB_2 {R H : Nat} {w : Nat → Nat → Int32} {a k : Nat} {v : Int32} (h : qB R H w) (hv : qb v) : qB R H (z2 w a k v) := by
  intro r j hr hj
  unfold z2
  by_cases h1 : r = a ∧ j = k
  · rw [if_pos h1]; exact hv
  · rw [if_neg h1]; exact h r j hr hj
theorem zit_P {α : Type} {g : Nat → α → α} {P : α → Prop} {a : α} {N : Nat} (h0 : P a) (h : ∀ i x, i < N → P x → P (g i x)) : P (zit g a N) := zit_inv (P := fun _ => P) h0 h
/-- a doing that can be told -/
def qOk (k m : Int32) : Prop := k = nI 3 → 0 ≤ m.toInt ∧ m.toInt ≤ 99
theorem qBase_in {k m : Int32} (h : qOk k m) : 0 ≤ (qBase k m).toInt ∧ (qBase k m).toInt ≤ 99 := by
  unfold qBase
  by_cases h3 : k = nI 3
  · rw [if_pos h3]; exact h h3
  · rw [if_neg h3]
    have : (nI 0).toInt = 0 := by decide
    omega
theorem qB_move {R H : Nat} {p : Int32} {w : Nat → Nat → Int32} (h : qB R H w) : qB R H (qMove R H p w) :=
  zit_P h (fun _ _ _ h1 => zit_P h1 (fun _ _ _ h2 => qB_2 h2 (qb_qcl _)))
theorem qB_stir {R H : Nat} {k m : Int32} {w : Nat → Nat → Int32} (hR : 1 ≤ R) (h : qB R H w) : qB R H (qStir R H k m w) := by
  unfold qStir
  by_cases h4 : k = nI 4
  · rw [if_pos h4]
    exact zit_P (qB_move h) (fun i _ hi h1 => qB_2 h1 (qb_half (h1 0 i (by omega) hi)))
  · rw [if_neg h4]
    exact qB_move h
theorem qWall10_in {t : Nat → Int32} {u : Nat} (h3 : t 3 = nI u) (hu : u ≤ 9) : ∃ x, x ≤ 10 ∧ qWall10 t = nI x := by
  unfold qWall10
  by_cases h5 : t 5 = nI 1
  · rw [if_pos h5, h3, pk_mul]
    by_cases h6 : 2 * u ≤ 10
    · exact ⟨2 * u, h6, if_pos (nI_le h6 (by omega))⟩
    · exact ⟨10, Nat.le_refl _, if_neg (nI_ge (by omega) (by omega))⟩
  · rw [if_neg h5, h3]
    exact ⟨u, by omega, if_pos (nI_le (by omega) (by omega))⟩
theorem qB_tick {R H : Nat} {t : Nat → Int32} {k m : Int32} {w : Nat → Nat → Int32} {u2 u3 u4 : Nat} (hR : 1 ≤ R) (hH : 1 ≤ H) (h2 : t 2 = nI u2) (hu2 : u2 ≤ 9) (h3 : t 3 = nI u3) (hu3 : u3 ≤ 9) (h4 : t 4 = nI u4) (hu4 : u4 ≤ 9) (hk : qOk k m) (h : qB R H w) : qB R H (qTick R H t k m w) := by
  have hb := qBase_in hk
  obtain ⟨x, hx, hx2⟩ := qWall10_in h3 hu3
  unfold qTick qSlow
  have s1 : qB R H (qFloor R (qBase k m) (t 2) (qStir R H k m w)) := zit_P (qB_stir hR h) (fun r _ hr h1 => qB_2 h1 (qb_drag (h1 r 0 hr (by omega)) hb h2 (by omega)))
  have s2 : qB R H (qWall R H (qBase k m) (qWall10 t) (qFloor R (qBase k m) (t 2) (qStir R H k m w))) := zit_P s1 (fun i _ hi h1 => qB_2 h1 (qb_drag (h1 (R - 1) i (by omega) hi) hb hx2 hx))
  refine zit_P s2 (fun r _ hr h1 => zit_P h1 (fun i w hi h5 => ?_))
  have q := qb_blend (h5 r i hr (by omega)) (h5 r (i + 1) hr (by omega)) h4 hu4
  exact qB_2 (qB_2 h5 q.1) q.2
theorem qB_W {R H : Nat} {t : Nat → Int32} {k m : Int32} {w : Nat → Nat → Int32} {u2 u3 u4 : Nat} (hR : 1 ≤ R) (hH : 1 ≤ H) (h2 : t 2 = nI u2) (hu2 : u2 ≤ 9) (h3 : t 3 = nI u3) (hu3 : u3 ≤ 9) (h4 : t 4 = nI u4) (hu4 : u4 ≤ 9) (hk : qOk k m) (h : qB R H w) (N : Nat) : qB R H (qW (qTick R H t k m) w N) :=
  zit_P h (fun _ _ _ h1 => qB_tick hR hH h2 hu2 h3 hu3 h4 hu4 hk h1)
theorem qB_0 {R H : Nat} : qB R H q0 := fun _ _ _ _ => by
  have : (nI 0).toInt = 0 := by decide
  unfold qb q0
  omega
