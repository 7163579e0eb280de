/-! ===== a machine that reads letters; bytes of a long ===== -/
def tst {σ : Type} (st : σ → Nat → Option σ) (s0 : σ) (cd : Nat → Nat) : Nat → Option σ
  | 0 => some s0
  | i + 1 => (tst st s0 cd i).bind (fun s => st s (cd i))
theorem tst_s {σ : Type} (st : σ → Nat → Option σ) (s0 : σ) (cd : Nat → Nat) {i : Nat} {s : σ} (h : tst st s0 cd i = some s) : tst st s0 cd (i + 1) = st s (cd i) := by
  show (tst st s0 cd i).bind (fun s => st s (cd i)) = _
  rw [h]
  rfl
theorem tst_first {σ : Type} (st : σ → Nat → Option σ) (s0 : σ) (cd : Nat → Nat) : ∀ N, ∃ k s, k ≤ N ∧ tst st s0 cd k = some s ∧ (k = N ∨ (k < N ∧ st s (cd k) = none))
  | 0 => ⟨0, s0, Nat.le_refl 0, rfl, Or.inl rfl⟩
  | N + 1 => by
    obtain ⟨k, s, h1, h2, h3⟩ := tst_first st s0 cd N
    rcases h3 with h3 | ⟨h3, h4⟩
    · subst h3
      cases hs : st s (cd k) with
      | none => exact ⟨k, s, by omega, h2, Or.inr ⟨by omega, hs⟩⟩
      | some s' => exact ⟨k + 1, s', Nat.le_refl _, (tst_s st s0 cd h2).trans hs, Or.inl rfl⟩
    · exact ⟨k, s, by omega, h2, Or.inr ⟨by omega, h4⟩⟩
theorem tst_lt {σ : Type} {st : σ → Nat → Option σ} {s0 : σ} {cd : Nat → Nat} : ∀ {k i : Nat} {s : σ}, tst st s0 cd k = some s → i ≤ k → ∃ s', tst st s0 cd i = some s'
  | 0, i, s, h, hi => ⟨s, by rw [show i = 0 by omega]; exact h⟩
  | k + 1, i, s, h, hi => by
    by_cases e : i = k + 1
    · subst e
      exact ⟨s, h⟩
    · cases hk : tst st s0 cd k with
      | none =>
        have h' : (tst st s0 cd k).bind (fun s => st s (cd k)) = some s := h
        rw [hk] at h'
        cases h'
      | some s' => exact tst_lt hk (by omega)
theorem tst_step {σ : Type} {st : σ → Nat → Option σ} {s0 : σ} {cd : Nat → Nat} {k i : Nat} {s s' : σ} (h : tst st s0 cd k = some s) (hi : i < k) (h' : tst st s0 cd i = some s') : ∃ s'', st s' (cd i) = some s'' ∧ tst st s0 cd (i + 1) = some s'' := by
  obtain ⟨s'', e⟩ := tst_lt h (show i + 1 ≤ k by omega)
  exact ⟨s'', (tst_s st s0 cd h').symm.trans e, e⟩
theorem tst_inv {σ : Type} {st : σ → Nat → Option σ} {s0 : σ} {cd : Nat → Nat} (P : Nat → σ → Prop) (h0 : P 0 s0) : ∀ {k : Nat} {s : σ}, (∀ i a b, i < k → P i a → st a (cd i) = some b → P (i + 1) b) → tst st s0 cd k = some s → P k s
  | 0, s, _, h => by
    have e : s0 = s := Option.some.inj h
    rw [← e]; exact h0
  | k + 1, s, hs, h => by
    obtain ⟨a, ha⟩ := tst_lt h (Nat.le_succ k)
    exact hs k a s (Nat.lt_succ_self k) (tst_inv P h0 (fun i a b hi => hs i a b (by omega)) ha) ((tst_s st s0 cd ha).symm.trans h)
/-! bytes -/
theorem wb_tb (n : Nat) : (lN n).toBitVec = BitVec.ofNat 64 n := rfl
theorem wb_inj {a b : Int64} (h : a.toBitVec = b.toBitVec) : a = b := Int64.toBitVec_inj.mp h
theorem wb_tn {n : Nat} (h : n < 2 ^ 64) : (lN n).toBitVec.toNat = n := by rw [wb_tb, BitVec.toNat_ofNat, Nat.mod_eq_of_lt h]
theorem wb_of (x : Int64) : ∃ n, n < 2 ^ 64 ∧ x = lN n := ⟨x.toBitVec.toNat, x.toBitVec.isLt, wb_inj (by rw [wb_tb]; simp)⟩
theorem wb_c : ∀ k, k < 64 → ((nI k).toInt64 &&& 63) = lN k := by decide +kernel
theorem wb_cu : ∀ k, k < 64 → ((nI k).toInt64.toUInt64 &&& Int64.toUInt64 63) = UInt64.ofNat k := by decide +kernel
theorem wb_sm : ∀ k, k < 64 → (BitVec.ofNat 64 k).smod 64 = BitVec.ofNat 64 k := by decide +kernel
theorem wb_lt2 {a b : Nat} (h : a < b) : 2 ^ a < 2 ^ b := Nat.pow_lt_pow_right (by decide) h
theorem wb_shr {n k : Nat} (hn : n < 2 ^ 64) (hk : k < 64) : ((lN n).toUInt64 >>> ((nI k).toInt64.toUInt64 &&& Int64.toUInt64 63)).toInt64 = lN (n / 2 ^ k) := by
  rw [wb_cu k hk]
  apply wb_inj
  apply BitVec.eq_of_toNat_eq
  show ((lN n).toUInt64 >>> UInt64.ofNat k).toNat = (BitVec.ofNat 64 _).toNat
  have h1 : (UInt64.ofNat k).toNat = k := by
    show (BitVec.ofNat 64 k).toNat = k
    rw [BitVec.toNat_ofNat, Nat.mod_eq_of_lt (by omega)]
  have h2 : (lN n).toUInt64.toNat = n := wb_tn hn
  rw [UInt64.toNat_shiftRight, h1, h2, Nat.mod_eq_of_lt hk, Nat.shiftRight_eq_div_pow, BitVec.toNat_ofNat, Nat.mod_eq_of_lt (Nat.lt_of_le_of_lt (Nat.div_le_self _ _) hn)]
theorem wb_and {a b : Nat} (ha : a < 2 ^ 64) (hb : b < 2 ^ 64) : lN a &&& lN b = lN (a &&& b) := by
  apply wb_inj
  rw [Int64.toBitVec_and, wb_tb, wb_tb, wb_tb]
  apply BitVec.eq_of_toNat_eq
  rw [BitVec.toNat_and, BitVec.toNat_ofNat, BitVec.toNat_ofNat, BitVec.toNat_ofNat, Nat.mod_eq_of_lt ha, Nat.mod_eq_of_lt hb, Nat.mod_eq_of_lt (Nat.and_lt_two_pow _ hb)]
theorem wb_mask {n k : Nat} (hn : n < 2 ^ 64) (hk : k < 64) : lN n &&& lN (2 ^ k - 1) = lN (n % 2 ^ k) := by
  rw [wb_and hn (by have := wb_lt2 hk; omega), Nat.and_two_pow_sub_one_eq_mod]
/-- the bytes of a long -/
def wB (n k : Nat) : Nat := n / 2 ^ (8 * k) % 256
theorem wB_lt (n k : Nat) : wB n k < 256 := Nat.mod_lt _ (by decide)
theorem wb_255 : (255 : Int64) = lN (2 ^ 8 - 1) := rfl
theorem wb_u {n k : Nat} (hn : n < 2 ^ 64) (hk : k < 8) : ((lN n).toUInt64 >>> ((nI (8 * k)).toInt64.toUInt64 &&& Int64.toUInt64 63)).toInt64 &&& 255 = lN (wB n k) := by
  rw [wb_shr hn (by omega), wb_255, wb_mask (Nat.lt_of_le_of_lt (Nat.div_le_self _ _) hn) (by omega)]
  rfl
theorem wb_s {n k : Nat} (hn : n < 2 ^ 64) (hk : k < 8) : (lN n >>> ((nI (8 * k)).toInt64 &&& 63)) &&& 255 = lN (wB n k) := by
  rw [← wb_u hn hk, wb_c _ (by omega), wb_cu _ (by omega)]
  apply wb_inj
  have e2 : ((lN n).toUInt64 >>> UInt64.ofNat (8 * k)).toInt64.toBitVec = (lN n).toBitVec >>> (8 * k) := by
    apply BitVec.eq_of_toNat_eq
    show ((lN n).toUInt64 >>> UInt64.ofNat (8 * k)).toNat = _
    have h1 : (UInt64.ofNat (8 * k)).toNat = 8 * k := by
      show (BitVec.ofNat 64 (8 * k)).toNat = 8 * k
      rw [BitVec.toNat_ofNat, Nat.mod_eq_of_lt (by omega)]
    rw [UInt64.toNat_shiftRight, h1, Nat.mod_eq_of_lt (show 8 * k < 64 by omega), BitVec.toNat_ushiftRight]
    rfl
  rw [Int64.toBitVec_and, Int64.toBitVec_and, e2, Int64.toBitVec_shiftRight, wb_tb (8 * k), wb_sm _ (by omega)]
  have h255 : (255 : Int64).toBitVec = BitVec.ofNat 64 (2 ^ 8 - 1) := rfl
  rw [h255]
  apply BitVec.eq_of_getLsbD_eq
  intro i hi
  rw [BitVec.getLsbD_and, BitVec.getLsbD_and]
  by_cases h8 : i < 8
  · congr 1
    rw [BitVec.sshiftRight_eq', BitVec.getLsbD_sshiftRight, BitVec.getLsbD_ushiftRight, BitVec.toNat_ofNat, Nat.mod_eq_of_lt (by omega)]
    simp [show ¬ 64 ≤ i by omega, show 8 * k + i < 64 by omega]
  · have : (BitVec.ofNat 64 (2 ^ 8 - 1)).getLsbD i = false := by
      rw [BitVec.getLsbD_ofNat]
      have : (2 ^ 8 - 1).testBit i = false := Nat.testBit_lt_two_pow (Nat.lt_of_lt_of_le (by decide : 2 ^ 8 - 1 < 2 ^ 8) (Nat.pow_le_pow_right (by decide) (by omega)))
      rw [this, Bool.and_false]
    rw [this, Bool.and_false, Bool.and_false]
theorem wb_i : ∀ m, m < 256 → (lN m).toInt32 = nI m := by decide +kernel
theorem wb_b : ∀ m, m < 127 → (nI m).toInt8.toInt32 = nI m := by decide +kernel
theorem wb_low (x : Int64) : x.toInt32.toInt8 = (x &&& 255).toInt32.toInt8 := by
  apply Int8.toBitVec_inj.mp
  rw [Int32.toBitVec_toInt8, Int32.toBitVec_toInt8, Int64.toBitVec_toInt32, Int64.toBitVec_toInt32, Int64.toBitVec_and]
  have h255 : (255 : Int64).toBitVec = BitVec.ofNat 64 (2 ^ 8 - 1) := rfl
  rw [h255]
  apply BitVec.eq_of_getLsbD_eq
  intro i hi
  have : (2 ^ 8 - 1).testBit i = true := by
    rw [Nat.testBit_two_pow_sub_one]
    exact decide_eq_true (by omega)
  simp only [BitVec.getLsbD_signExtend, BitVec.getLsbD_and, BitVec.getLsbD_ofNat, this, show i < 64 by omega, show i < 32 by omega, show i < 8 by omega, decide_true, Bool.and_true, Bool.true_and, ↓reduceIte]
theorem wb_page {n k : Nat} (hn : n < 2 ^ 64) (hk : k < 8) (h : wB n k ≤ 126) : (lN n >>> ((nI (8 * k)).toInt64 &&& 63)).toInt32.toInt8.toInt32 = nI (wB n k) := by
  rw [wb_low, wb_s hn hk, wb_i _ (wB_lt n k), wb_b _ (by omega)]
