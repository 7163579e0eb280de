/-! ===== which point saves ===== -/
def qBs (pt : Nat) (V : Nat → Int32) : Int32 := zit (fun i s => s + qabs (qBend V (i + 1))) (nI 0) (pt - 2)
theorem qabs_0 (x : Int32) : (if (0 : Int32) ≤ x then x else 0 - x) = qabs x := qabs_c x
theorem eC_bendsT (n : Nat) {S : zH} {F : Nat → Nat → Int32} {r pt : Nat} {V : Nat → Int32} (hn : 513 < n) (hR : zRv S r) (hp : F r 4 = nI pt) (h2 : 2 ≤ pt) (h10 : pt ≤ 10) (hV : ∀ p, p < pt → F (r + 3) p = V p) : F_X7_bendsTogether n (zwi S F) r = some (qBs pt V, zwi S F) := by
  obtain ⟨c1, c2, c3, c4, c5, c6, c7, c8, c9⟩ := hR
  unfold F_X7_bendsTogether F_X7_bendsTogether_L4 qBs
  rw [zl0, zl1]
  refine zfor (fun i => (zwi S F, zit (fun i s => s + qabs (qBend V (i + 1))) (nI 0) i, nI (i + 1))) (pt - 2) (fun kc i hi => ?_) (fun kc => ?_) (by omega)
  · have eb := eC_bend n (F := F) (i := i) (W := V) c8 (by omega) (fun p hpp => hV p (by omega))
    have hlt : ¬ nI pt - (1 : Int32) ≤ nI (i + 1) := by
      rw [zl1, n_sub (by omega)]
      exact nI_ge (by omega) (by omega)
    dsimp only
    unfold F_X7_bendsTogether_B4
    rw [e_gi, if_pos c1, hp]
    dsimp only [zv]
    rw [if_neg hlt, e_gr, if_pos c1, c4, zmo_some, eb, zc_some, zit_s']
    rw [qabs_0]
    simp (disch := omega) only [zl0, zl1, zl2, zl3, zl4, zl5, zl6, zl7, zl8, zl9, zl10, zl11, zl12, zl20, zl24, zl31, zl36, zl40, zl42, zl44, zl48, zl49, zl50, zl55, zl57, zl60, zl97, zl99, zl100, zl102, zl104, zl109, zl113, zl114, zl119, zl126, zl255, zl400, zl1000, zl101, zl103, zl1001, zl1002, zl16, zl18, zl32, zl35, zl443, n_leT, n_leF, n_ltT, n_ltF, n_eqT, n_eqF, n_swT, n_swF, nI_add, n_sub, pk_mul, zd_n]
  · have e5 : pt - 2 + 1 = pt - 1 := by omega
    rw [e5]
    simp (disch := omega) only [F_X7_bendsTogether_B4, zv, e_gi, e_gr, e_gl, e_si, e_sb, e_ai, e_ar, e_ti, e_ty, e_tz, e_cv, zc_some, zmo_some, zin_T, ↓reduceIte, zit_succ, zzr0, zzr1, true_and, and_true, and_self, or_false, false_or, or_true, true_or, not_true_eq_false, not_false_eq_true, zl0, zl1, zl2, zl3, zl4, zl5, zl6, zl7, zl8, zl9, zl10, zl11, zl12, zl20, zl24, zl31, zl36, zl40, zl42, zl44, zl48, zl49, zl50, zl55, zl57, zl60, zl97, zl99, zl100, zl102, zl104, zl109, zl113, zl114, zl119, zl126, zl255, zl400, zl1000, zl101, zl103, zl1001, zl1002, zl16, zl18, zl32, zl35, zl443, n_leT, n_leF, n_ltT, n_ltF, n_eqT, n_eqF, n_swT, n_swF, nI_add, n_sub, pk_mul, zd_n, c1, hp]
/-- the best so far -/
def qPk (p c : Nat) (b : Int32) (s : Option (Nat × Nat × Int32)) : Option (Nat × Nat × Int32) := match s with
  | none => some (p, c, b)
  | some t => if c < t.2.1 ∨ (c = t.2.1 ∧ b < t.2.2) then some (p, c, b) else some t
theorem qPk_n (p c : Nat) (b : Int32) : qPk p c b none = some (p, c, b) := rfl
theorem qPk_T {p c : Nat} {b : Int32} {t : Nat × Nat × Int32} (h : c < t.2.1 ∨ (c = t.2.1 ∧ b < t.2.2)) : qPk p c b (some t) = some (p, c, b) := if_pos h
theorem qPk_F {p c : Nat} {b : Int32} {t : Nat × Nat × Int32} (h : ¬ (c < t.2.1 ∨ (c = t.2.1 ∧ b < t.2.2))) : qPk p c b (some t) = some t := if_neg h
def qSvS (pt : Nat) (e : Nat → Int32) (C : Nat → Nat) (B : Nat → Int32) (p : Nat) (s : Option (Nat × Nat × Int32)) : Option (Nat × Nat × Int32) :=
  if 1 ≤ p ∧ p + 1 < pt ∧ e p = nI 0 then qPk p (C p) (B p) s else s
def qSv (pt : Nat) (e : Nat → Int32) (C : Nat → Nat) (B : Nat → Int32) (i : Nat) : Option (Nat × Nat × Int32) := zit (qSvS pt e C B) none i
theorem qSv_s (pt : Nat) (e : Nat → Int32) (C : Nat → Nat) (B : Nat → Int32) (i : Nat) : qSv pt e C B (i + 1) = qSvS pt e C B i (qSv pt e C B i) := rfl
def cT (s : Option (Nat × Nat × Int32)) : Int32 × Int32 × Int32 := match s with
  | none => (-nI 1, nI 1000000, nI 1000000)
  | some t => (nI t.1, nI t.2.1, t.2.2)
def mT (s : Option (Nat × Nat × Int32)) : Int32 × Int32 × Int32 := match s with
  | none => (-nI 1, nI 0, nI 0)
  | some t => (nI t.1, nI t.2.1, t.2.2)
theorem cT_mT (s : Option (Nat × Nat × Int32)) : (cT s).1 = (mT s).1 := by
  cases s <;> rfl
theorem qSv_b {pt : Nat} {e : Nat → Int32} {C : Nat → Nat} {B : Nat → Int32} (hC : ∀ p, C p ≤ 800) : ∀ (i : Nat) {t : Nat × Nat × Int32}, qSv pt e C B i = some t → t.1 ≤ i ∧ t.2.1 ≤ 800
  | 0, t, h => by cases h
  | i + 1, t, h => by
    rw [qSv_s] at h
    have ih := fun t => qSv_b (pt := pt) (e := e) (B := B) hC i (t := t)
    generalize qSv pt e C B i = s at h ih
    unfold qSvS at h
    by_cases h1 : 1 ≤ i ∧ i + 1 < pt ∧ e i = nI 0
    · rw [if_pos h1] at h
      cases s with
      | none =>
        rw [qPk_n] at h
        cases h
        exact ⟨by dsimp only; omega, hC i⟩
      | some t' =>
        by_cases h2 : C i < t'.2.1 ∨ (C i = t'.2.1 ∧ B i < t'.2.2)
        · rw [qPk_T h2] at h
          cases h
          exact ⟨by dsimp only; omega, hC i⟩
        · rw [qPk_F h2] at h
          cases h
          have := ih t rfl
          omega
    · rw [if_neg h1] at h
      have := ih t h
      omega
theorem n_lt_iff {a b : Nat} (ha : a < 2147483648) (hb : b < 2147483648) : (nI a < nI b) ↔ a < b := by
  constructor
  · intro h
    have := i_lt h
    rw [n_int ha, n_int hb] at this
    omega
  · exact fun h => nI_lt h hb
theorem i_leT {x y : Int32} (h : ¬ y < x) : x ≤ y := Int32.le_iff_toInt_le.mpr (i_nlt h)
theorem i_leF {x y : Int32} (h : y < x) : ¬ x ≤ y := fun z => by have := i_le z; have := i_lt h; omega
/-- a step of the class -/
theorem eC_svS (n : Nat) {S : zH} {F : Nat → Nat → Int32} {r pt p Y : Nat} {W e : Nat → Int32} {ea ne : Int32} {s : Option (Nat × Nat × Int32)} (hn : 513 < n) (h0 : zsh S 0 = some (9, 20)) (r7 : zr S 0 7 = some r) (hR : zRv S r) (hp : F r 4 = nI pt) (h2 : 2 ≤ pt) (h10 : pt ≤ 10) (hY : Y ≤ 100) (hW : ∀ p, p < pt → F (r + 1) p = W p) (he : ∀ p, p < pt → F (r + 2) p = e p) (hpp : p < pt) (hs : ∀ t, s = some t → t.2.1 ≤ 800) :
    ∃ F', (∀ kc, F_X10_saves_B42 n kc (zwi S F) 0 (nI Y) ea ne (cT s).1 (cT s).2.1 (cT s).2.2 (nI p) = kc (zwi S F', (cT (qSvS pt e (fun p => (qYs pt ea ne (nI p) e W Y).2.1) (fun p => qBs pt (qYs pt ea ne (nI p) e W Y).1) p s)).1, (cT (qSvS pt e (fun p => (qYs pt ea ne (nI p) e W Y).2.1) (fun p => qBs pt (qYs pt ea ne (nI p) e W Y).1) p s)).2.1, (cT (qSvS pt e (fun p => (qYs pt ea ne (nI p) e W Y).2.1) (fun p => qBs pt (qYs pt ea ne (nI p) e W Y).1) p s)).2.2, nI (p + 1))) ∧ ∀ a j, a ≠ r + 3 → a ≠ r + 4 → F' a j = F a j := by
  have c1 := hR.1
  have ef := eC_free n (S := S) (F := F) (p := p) hR hp h10 (by omega)
  rw [he p hpp] at ef
  have hlt : ¬ nI pt ≤ nI p := nI_ge (by omega) (by omega)
  unfold qSvS
  by_cases h1 : 1 ≤ p ∧ p + 1 < pt ∧ e p = nI 0
  · rw [if_pos h1] at ef
    rw [if_pos h1]
    obtain ⟨F1, t1, t2, t3⟩ := eC_goY n (f := F) (ea := ea) (ne := ne) (hd := nI p) (Y := Y) hn hR hp h2 h10 hY hW he
    have eb := eC_bendsT n (F := F1) hn hR ((t3 r 4 (by omega) (by omega)).trans hp) h2 h10 t2
    have hC := qYs_le (ea := ea) (ne := ne) (hd := nI p) (e := e) (W := W) h10 Y
    have hpre : ∀ (kc : zH × Int32 × Int32 × Int32 × Int32 → Option (Int32 × zH)) (b f l : Int32), F_X10_saves_B42 n kc (zwi S F) 0 (nI Y) ea ne b f l (nI p) = if nI (qYs pt ea ne (nI p) e W Y).2.1 < f then F_X10_saves_J110 n kc (zwi S F1) 0 (nI Y) ea ne (nI p) (nI (qYs pt ea ne (nI p) e W Y).2.1) (qBs pt (qYs pt ea ne (nI p) e W Y).1) else if nI (qYs pt ea ne (nI p) e W Y).2.1 = f then (if l ≤ qBs pt (qYs pt ea ne (nI p) e W Y).1 then F_X10_saves_J122 n kc (zwi S F1) 0 (nI Y) ea ne b f l (nI p) else F_X10_saves_J110 n kc (zwi S F1) 0 (nI Y) ea ne (nI p) (nI (qYs pt ea ne (nI p) e W Y).2.1) (qBs pt (qYs pt ea ne (nI p) e W Y).1)) else F_X10_saves_J122 n kc (zwi S F1) 0 (nI Y) ea ne b f l (nI p) := fun kc b f l => by
      unfold F_X10_saves_B42
      rw [e_gr, if_pos h0, r7, zmo_some, e_gi, if_pos c1, hp, if_neg hlt, e_gr, if_pos h0, r7, zmo_some, e_cv, if_pos c1, ef, zc_some, if_neg (show ¬ nI 1 = (0 : Int32) by decide), e_gr, if_pos h0, r7, zmo_some, e_cv, if_pos c1, t1, zc_some, e_gr, if_pos h0, r7, zmo_some, e_cv, if_pos c1, eb, zc_some]
    dsimp only
    generalize (qYs pt ea ne (nI p) e W Y).2.1 = C at hC hpre ⊢
    generalize qBs pt (qYs pt ea ne (nI p) e W Y).1 = B at hpre ⊢
    refine ⟨F1, fun kc => ?_, t3⟩
    rw [hpre]
    cases s with
    | none =>
      have x0 : nI C < (cT none).2.1 := nI_lt (show C < 1000000 by omega) (by omega)
      rw [if_pos x0, qPk_n]
      simp (disch := omega) only [F_X10_saves_J110, F_X10_saves_J122, zl0, zl1, zl2, zl3, zl4, zl5, zl6, zl7, zl8, zl9, zl10, zl11, zl12, zl20, zl24, zl31, zl36, zl40, zl42, zl44, zl48, zl49, zl50, zl55, zl57, zl60, zl97, zl99, zl100, zl102, zl104, zl109, zl113, zl114, zl119, zl126, zl255, zl400, zl1000, zl101, zl103, zl1001, zl1002, zl16, zl18, zl32, zl35, zl443, n_leT, n_leF, n_ltT, n_ltF, n_eqT, n_eqF, n_swT, n_swF, nI_add, n_sub, pk_mul, zd_n, zv, cT]
    | some t =>
      have ht := hs t rfl
      have d1 : (cT (some t)).2.1 = nI t.2.1 := rfl
      have d2 : (cT (some t)).2.2 = t.2.2 := rfl
      by_cases x1 : C < t.2.1
      · rw [d1, if_pos (nI_lt x1 (by omega)), qPk_T (Or.inl x1)]
        simp (disch := omega) only [F_X10_saves_J110, F_X10_saves_J122, zl0, zl1, zl2, zl3, zl4, zl5, zl6, zl7, zl8, zl9, zl10, zl11, zl12, zl20, zl24, zl31, zl36, zl40, zl42, zl44, zl48, zl49, zl50, zl55, zl57, zl60, zl97, zl99, zl100, zl102, zl104, zl109, zl113, zl114, zl119, zl126, zl255, zl400, zl1000, zl101, zl103, zl1001, zl1002, zl16, zl18, zl32, zl35, zl443, n_leT, n_leF, n_ltT, n_ltF, n_eqT, n_eqF, n_swT, n_swF, nI_add, n_sub, pk_mul, zd_n, zv, cT]
      · by_cases x2 : C = t.2.1
        · by_cases x3 : B < t.2.2
          · rw [d1, d2, if_neg (nI_nlt (by omega) (by omega)), if_pos (by rw [x2]), if_neg (i_leF x3), qPk_T (Or.inr ⟨x2, x3⟩)]
            simp (disch := omega) only [F_X10_saves_J110, F_X10_saves_J122, zl0, zl1, zl2, zl3, zl4, zl5, zl6, zl7, zl8, zl9, zl10, zl11, zl12, zl20, zl24, zl31, zl36, zl40, zl42, zl44, zl48, zl49, zl50, zl55, zl57, zl60, zl97, zl99, zl100, zl102, zl104, zl109, zl113, zl114, zl119, zl126, zl255, zl400, zl1000, zl101, zl103, zl1001, zl1002, zl16, zl18, zl32, zl35, zl443, n_leT, n_leF, n_ltT, n_ltF, n_eqT, n_eqF, n_swT, n_swF, nI_add, n_sub, pk_mul, zd_n, zv, cT]
          · rw [d1, d2, if_neg (nI_nlt (by omega) (by omega)), if_pos (by rw [x2]), if_pos (i_leT x3), qPk_F (fun z => z.elim x1 (fun y => x3 y.2))]
            simp (disch := omega) only [F_X10_saves_J122, zl0, zl1, zl2, zl3, zl4, zl5, zl6, zl7, zl8, zl9, zl10, zl11, zl12, zl20, zl24, zl31, zl36, zl40, zl42, zl44, zl48, zl49, zl50, zl55, zl57, zl60, zl97, zl99, zl100, zl102, zl104, zl109, zl113, zl114, zl119, zl126, zl255, zl400, zl1000, zl101, zl103, zl1001, zl1002, zl16, zl18, zl32, zl35, zl443, n_leT, n_leF, n_ltT, n_ltF, n_eqT, n_eqF, n_swT, n_swF, nI_add, n_sub, pk_mul, zd_n, zv, cT]
        · rw [d1, d2, if_neg (nI_nlt (by omega) (by omega)), if_neg (fun z => x2 (n_inj (by omega) (by omega) z)), qPk_F (fun z => z.elim x1 (fun y => x2 y.1))]
          simp (disch := omega) only [F_X10_saves_J122, zl0, zl1, zl2, zl3, zl4, zl5, zl6, zl7, zl8, zl9, zl10, zl11, zl12, zl20, zl24, zl31, zl36, zl40, zl42, zl44, zl48, zl49, zl50, zl55, zl57, zl60, zl97, zl99, zl100, zl102, zl104, zl109, zl113, zl114, zl119, zl126, zl255, zl400, zl1000, zl101, zl103, zl1001, zl1002, zl16, zl18, zl32, zl35, zl443, n_leT, n_leF, n_ltT, n_ltF, n_eqT, n_eqF, n_swT, n_swF, nI_add, n_sub, pk_mul, zd_n, zv, cT]
  · rw [if_neg h1] at ef
    rw [if_neg h1]
    refine ⟨F, fun kc => ?_, fun _ _ _ _ => rfl⟩
    unfold F_X10_saves_B42
    rw [e_gr, if_pos h0, r7, zmo_some, e_gi, if_pos c1, hp, if_neg hlt, e_gr, if_pos h0, r7, zmo_some, e_cv, if_pos c1, ef, zc_some, if_pos (show nI 0 = (0 : Int32) from rfl)]
    simp (disch := omega) only [F_X10_saves_J122, zl0, zl1, zl2, zl3, zl4, zl5, zl6, zl7, zl8, zl9, zl10, zl11, zl12, zl20, zl24, zl31, zl36, zl40, zl42, zl44, zl48, zl49, zl50, zl55, zl57, zl60, zl97, zl99, zl100, zl102, zl104, zl109, zl113, zl114, zl119, zl126, zl255, zl400, zl1000, zl101, zl103, zl1001, zl1002, zl16, zl18, zl32, zl35, zl443, n_leT, n_leF, n_ltT, n_ltF, n_eqT, n_eqF, n_swT, n_swF, nI_add, n_sub, pk_mul, zd_n, zv]
/-- a step of the reference -/
theorem eM_sumB (n : Nat) {S : zH} {F : Nat → Nat → Int32} {pt : Nat} {V : Nat → Int32} {x5 x6 x7 x8 x9 x10 x11 : Int32} {kc : zH × Int32 × Int32 × Int32 × Int32 → Option (Int32 × zH)} (hn : 513 < n) (hM : zMo S) (hp : F 85 23 = nI pt) (h2 : 2 ≤ pt) (h10 : pt ≤ 10) (hB : ∀ p, 1 ≤ p → p + 1 < pt → F 116 p = qBend V p) {X : Option (Int32 × zH)} (hX : ∀ kd, F_X11_saves_B74 n kc kd (zwi S F) 85 x5 x6 x7 x8 x9 x10 x11 (qBs pt V) (nI (pt - 1)) = X) :
    F_X11_saves_L74 n kc (zwi S F) 85 x5 x6 x7 x8 x9 x10 x11 (nI 0) (nI 1) = X := by
  have s67 := mo_s85 hM
  have r46 := mo_r46 hM
  have s98 := mo_s116 hM
  unfold F_X11_saves_L74
  unfold qBs at hX
  refine zfor (fun i => (zwi S F, zit (fun i s => s + qabs (qBend V (i + 1))) (nI 0) i, nI (i + 1))) (pt - 2) (fun kd i hi => ?_) (fun kd => ?_) (by omega)
  · have hlt : ¬ nI pt - (1 : Int32) ≤ nI (i + 1) := by
      rw [zl1, n_sub (by omega)]
      exact nI_ge (by omega) (by omega)
    have hb := hB (i + 1) (by omega) (by omega)
    dsimp only
    unfold F_X11_saves_B74
    rw [e_gi, if_pos s67, hp]
    dsimp only [zv]
    rw [if_neg hlt, zit_s']
    simp (disch := omega) only [zv, e_gi, e_gr, e_gl, e_si, e_sb, e_ai, e_ar, e_ti, e_ty, e_tz, e_cv, zc_some, zmo_some, zin_T, ↓reduceIte, zit_succ, zzr0, zzr1, true_and, and_true, and_self, or_false, false_or, or_true, true_or, not_true_eq_false, not_false_eq_true, zl0, zl1, zl2, zl3, zl4, zl5, zl6, zl7, zl8, zl9, zl10, zl11, zl12, zl20, zl24, zl31, zl36, zl40, zl42, zl44, zl48, zl49, zl50, zl55, zl57, zl60, zl97, zl99, zl100, zl102, zl104, zl109, zl113, zl114, zl119, zl126, zl255, zl400, zl1000, zl101, zl103, zl1001, zl1002, zl16, zl18, zl32, zl35, zl443, n_leT, n_leF, n_ltT, n_ltF, n_eqT, n_eqF, n_swT, n_swF, nI_add, n_sub, pk_mul, zd_n, s67, r46, s98, hb, eM_size]
  · have e5 : pt - 2 + 1 = pt - 1 := by omega
    rw [e5]
    exact hX kd
theorem eM_svJ (n : Nat) {S : zH} {F : Nat → Nat → Int32} {pt p c : Nat} {b x5 x6 x7 : Int32} {s : Option (Nat × Nat × Int32)} {kc : zH × Int32 × Int32 × Int32 × Int32 → Option (Int32 × zH)} {kd : zH × Int32 × Int32 → Option (Int32 × zH)} (hM : zMo S) (hp : F 85 23 = nI pt) (h2 : 2 ≤ pt) (h10 : pt ≤ 10) (h48 : F 85 48 = nI c) (hc : c ≤ 800) (hs : ∀ t, s = some t → t.1 ≤ 10 ∧ t.2.1 ≤ 800) :
    F_X11_saves_B74 n kc kd (zwi S F) 85 x5 x6 x7 (mT s).1 (mT s).2.1 (mT s).2.2 (nI p) b (nI (pt - 1)) = kc (zwi S F, (mT (qPk p c b s)).1, (mT (qPk p c b s)).2.1, (mT (qPk p c b s)).2.2, nI (p + 1)) := by
  have s67 := mo_s85 hM
  have hle : nI pt - (1 : Int32) ≤ nI (pt - 1) := by
    rw [zl1, n_sub (by omega)]
    exact nI_le (by omega) (by omega)
  have n10 : ¬ nI 1 = nI 0 := by decide
  have yes : ∀ x8 x9 x10 : Int32, F_X11_saves_J137 n kc (zwi S F) 85 x5 x6 x7 x8 x9 x10 (nI p) b = kc (zwi S F, nI p, nI c, b, nI (p + 1)) := fun x8 x9 x10 => by
    simp (disch := omega) only [F_X11_saves_J137, F_X11_saves_J142, F_X11_saves_J156, F_X11_saves_J172, F_X11_saves_J186, F_X11_saves_J188, zv, e_gi, e_gr, e_gl, e_si, e_sb, e_ai, e_ar, e_ti, e_ty, e_tz, e_cv, zc_some, zmo_some, zin_T, ↓reduceIte, zit_succ, zzr0, zzr1, true_and, and_true, and_self, or_false, false_or, or_true, true_or, not_true_eq_false, not_false_eq_true, zl0, zl1, zl2, zl3, zl4, zl5, zl6, zl7, zl8, zl9, zl10, zl11, zl12, zl20, zl24, zl31, zl36, zl40, zl42, zl44, zl48, zl49, zl50, zl55, zl57, zl60, zl97, zl99, zl100, zl102, zl104, zl109, zl113, zl114, zl119, zl126, zl255, zl400, zl1000, zl101, zl103, zl1001, zl1002, zl16, zl18, zl32, zl35, zl443, n_leT, n_leF, n_ltT, n_ltF, n_eqT, n_eqF, n_swT, n_swF, nI_add, n_sub, pk_mul, zd_n, s67, h48]
  have no : ∀ x8 x9 x10 : Int32, F_X11_saves_J141 n kc (zwi S F) 85 x5 x6 x7 x8 x9 x10 (nI p) b = kc (zwi S F, x8, x9, x10, nI (p + 1)) := fun x8 x9 x10 => by
    simp (disch := omega) only [F_X11_saves_J141, F_X11_saves_J142, F_X11_saves_J156, F_X11_saves_J172, F_X11_saves_J186, F_X11_saves_J188, zv, e_gi, e_gr, e_gl, e_si, e_sb, e_ai, e_ar, e_ti, e_ty, e_tz, e_cv, zc_some, zmo_some, zin_T, ↓reduceIte, zit_succ, zzr0, zzr1, true_and, and_true, and_self, or_false, false_or, or_true, true_or, not_true_eq_false, not_false_eq_true, zl0, zl1, zl2, zl3, zl4, zl5, zl6, zl7, zl8, zl9, zl10, zl11, zl12, zl20, zl24, zl31, zl36, zl40, zl42, zl44, zl48, zl49, zl50, zl55, zl57, zl60, zl97, zl99, zl100, zl102, zl104, zl109, zl113, zl114, zl119, zl126, zl255, zl400, zl1000, zl101, zl103, zl1001, zl1002, zl16, zl18, zl32, zl35, zl443, n_leT, n_leF, n_ltT, n_ltF, n_eqT, n_eqF, n_swT, n_swF, nI_add, n_sub, pk_mul, zd_n]
  unfold F_X11_saves_B74
  rw [e_gi, if_pos s67, hp]
  dsimp only [zv]
  rw [if_pos hle]
  cases s with
  | none =>
    rw [if_pos (show (mT none).1 = (-1 : Int32) from rfl), yes, qPk_n]
    rfl
  | some t =>
    have ht := hs t rfl
    have hm : ¬ (mT (some t)).1 = (-1 : Int32) := fun z => by
      have z' : nI t.1 = -nI 1 := z
      rw [n_m1 (by omega)] at z'
      exact z'
    have d1 : (mT (some t)).2.1 = nI t.2.1 := rfl
    have d2 : (mT (some t)).2.2 = t.2.2 := rfl
    rw [if_neg hm, e_gi, if_pos s67, h48]
    by_cases x1 : c < t.2.1
    · rw [d1, if_pos (nI_lt x1 (by omega)), yes, qPk_T (Or.inl x1)]
      rfl
    · by_cases x2 : c = t.2.1
      · by_cases x3 : b < t.2.2
        · rw [d1, d2, if_neg (nI_nlt (by omega) (by omega)), e_gi, if_pos s67, h48, if_pos (by rw [x2]), if_neg (i_leF x3), yes, qPk_T (Or.inr ⟨x2, x3⟩)]
          rfl
        · rw [d1, d2, if_neg (nI_nlt (by omega) (by omega)), e_gi, if_pos s67, h48, if_pos (by rw [x2]), if_pos (i_leT x3), no, qPk_F (fun z => z.elim x1 (fun y => x3 y.2))]
          rfl
      · rw [d1, d2, if_neg (nI_nlt (by omega) (by omega)), e_gi, if_pos s67, h48, if_neg (fun z => x2 (n_inj (by omega) (by omega) z)), no, qPk_F (fun z => z.elim x1 (fun y => x2 y.1))]
        rfl
theorem eM_svS (n : Nat) {S : zH} {F : Nat → Nat → Int32} {pt p Y : Nat} {W e : Nat → Int32} {ea ne : Int32} {s : Option (Nat × Nat × Int32)} (hn : 513 < n) (hM : zMo S) (hp : F 85 23 = nI pt) (h2 : 2 ≤ pt) (h10 : pt ≤ 10) (hY : Y ≤ 100) (hW : ∀ p, p < pt → F 103 p = W p) (he : ∀ p, p < pt → F 104 p = e p) (hpp : 1 ≤ p ∧ p + 1 < pt) (hs : ∀ t, s = some t → t.1 ≤ 10 ∧ t.2.1 ≤ 800) :
    ∃ F', (∀ kc, F_X11_saves_B34 n kc (zwi S F) 85 (nI Y) ea ne (mT s).1 (mT s).2.1 (mT s).2.2 (nI p) = kc (zwi S F', (mT (qSvS pt e (fun p => (qYs pt ea ne (nI p) e W Y).2.1) (fun p => qBs pt (qYs pt ea ne (nI p) e W Y).1) p s)).1, (mT (qSvS pt e (fun p => (qYs pt ea ne (nI p) e W Y).2.1) (fun p => qBs pt (qYs pt ea ne (nI p) e W Y).1) p s)).2.1, (mT (qSvS pt e (fun p => (qYs pt ea ne (nI p) e W Y).2.1) (fun p => qBs pt (qYs pt ea ne (nI p) e W Y).1) p s)).2.2, nI (p + 1))) ∧ ∀ a j, a ≠ 115 → a ≠ 116 → ¬ (a = 85 ∧ (j = 47 ∨ j = 48 ∨ j = 49)) → F' a j = F a j := by
  have s67 := mo_s85 hM
  have r25 := mo_r25 hM
  have s86 := mo_s104 hM
  have hlt : ¬ nI pt - (1 : Int32) ≤ nI p := by
    rw [zl1, n_sub (by omega)]
    exact nI_ge (by omega) (by omega)
  have qe := he p (by omega)
  unfold qSvS
  by_cases h1 : e p = nI 0
  · rw [if_pos ⟨hpp.1, hpp.2, h1⟩]
    obtain ⟨F1, t1, t2, t3, -, t5⟩ := eM_layY n (f := F) (ea := ea) (ne := ne) (hd := nI p) (Y := Y) hn hM hp h2 h10 hY hW he
    have p1 := (t5 85 23 (by omega) (by omega) (by omega)).trans hp
    obtain ⟨F2, b1, b2, b3⟩ := eM_bends n hn hM p1 h2 h10 t2
    have p2 := (b3 85 23 (by omega)).trans p1
    have hC := qYs_le (ea := ea) (ne := ne) (hd := nI p) (e := e) (W := W) h10 Y
    refine ⟨F2, fun kc => ?_, fun a j q1 q2 q3 => (b3 a j q2).trans (t5 a j q1 q2 q3)⟩
    have ej := fun kd => eM_svJ n (F := F2) (pt := pt) (p := p) (b := qBs pt (qYs pt ea ne (nI p) e W Y).1) (x5 := nI Y) (x6 := ea) (x7 := ne) (s := s) (kc := kc) (kd := kd) hM p2 h2 h10 ((b3 85 48 (by omega)).trans t3) (by omega) hs
    have eb := eM_sumB n (F := F2) (V := (qYs pt ea ne (nI p) e W Y).1) (x5 := nI Y) (x6 := ea) (x7 := ne) (x8 := (mT s).1) (x9 := (mT s).2.1) (x10 := (mT s).2.2) (x11 := nI p) (kc := kc) hn hM p2 h2 h10 b2 ej
    refine Eq.trans ?_ eb
    unfold F_X11_saves_B34
    rw [e_gi, if_pos s67, hp]
    dsimp only [zv]
    rw [if_neg hlt, e_gr, if_pos s67, r25, zmo_some, e_ai _ _ _ _ _ _ (by omega), s86, zin_T (show p < 10 by omega), if_pos rfl, qe, h1, if_pos (show nI 0 = (0 : Int32) from rfl), e_cv, if_pos s67, t1, zc_some, e_cv, if_pos s67, b1, zc_some]
    rfl
  · rw [if_neg (fun z => h1 z.2.2)]
    refine ⟨F, fun kc => ?_, fun _ _ _ _ _ => rfl⟩
    unfold F_X11_saves_B34
    rw [e_gi, if_pos s67, hp]
    dsimp only [zv]
    rw [if_neg hlt, e_gr, if_pos s67, r25, zmo_some, e_ai _ _ _ _ _ _ (by omega), s86, zin_T (show p < 10 by omega), if_pos rfl, qe, if_neg (show ¬ e p = (0 : Int32) from h1)]
    simp (disch := omega) only [F_X11_saves_J188, zl0, zl1, zl2, zl3, zl4, zl5, zl6, zl7, zl8, zl9, zl10, zl11, zl12, zl20, zl24, zl31, zl36, zl40, zl42, zl44, zl48, zl49, zl50, zl55, zl57, zl60, zl97, zl99, zl100, zl102, zl104, zl109, zl113, zl114, zl119, zl126, zl255, zl400, zl1000, zl101, zl103, zl1001, zl1002, zl16, zl18, zl32, zl35, zl443, n_leT, n_leF, n_ltT, n_ltF, n_eqT, n_eqF, n_swT, n_swF, nI_add, n_sub, pk_mul, zd_n, zv]
