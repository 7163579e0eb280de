/-! ===== level B: the heap of numbers with its ints laid aside, and the rows that run a printed function on it ===== -/
def zwi (h : zH) (f : Nat → Nat → Int32) : zH := (zsz h, zsh h, f, zr h, zl h)
theorem zwi_sh (S : zH) (f : Nat → Nat → Int32) : zsh (zwi S f) = zsh S := rfl
theorem zwi_i (S : zH) (f : Nat → Nat → Int32) : zi (zwi S f) = f := rfl
theorem zwi_r (S : zH) (f : Nat → Nat → Int32) : zr (zwi S f) = zr S := rfl
theorem zwi_l (S : zH) (f : Nat → Nat → Int32) : zl (zwi S f) = zl S := rfl
theorem zwi_sz (S : zH) (f : Nat → Nat → Int32) : zsz (zwi S f) = zsz S := rfl
theorem zwi_wi (S : zH) (f g : Nat → Nat → Int32) : zwi (zwi S f) g = zwi S g := rfl
theorem zwi_self (S : zH) : zwi S (zi S) = S := rfl
def zit {α : Type} (g : Nat → α → α) (a : α) : Nat → α
  | 0 => a
  | i + 1 => g i (zit g a i)
theorem zit_succ {α : Type} (g : Nat → α → α) (a : α) (i : Nat) : zit g a (i + 1) = g i (zit g a i) := rfl
theorem zit_0 {α : Type} (g : Nat → α → α) (a : α) : zit g a 0 = a := rfl
theorem zit_congr {α : Type} {g g' : Nat → α → α} {a : α} : ∀ {N : Nat}, (∀ i, i < N → g i (zit g' a i) = g' i (zit g' a i)) → zit g a N = zit g' a N
  | 0, _ => rfl
  | N + 1, h => by
    rw [zit_succ, zit_succ, zit_congr (N := N) (fun i hi => h i (Nat.lt_succ_of_lt hi)), h N (Nat.lt_succ_self N)]
theorem zit_inv {α : Type} {g : Nat → α → α} {P : Nat → α → Prop} {a : α} (h0 : P 0 a) : ∀ {N : Nat}, (∀ i x, i < N → P i x → P (i + 1) (g i x)) → P N (zit g a N)
  | 0, _ => h0
  | N + 1, h => h N _ (Nat.lt_succ_self N) (zit_inv h0 (fun i x hi => h i x (Nat.lt_succ_of_lt hi)))
/-- a counting loop: it goes from state to state, and ends at N -/
theorem zfor {σ β : Type} {body : (σ → Option β) → σ → Option β} (st : Nat → σ) (N : Nat) {X : Option β} (hs : ∀ kc i, i < N → body kc (st i) = kc (st (i + 1))) (he : ∀ kc, body kc (st N) = X) {n : Nat} (hn : N < n) : zloop body n (st 0) = X := by
  have key : ∀ m i n, i + m = N → m < n → zloop body n (st i) = X := by
    intro m
    induction m with
    | zero =>
      intro i n h1 h2
      cases n with
      | zero => omega
      | succ n =>
        have : i = N := by omega
        subst this
        exact he _
    | succ m ih =>
      intro i n h1 h2
      cases n with
      | zero => omega
      | succ n =>
        show body (fun y => zloop body n y) (st i) = X
        rw [hs _ i (by omega)]
        exact ih (i + 1) n (by omega) (by omega)
  exact key N 0 n (by omega) hn
/-- one end of a loop whose body does not go on -/
theorem zend {σ β : Type} {body : (σ → Option β) → σ → Option β} {x : σ} {X : Option β} {n : Nat} (hn : 0 < n) (he : ∀ kc, body kc x = X) : zloop body n x = X := by
  cases n with
  | zero => omega
  | succ n => exact he _
/-! ints and indices -/
def zin (o : Option (Nat × Nat)) (kd k : Nat) : Bool := match o with
  | some q => q.1 == kd && decide (k < q.2)
  | none => false
theorem zin_some (kd n k : Nat) : zin (some (kd, n)) kd k = decide (k < n) := by unfold zin; simp
theorem zin_T {kd n k : Nat} (h : k < n) : zin (some (kd, n)) kd k = true := by rw [zin_some]; exact decide_eq_true h
theorem zat_zin {h : zH} {a kd k : Nat} (hk : k < 2147483648) : zat h a kd (nI k) = zin (zsh h a) kd k := by
  unfold zat zin
  cases zsh h a with
  | none => rfl
  | some q =>
    dsimp only
    rw [nI_clamp hk]
    simp only [nI_pos hk, decide_false, Bool.not_false, Bool.true_and]
def zmo {β : Type} (o : Option Nat) (k : Nat → Option β) : Option β := match o with
  | some b => k b
  | none => none
theorem zmo_some {β : Type} (b : Nat) (k : Nat → Option β) : zmo (some b) k = k b := rfl
theorem e_gi {β : Type} (S : zH) (f : Nat → Nat → Int32) (a ci n k : Nat) (kk : Int32 → Option β) : zgi (zwi S f) a ci n k kk = if zsh S a = some (ci, n) then kk (f a k) else none := rfl
theorem e_gr {β : Type} (S : zH) (f : Nat → Nat → Int32) (a ci n k : Nat) (kk : Nat → Option β) : zgr (zwi S f) a ci n k kk = if zsh S a = some (ci, n) then zmo (zr S a k) kk else none := by
  unfold zgr zmo
  rw [zwi_sh, zwi_r]
  cases zr S a k <;> rfl
theorem e_gl {β : Type} (S : zH) (f : Nat → Nat → Int32) (a ci n k : Nat) (kk : Int64 → Option β) : zgl (zwi S f) a ci n k kk = if zsh S a = some (ci, n) then kk (zl S a k) else none := rfl
theorem e_si {β : Type} (S : zH) (f : Nat → Nat → Int32) (a ci n k : Nat) (v : Int32) (kk : zH → Option β) : zsi (zwi S f) a ci n k v kk = if zsh S a = some (ci, n) then kk (zwi S (z2 f a k v)) else none := rfl
theorem e_sb {β : Type} (S : zH) (f : Nat → Nat → Int32) (a ci n k : Nat) (v : Int32) (kk : zH → Option β) : zsb (zwi S f) a ci n k v kk = if zsh S a = some (ci, n) ∧ (v = 0 ∨ v = 1) then kk (zwi S (z2 f a k v)) else none := rfl
theorem e_ai {β : Type} (S : zH) (f : Nat → Nat → Int32) (a kd k : Nat) (kk : Int32 → Option β) (hk : k < 2147483648) : zai (zwi S f) a kd (nI k) kk = if zin (zsh S a) kd k = true then kk (f a k) else none := by
  unfold zai
  rw [zat_zin hk, nI_clamp hk]
  rfl
theorem e_ar {β : Type} (S : zH) (f : Nat → Nat → Int32) (a kd k : Nat) (kk : Nat → Option β) (hk : k < 2147483648) : zar (zwi S f) a kd (nI k) kk = if zin (zsh S a) kd k = true then zmo (zr S a k) kk else none := by
  unfold zar zmo
  rw [zat_zin hk, nI_clamp hk, zwi_sh, zwi_r]
  cases zr S a k <;> rfl
theorem e_ti {β : Type} (S : zH) (f : Nat → Nat → Int32) (a k : Nat) (v : Int32) (kk : zH → Option β) (hk : k < 2147483648) : zti (zwi S f) a (nI k) v kk = if zin (zsh S a) 20 k = true then kk (zwi S (z2 f a k v)) else none := by
  unfold zti
  rw [zat_zin hk, nI_clamp hk]
  rfl
theorem e_ty {β : Type} (S : zH) (f : Nat → Nat → Int32) (a k : Nat) (v : Int32) (kk : zH → Option β) (hk : k < 2147483648) : zty8 (zwi S f) a (nI k) v kk = if zin (zsh S a) 21 k = true then kk (zwi S (z2 f a k (vp_nar .byte v))) else none := by
  unfold zty8
  rw [zat_zin hk, nI_clamp hk]
  rfl
theorem e_tz {β : Type} (S : zH) (f : Nat → Nat → Int32) (a k : Nat) (v : Int32) (kk : zH → Option β) (hk : k < 2147483648) : ztz (zwi S f) a (nI k) v kk = if zin (zsh S a) 22 k = true then kk (zwi S (z2 f a k (vp_nar .boolean v))) else none := by
  unfold ztz
  rw [zat_zin hk, nI_clamp hk]
  rfl
theorem e_ln {β : Type} (S : zH) (f : Nat → Nat → Int32) (a kd : Nat) (kk : Int32 → Option β) {n : Nat} (hs : zsh S a = some (kd, n)) : zln (zwi S f) a kd kk = kk (nI n) := by
  unfold zln
  rw [zwi_sh, hs]
  exact if_pos rfl
theorem e_cv {α β : Type} (S : zH) (f : Nat → Nat → Int32) (a ci n : Nat) (F : Option (α × zH)) (k : α → zH → Option β) : zcv (zwi S f) a ci n F k = if zsh S a = some (ci, n) then zc F k else none := rfl
theorem zc_some {α β : Type} (x : α) (h : zH) (k : α → zH → Option β) : zc (some (x, h)) k = k x h := rfl
theorem zzr0 {α : Type} (r : Option α) : zzr (nI 0) r = r := rfl
theorem zzr1 {α : Type} (r : Option α) : zzr (nI 1) r = r := rfl
theorem n_leT {a b : Nat} (h : a ≤ b ∧ b < 2147483648) : (nI a ≤ nI b) = True := eq_true (nI_le h.1 h.2)
theorem n_leF {a b : Nat} (h : b < a ∧ a < 2147483648) : (nI a ≤ nI b) = False := eq_false (nI_ge h.1 h.2)
theorem n_ltT {a b : Nat} (h : a < b ∧ b < 2147483648) : (nI a < nI b) = True := eq_true (nI_lt h.1 h.2)
theorem n_ltF {a b : Nat} (h : b ≤ a ∧ a < 2147483648) : (nI a < nI b) = False := eq_false (nI_nlt h.1 h.2)
theorem n_eqT {a b : Nat} (h : a = b) : (nI a = nI b) = True := by rw [h]; exact eq_self _
theorem n_eqF {a b : Nat} (h : a ≠ b ∧ a < 2147483648 ∧ b < 2147483648) : (nI a = nI b) = False := eq_false (fun q => h.1 ((nI_eq h.2.1 h.2.2).mp q))
theorem n_sub {a b : Nat} (h : b ≤ a) : nI a - nI b = nI (a - b) := pk_sub h
theorem n_swT {k : Nat} {m : Int} (h : (k : Int) ≤ m ∧ k < 2147483648) : ((nI k).toInt < 0 ∨ m < (nI k).toInt) = False := by
  rw [nI_toInt h.2]
  exact eq_false (by omega)
theorem n_swF {k : Nat} {m : Int} (h : m < (k : Int) ∧ k < 2147483648) : ((nI k).toInt < 0 ∨ m < (nI k).toInt) = True := by
  rw [nI_toInt h.2]
  exact eq_true (by omega)
theorem zd_ne {β : Type} {x y : Int32} {k : Int32 → Option β} (h : y ≠ 0) : zd x y k = k (x / y) := if_neg h
theorem zd_n {β : Type} {x : Int32} {b : Nat} {k : Int32 → Option β} (h : 0 < b ∧ b < 2147483648) : zd x (nI b) k = k (x / nI b) := if_neg (nI_ne0 h.1 h.2)
theorem zl0 : (0 : Int32) = nI 0 := rfl
theorem zl1 : (1 : Int32) = nI 1 := rfl
theorem zl2 : (2 : Int32) = nI 2 := rfl
theorem zl3 : (3 : Int32) = nI 3 := rfl
theorem zl4 : (4 : Int32) = nI 4 := rfl
theorem zl5 : (5 : Int32) = nI 5 := rfl
theorem zl6 : (6 : Int32) = nI 6 := rfl
theorem zl7 : (7 : Int32) = nI 7 := rfl
theorem zl8 : (8 : Int32) = nI 8 := rfl
theorem zl9 : (9 : Int32) = nI 9 := rfl
theorem zl10 : (10 : Int32) = nI 10 := rfl
theorem zl11 : (11 : Int32) = nI 11 := rfl
theorem zl12 : (12 : Int32) = nI 12 := rfl
theorem zl20 : (20 : Int32) = nI 20 := rfl
theorem zl24 : (24 : Int32) = nI 24 := rfl
theorem zl31 : (31 : Int32) = nI 31 := rfl
theorem zl36 : (36 : Int32) = nI 36 := rfl
theorem zl40 : (40 : Int32) = nI 40 := rfl
theorem zl42 : (42 : Int32) = nI 42 := rfl
theorem zl44 : (44 : Int32) = nI 44 := rfl
theorem zl48 : (48 : Int32) = nI 48 := rfl
theorem zl49 : (49 : Int32) = nI 49 := rfl
theorem zl50 : (50 : Int32) = nI 50 := rfl
theorem zl55 : (55 : Int32) = nI 55 := rfl
theorem zl57 : (57 : Int32) = nI 57 := rfl
theorem zl60 : (60 : Int32) = nI 60 := rfl
theorem zl97 : (97 : Int32) = nI 97 := rfl
theorem zl99 : (99 : Int32) = nI 99 := rfl
theorem zl100 : (100 : Int32) = nI 100 := rfl
theorem zl102 : (102 : Int32) = nI 102 := rfl
theorem zl104 : (104 : Int32) = nI 104 := rfl
theorem zl109 : (109 : Int32) = nI 109 := rfl
theorem zl113 : (113 : Int32) = nI 113 := rfl
theorem zl114 : (114 : Int32) = nI 114 := rfl
theorem zl119 : (119 : Int32) = nI 119 := rfl
theorem zl126 : (126 : Int32) = nI 126 := rfl
theorem zl255 : (255 : Int32) = nI 255 := rfl
theorem zl400 : (400 : Int32) = nI 400 := rfl
theorem zl101 : (101 : Int32) = nI 101 := rfl
theorem zl103 : (103 : Int32) = nI 103 := rfl
theorem zl1001 : (1001 : Int32) = nI 1001 := rfl
theorem zl1002 : (1002 : Int32) = nI 1002 := rfl
theorem zl16 : (16 : Int32) = nI 16 := rfl
theorem zl18 : (18 : Int32) = nI 18 := rfl
theorem zl59 : (59 : Int32) = nI 59 := rfl
theorem zl56 : (56 : Int32) = nI 56 := rfl
theorem zl52 : (52 : Int32) = nI 52 := rfl
theorem zl32 : (32 : Int32) = nI 32 := rfl
theorem zl13 : (13 : Int32) = nI 13 := rfl
theorem zl14 : (14 : Int32) = nI 14 := rfl
theorem zl15 : (15 : Int32) = nI 15 := rfl
theorem zl21 : (21 : Int32) = nI 21 := rfl
theorem zl22 : (22 : Int32) = nI 22 := rfl
theorem zl23 : (23 : Int32) = nI 23 := rfl
theorem zl25 : (25 : Int32) = nI 25 := rfl
theorem zl30 : (30 : Int32) = nI 30 := rfl
theorem zl35 : (35 : Int32) = nI 35 := rfl
theorem zl45 : (45 : Int32) = nI 45 := rfl
theorem zl443 : (443 : Int32) = nI 443 := rfl
theorem zl1000 : (1000 : Int32) = nI 1000 := rfl
/-! cells of the ints -/
theorem z2_eq {α : Type} (f : Nat → Nat → α) (a k : Nat) (v : α) : z2 f a k v a k = v := if_pos ⟨rfl, rfl⟩
theorem z2_ne {α : Type} (f : Nat → Nat → α) (a k : Nat) (v : α) {a' k' : Nat} (h : ¬ (a' = a ∧ k' = k)) : z2 f a k v a' k' = f a' k' := if_neg h
def z1 {α : Type} (f : Nat → α) (k : Nat) (v : α) : Nat → α := fun j => if j = k then v else f j
theorem z1_eq {α : Type} (f : Nat → α) (k : Nat) (v : α) : z1 f k v k = v := if_pos rfl
theorem z1_ne {α : Type} (f : Nat → α) (k : Nat) (v : α) {j : Nat} (h : j ≠ k) : z1 f k v j = f j := if_neg h
