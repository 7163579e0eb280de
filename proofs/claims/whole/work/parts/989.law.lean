/-! ===== a step of the law ===== -/
theorem zsx_T {β : Type} {xs : Nat → Int32} {L k : Nat} {kk : Int32 → Option β} (h : k < L ∧ k < 2147483648) : zsx xs L (nI k) kk = kk (xs k) := by
  unfold zsx
  rw [nI_clamp h.2, if_pos ⟨nI_nlt (Nat.zero_le k) h.2, h.1⟩]
theorem zcv_T {α β : Type} {h : zH} {a ci n : Nat} {f : Option (α × zH)} {k : α → zH → Option β} (hs : zsh h a = some (ci, n)) : zcv h a ci n f k = zc f k := if_pos hs
theorem zInv_0 {g : Nat} {h : zH} (hI : zInv g h) : zsh h 0 = some (9, 20) := by
  obtain ⟨S, f, c, c', r, r', tr, pl, nd, da, R, H, cu, nl, nr, ra, np, pt, fi, rfl, hI⟩ := hI
  exact cl_s0 hI.1
theorem zInv_mono {g : Nat} {h : zH} (hI : zInv g h) : zInv (g + 1) h := by
  obtain ⟨S, f, c, c', r, r', tr, pl, nd, da, R, H, cu, nl, nr, ra, np, pt, fi, rfl, a1, a2, a3, a4, a5, a6⟩ := hI
  exact ⟨S, f, c, c', r, r', tr, pl, nd, da, R, H, cu, nl, nr, ra, np, pt, fi, rfl, a1, a2, a3, a4, Nat.le_succ_of_le a5, a6⟩
theorem law_cmp (D : Int64) : lg_cmp D D = 0 := by
  unfold lg_cmp
  rw [if_neg (Int64.lt_irrefl), if_pos rfl]
def lawStep (n : Nat) (xs : Nat → Int32) (L i : Nat) (h : zH) : Prop := ∃ h', zInv (i + 1) h' ∧ ∀ kc, F_L_law_B18 n xs L kc i h 0 85 (nI (5 * i)) = kc (h', nI (5 * (i + 1)), i + 1)
theorem law_J {n : Nat} {xs : Nat → Int32} {L i : Nat} {h : zH} (kc : zH × Int32 × Nat → Option Unit) : F_L_law_J1201 n xs L kc i h 0 85 (nI (5 * i)) = kc (h, nI (5 * (i + 1)), i + 1) := by
  unfold F_L_law_J1201
  dsimp only [zv]
  rw [show nI (5 * i) + (5 : Int32) = nI (5 * (i + 1)) from nI_add (5 * i) 5]
theorem law_lt {L i : Nat} (hi : 5 * i + 5 ≤ L) (hL : L ≤ 2560) : ¬ Int32.ofNat L - (5 : Int32) < nI (5 * i) := by
  show ¬ nI L - nI 5 < nI (5 * i)
  rw [n_sub (by omega)]
  exact nI_nlt (by omega) (by omega)
theorem law_0 (n : Nat) {xs : Nat → Int32} {L i : Nat} {h : zH} (hn : 513 < n) (hi : 5 * i + 5 ≤ L) (hL : L ≤ 2560) (hI : zInv i h) (hx : xs (5 * i) &&& (63 : Int32) = nI 0) : lawStep n xs L i h := by
  obtain ⟨x, h1, h2, e1, e2, e3, e4⟩ := k_letters hn hI ((xs (5 * i + 1)).toInt64 <<< (((32 : Int32)).toInt64 &&& 63) ||| ((xs (5 * i + 2)).toInt64 &&& (4294967295 : Int64)))
  have e2' : F_X11_letters n h1 85 ((xs (5 * i + 1)).toInt64 <<< (((32 : Int32)).toInt64 &&& 63) ||| ((xs (5 * i + 2)).toInt64 &&& (4294967295 : Int64))) = some (x, h2) := e2
  refine ⟨h2, e3, fun kc => ?_⟩
  unfold F_L_law_B18
  rw [if_pos (show i < 513 by omega)]
  dsimp only [zv]
  rw [if_neg (law_lt hi hL), zsx_T (k := 5 * i) ⟨by omega, by omega⟩, hx, if_neg (show ¬ ((nI 0).toInt < 0 ∨ 35 < (nI 0).toInt) by decide)]
  rw [if_pos (show nI 0 = (0 : Int32) from rfl)]
  rw [show nI (5 * i) + (1 : Int32) = nI (5 * i + 1) from nI_add (5 * i) 1, show nI (5 * i) + (2 : Int32) = nI (5 * i + 2) from nI_add (5 * i) 2, zsx_T (k := 5 * i + 1) ⟨by omega, by omega⟩, zsx_T (k := 5 * i + 2) ⟨by omega, by omega⟩, zcv_T (zInv_0 hI), e1, zc_some, zsx_T (k := 5 * i + 1) ⟨by omega, by omega⟩, zsx_T (k := 5 * i + 2) ⟨by omega, by omega⟩, zcv_T e4, e2', zc_some, if_pos rfl]
  exact law_J kc
theorem law_1 (n : Nat) {xs : Nat → Int32} {L i : Nat} {h : zH} (hn : 513 < n) (hi : 5 * i + 5 ≤ L) (hL : L ≤ 2560) (hI : zInv i h) (hx : xs (5 * i) &&& (63 : Int32) = nI 1) : lawStep n xs L i h := by
  obtain ⟨x, h1, h2, e1, e2, e3, e4⟩ := k_blank hn hI
  have e2' : F_X11_blank n h1 85 = some (x, h2) := e2
  refine ⟨h2, e3, fun kc => ?_⟩
  unfold F_L_law_B18
  rw [if_pos (show i < 513 by omega)]
  dsimp only [zv]
  rw [if_neg (law_lt hi hL), zsx_T (k := 5 * i) ⟨by omega, by omega⟩, hx, if_neg (show ¬ ((nI 1).toInt < 0 ∨ 35 < (nI 1).toInt) by decide)]
  rw [if_neg (show ¬ nI 1 = (0 : Int32) by decide), if_pos (show nI 1 = (1 : Int32) from rfl)]
  rw [zcv_T (zInv_0 hI), e1, zc_some, zcv_T e4, e2', zc_some, if_pos rfl]
  exact law_J kc
theorem law_2 (n : Nat) {xs : Nat → Int32} {L i : Nat} {h : zH} (hn : 513 < n) (hi : 5 * i + 5 ≤ L) (hL : L ≤ 2560) (hI : zInv i h) (hx : xs (5 * i) &&& (63 : Int32) = nI 2) : lawStep n xs L i h := by
  obtain ⟨x, h1, h2, e1, e2, e3, e4⟩ := k_fault hn hI (xs (5 * i + 1))
  have e2' : F_X11_fault n h1 85 (xs (5 * i + 1)) = some (x, h2) := e2
  refine ⟨h2, e3, fun kc => ?_⟩
  unfold F_L_law_B18
  rw [if_pos (show i < 513 by omega)]
  dsimp only [zv]
  rw [if_neg (law_lt hi hL), zsx_T (k := 5 * i) ⟨by omega, by omega⟩, hx, if_neg (show ¬ ((nI 2).toInt < 0 ∨ 35 < (nI 2).toInt) by decide)]
  rw [if_neg (show ¬ nI 2 = (0 : Int32) by decide), if_neg (show ¬ nI 2 = (1 : Int32) by decide), if_pos (show nI 2 = (2 : Int32) from rfl)]
  rw [show nI (5 * i) + (1 : Int32) = nI (5 * i + 1) from nI_add (5 * i) 1, zsx_T (k := 5 * i + 1) ⟨by omega, by omega⟩, zcv_T (zInv_0 hI), e1, zc_some, zsx_T (k := 5 * i + 1) ⟨by omega, by omega⟩, zcv_T e4, e2', zc_some, if_pos rfl]
  exact law_J kc
theorem law_3 (n : Nat) {xs : Nat → Int32} {L i : Nat} {h : zH} (hn : 513 < n) (hi : 5 * i + 5 ≤ L) (hL : L ≤ 2560) (hI : zInv i h) (hx : xs (5 * i) &&& (63 : Int32) = nI 3) : lawStep n xs L i h := by
  obtain ⟨x, h1, h2, e1, e2, e3, e4⟩ := k_cup hn hI
  have e2' : F_X11_cup n h1 85 = some (x, h2) := e2
  refine ⟨h2, e3, fun kc => ?_⟩
  unfold F_L_law_B18
  rw [if_pos (show i < 513 by omega)]
  dsimp only [zv]
  rw [if_neg (law_lt hi hL), zsx_T (k := 5 * i) ⟨by omega, by omega⟩, hx, if_neg (show ¬ ((nI 3).toInt < 0 ∨ 35 < (nI 3).toInt) by decide)]
  rw [if_neg (show ¬ nI 3 = (0 : Int32) by decide), if_neg (show ¬ nI 3 = (1 : Int32) by decide), if_neg (show ¬ nI 3 = (2 : Int32) by decide), if_pos (show nI 3 = (3 : Int32) from rfl)]
  rw [zcv_T (zInv_0 hI), e1, zc_some, zcv_T e4, e2', zc_some, if_pos rfl]
  exact law_J kc
theorem law_4 (n : Nat) {xs : Nat → Int32} {L i : Nat} {h : zH} (hn : 513 < n) (hi : 5 * i + 5 ≤ L) (hL : L ≤ 2560) (hI : zInv i h) (hx : xs (5 * i) &&& (63 : Int32) = nI 4) : lawStep n xs L i h := by
  obtain ⟨x, h1, h2, e1, e2, e3, e4⟩ := k_row hn hI
  have e2' : F_X11_row n h1 85 = some (x, h2) := e2
  refine ⟨h2, e3, fun kc => ?_⟩
  unfold F_L_law_B18
  rw [if_pos (show i < 513 by omega)]
  dsimp only [zv]
  rw [if_neg (law_lt hi hL), zsx_T (k := 5 * i) ⟨by omega, by omega⟩, hx, if_neg (show ¬ ((nI 4).toInt < 0 ∨ 35 < (nI 4).toInt) by decide)]
  rw [if_neg (show ¬ nI 4 = (0 : Int32) by decide), if_neg (show ¬ nI 4 = (1 : Int32) by decide), if_neg (show ¬ nI 4 = (2 : Int32) by decide), if_neg (show ¬ nI 4 = (3 : Int32) by decide), if_pos (show nI 4 = (4 : Int32) from rfl)]
  rw [zcv_T (zInv_0 hI), e1, zc_some, zcv_T e4, e2', zc_some, if_pos rfl]
  exact law_J kc
theorem law_5 (n : Nat) {xs : Nat → Int32} {L i : Nat} {h : zH} (hn : 513 < n) (hi : 5 * i + 5 ≤ L) (hL : L ≤ 2560) (hI : zInv i h) (hx : xs (5 * i) &&& (63 : Int32) = nI 5) : lawStep n xs L i h := by
  obtain ⟨x, h1, h2, e1, e2, e3, e4⟩ := k_river hn hI
  have e2' : F_X11_river n h1 85 = some (x, h2) := e2
  refine ⟨h2, e3, fun kc => ?_⟩
  unfold F_L_law_B18
  rw [if_pos (show i < 513 by omega)]
  dsimp only [zv]
  rw [if_neg (law_lt hi hL), zsx_T (k := 5 * i) ⟨by omega, by omega⟩, hx, if_neg (show ¬ ((nI 5).toInt < 0 ∨ 35 < (nI 5).toInt) by decide)]
  rw [if_neg (show ¬ nI 5 = (0 : Int32) by decide), if_neg (show ¬ nI 5 = (1 : Int32) by decide), if_neg (show ¬ nI 5 = (2 : Int32) by decide), if_neg (show ¬ nI 5 = (3 : Int32) by decide), if_neg (show ¬ nI 5 = (4 : Int32) by decide), if_pos (show nI 5 = (5 : Int32) from rfl)]
  rw [zcv_T (zInv_0 hI), e1, zc_some, zcv_T e4, e2', zc_some, if_pos rfl]
  exact law_J kc
theorem law_6 (n : Nat) {xs : Nat → Int32} {L i : Nat} {h : zH} (hn : 513 < n) (hi : 5 * i + 5 ≤ L) (hL : L ≤ 2560) (hI : zInv i h) (hx : xs (5 * i) &&& (63 : Int32) = nI 6) : lawStep n xs L i h := by
  obtain ⟨x, h1, h2, e1, e2, e3, e4⟩ := k_cupTold hn hI (xs (5 * i + 1))
  have e2' : F_X11_cupTold n h1 85 (xs (5 * i + 1)) = some (x, h2) := e2
  refine ⟨h2, e3, fun kc => ?_⟩
  unfold F_L_law_B18
  rw [if_pos (show i < 513 by omega)]
  dsimp only [zv]
  rw [if_neg (law_lt hi hL), zsx_T (k := 5 * i) ⟨by omega, by omega⟩, hx, if_neg (show ¬ ((nI 6).toInt < 0 ∨ 35 < (nI 6).toInt) by decide)]
  rw [if_neg (show ¬ nI 6 = (0 : Int32) by decide), if_neg (show ¬ nI 6 = (1 : Int32) by decide), if_neg (show ¬ nI 6 = (2 : Int32) by decide), if_neg (show ¬ nI 6 = (3 : Int32) by decide), if_neg (show ¬ nI 6 = (4 : Int32) by decide), if_neg (show ¬ nI 6 = (5 : Int32) by decide), if_pos (show nI 6 = (6 : Int32) from rfl)]
  rw [show nI (5 * i) + (1 : Int32) = nI (5 * i + 1) from nI_add (5 * i) 1, zsx_T (k := 5 * i + 1) ⟨by omega, by omega⟩, zcv_T (zInv_0 hI), e1, zc_some, zsx_T (k := 5 * i + 1) ⟨by omega, by omega⟩, zcv_T e4, e2', zc_some, if_pos rfl]
  exact law_J kc
theorem law_7 (n : Nat) {xs : Nat → Int32} {L i : Nat} {h : zH} (hn : 513 < n) (hi : 5 * i + 5 ≤ L) (hL : L ≤ 2560) (hI : zInv i h) (hx : xs (5 * i) &&& (63 : Int32) = nI 7) : lawStep n xs L i h := by
  obtain ⟨x, h1, h2, e1, e2, e3, e4⟩ := k_doing hn hI (xs (5 * i + 1)) (xs (5 * i + 2))
  have e2' : F_X11_doing n h1 85 (xs (5 * i + 1)) (xs (5 * i + 2)) = some (x, h2) := e2
  refine ⟨h2, e3, fun kc => ?_⟩
  unfold F_L_law_B18
  rw [if_pos (show i < 513 by omega)]
  dsimp only [zv]
  rw [if_neg (law_lt hi hL), zsx_T (k := 5 * i) ⟨by omega, by omega⟩, hx, if_neg (show ¬ ((nI 7).toInt < 0 ∨ 35 < (nI 7).toInt) by decide)]
  rw [if_neg (show ¬ nI 7 = (0 : Int32) by decide), if_neg (show ¬ nI 7 = (1 : Int32) by decide), if_neg (show ¬ nI 7 = (2 : Int32) by decide), if_neg (show ¬ nI 7 = (3 : Int32) by decide), if_neg (show ¬ nI 7 = (4 : Int32) by decide), if_neg (show ¬ nI 7 = (5 : Int32) by decide), if_neg (show ¬ nI 7 = (6 : Int32) by decide), if_pos (show nI 7 = (7 : Int32) from rfl)]
  rw [show nI (5 * i) + (1 : Int32) = nI (5 * i + 1) from nI_add (5 * i) 1, show nI (5 * i) + (2 : Int32) = nI (5 * i + 2) from nI_add (5 * i) 2, zsx_T (k := 5 * i + 1) ⟨by omega, by omega⟩, zsx_T (k := 5 * i + 2) ⟨by omega, by omega⟩, zcv_T (zInv_0 hI), e1, zc_some, zsx_T (k := 5 * i + 1) ⟨by omega, by omega⟩, zsx_T (k := 5 * i + 2) ⟨by omega, by omega⟩, zcv_T e4, e2', zc_some, if_pos rfl]
  exact law_J kc
theorem law_8 (n : Nat) {xs : Nat → Int32} {L i : Nat} {h : zH} (hn : 513 < n) (hi : 5 * i + 5 ≤ L) (hL : L ≤ 2560) (hI : zInv i h) (hx : xs (5 * i) &&& (63 : Int32) = nI 8) : lawStep n xs L i h := by
  obtain ⟨x, h1, h2, e1, e2, e3, e4⟩ := k_as hn hI (xs (5 * i + 1)) (xs (5 * i + 2))
  have e2' : F_X11_as n h1 85 (xs (5 * i + 1)) (xs (5 * i + 2)) = some (x, h2) := e2
  refine ⟨h2, e3, fun kc => ?_⟩
  unfold F_L_law_B18
  rw [if_pos (show i < 513 by omega)]
  dsimp only [zv]
  rw [if_neg (law_lt hi hL), zsx_T (k := 5 * i) ⟨by omega, by omega⟩, hx, if_neg (show ¬ ((nI 8).toInt < 0 ∨ 35 < (nI 8).toInt) by decide)]
  rw [if_neg (show ¬ nI 8 = (0 : Int32) by decide), if_neg (show ¬ nI 8 = (1 : Int32) by decide), if_neg (show ¬ nI 8 = (2 : Int32) by decide), if_neg (show ¬ nI 8 = (3 : Int32) by decide), if_neg (show ¬ nI 8 = (4 : Int32) by decide), if_neg (show ¬ nI 8 = (5 : Int32) by decide), if_neg (show ¬ nI 8 = (6 : Int32) by decide), if_neg (show ¬ nI 8 = (7 : Int32) by decide), if_pos (show nI 8 = (8 : Int32) from rfl)]
  rw [show nI (5 * i) + (1 : Int32) = nI (5 * i + 1) from nI_add (5 * i) 1, show nI (5 * i) + (2 : Int32) = nI (5 * i + 2) from nI_add (5 * i) 2, zsx_T (k := 5 * i + 1) ⟨by omega, by omega⟩, zsx_T (k := 5 * i + 2) ⟨by omega, by omega⟩, zcv_T (zInv_0 hI), e1, zc_some, zsx_T (k := 5 * i + 1) ⟨by omega, by omega⟩, zsx_T (k := 5 * i + 2) ⟨by omega, by omega⟩, zcv_T e4, e2', zc_some, if_pos rfl]
  exact law_J kc
theorem law_9 (n : Nat) {xs : Nat → Int32} {L i : Nat} {h : zH} (hn : 513 < n) (hi : 5 * i + 5 ≤ L) (hL : L ≤ 2560) (hI : zInv i h) (hx : xs (5 * i) &&& (63 : Int32) = nI 9) : lawStep n xs L i h := by
  obtain ⟨x, h1, h2, e1, e2, e3, e4⟩ := k_leaf hn hI (xs (5 * i + 1)) (xs (5 * i + 2)) (xs (5 * i + 3))
  have e2' : F_X11_leaf n h1 85 (xs (5 * i + 1)) (xs (5 * i + 2)) (xs (5 * i + 3)) = some (x, h2) := e2
  refine ⟨h2, e3, fun kc => ?_⟩
  unfold F_L_law_B18
  rw [if_pos (show i < 513 by omega)]
  dsimp only [zv]
  rw [if_neg (law_lt hi hL), zsx_T (k := 5 * i) ⟨by omega, by omega⟩, hx, if_neg (show ¬ ((nI 9).toInt < 0 ∨ 35 < (nI 9).toInt) by decide)]
  rw [if_neg (show ¬ nI 9 = (0 : Int32) by decide), if_neg (show ¬ nI 9 = (1 : Int32) by decide), if_neg (show ¬ nI 9 = (2 : Int32) by decide), if_neg (show ¬ nI 9 = (3 : Int32) by decide), if_neg (show ¬ nI 9 = (4 : Int32) by decide), if_neg (show ¬ nI 9 = (5 : Int32) by decide), if_neg (show ¬ nI 9 = (6 : Int32) by decide), if_neg (show ¬ nI 9 = (7 : Int32) by decide), if_neg (show ¬ nI 9 = (8 : Int32) by decide), if_pos (show nI 9 = (9 : Int32) from rfl)]
  rw [show nI (5 * i) + (1 : Int32) = nI (5 * i + 1) from nI_add (5 * i) 1, show nI (5 * i) + (2 : Int32) = nI (5 * i + 2) from nI_add (5 * i) 2, show nI (5 * i) + (3 : Int32) = nI (5 * i + 3) from nI_add (5 * i) 3, zsx_T (k := 5 * i + 1) ⟨by omega, by omega⟩, zsx_T (k := 5 * i + 2) ⟨by omega, by omega⟩, zsx_T (k := 5 * i + 3) ⟨by omega, by omega⟩, zcv_T (zInv_0 hI), e1, zc_some, zsx_T (k := 5 * i + 1) ⟨by omega, by omega⟩, zsx_T (k := 5 * i + 2) ⟨by omega, by omega⟩, zsx_T (k := 5 * i + 3) ⟨by omega, by omega⟩, zcv_T e4, e2', zc_some, if_pos rfl]
  exact law_J kc
theorem law_10 (n : Nat) {xs : Nat → Int32} {L i : Nat} {h : zH} (hn : 513 < n) (hi : 5 * i + 5 ≤ L) (hL : L ≤ 2560) (hI : zInv i h) (hx : xs (5 * i) &&& (63 : Int32) = nI 10) : lawStep n xs L i h := by
  obtain ⟨x, h1, h2, e1, e2, e3, e4⟩ := k_about hn hI (xs (5 * i + 1)) (xs (5 * i + 2))
  have e2' : F_X11_about n h1 85 (xs (5 * i + 1)) (xs (5 * i + 2)) = some (x, h2) := e2
  refine ⟨h2, e3, fun kc => ?_⟩
  unfold F_L_law_B18
  rw [if_pos (show i < 513 by omega)]
  dsimp only [zv]
  rw [if_neg (law_lt hi hL), zsx_T (k := 5 * i) ⟨by omega, by omega⟩, hx, if_neg (show ¬ ((nI 10).toInt < 0 ∨ 35 < (nI 10).toInt) by decide)]
  rw [if_neg (show ¬ nI 10 = (0 : Int32) by decide), if_neg (show ¬ nI 10 = (1 : Int32) by decide), if_neg (show ¬ nI 10 = (2 : Int32) by decide), if_neg (show ¬ nI 10 = (3 : Int32) by decide), if_neg (show ¬ nI 10 = (4 : Int32) by decide), if_neg (show ¬ nI 10 = (5 : Int32) by decide), if_neg (show ¬ nI 10 = (6 : Int32) by decide), if_neg (show ¬ nI 10 = (7 : Int32) by decide), if_neg (show ¬ nI 10 = (8 : Int32) by decide), if_neg (show ¬ nI 10 = (9 : Int32) by decide), if_pos (show nI 10 = (10 : Int32) from rfl)]
  rw [show nI (5 * i) + (1 : Int32) = nI (5 * i + 1) from nI_add (5 * i) 1, show nI (5 * i) + (2 : Int32) = nI (5 * i + 2) from nI_add (5 * i) 2, zsx_T (k := 5 * i + 1) ⟨by omega, by omega⟩, zsx_T (k := 5 * i + 2) ⟨by omega, by omega⟩, zcv_T (zInv_0 hI), e1, zc_some, zsx_T (k := 5 * i + 1) ⟨by omega, by omega⟩, zsx_T (k := 5 * i + 2) ⟨by omega, by omega⟩, zcv_T e4, e2', zc_some, if_pos rfl]
  exact law_J kc
theorem law_11 (n : Nat) {xs : Nat → Int32} {L i : Nat} {h : zH} (hn : 513 < n) (hi : 5 * i + 5 ≤ L) (hL : L ≤ 2560) (hI : zInv i h) (hx : xs (5 * i) &&& (63 : Int32) = nI 11) : lawStep n xs L i h := by
  obtain ⟨x, h1, h2, e1, e2, e3, e4⟩ := k_ticks hn hI (xs (5 * i + 1)) (xs (5 * i + 2))
  have e2' : F_X11_ticks n h1 85 (xs (5 * i + 1)) (xs (5 * i + 2)) = some (x, h2) := e2
  refine ⟨h2, e3, fun kc => ?_⟩
  unfold F_L_law_B18
  rw [if_pos (show i < 513 by omega)]
  dsimp only [zv]
  rw [if_neg (law_lt hi hL), zsx_T (k := 5 * i) ⟨by omega, by omega⟩, hx, if_neg (show ¬ ((nI 11).toInt < 0 ∨ 35 < (nI 11).toInt) by decide)]
  rw [if_neg (show ¬ nI 11 = (0 : Int32) by decide), if_neg (show ¬ nI 11 = (1 : Int32) by decide), if_neg (show ¬ nI 11 = (2 : Int32) by decide), if_neg (show ¬ nI 11 = (3 : Int32) by decide), if_neg (show ¬ nI 11 = (4 : Int32) by decide), if_neg (show ¬ nI 11 = (5 : Int32) by decide), if_neg (show ¬ nI 11 = (6 : Int32) by decide), if_neg (show ¬ nI 11 = (7 : Int32) by decide), if_neg (show ¬ nI 11 = (8 : Int32) by decide), if_neg (show ¬ nI 11 = (9 : Int32) by decide), if_neg (show ¬ nI 11 = (10 : Int32) by decide), if_pos (show nI 11 = (11 : Int32) from rfl)]
  rw [show nI (5 * i) + (1 : Int32) = nI (5 * i + 1) from nI_add (5 * i) 1, show nI (5 * i) + (2 : Int32) = nI (5 * i + 2) from nI_add (5 * i) 2, zsx_T (k := 5 * i + 1) ⟨by omega, by omega⟩, zsx_T (k := 5 * i + 2) ⟨by omega, by omega⟩, zcv_T (zInv_0 hI), e1, zc_some, zsx_T (k := 5 * i + 1) ⟨by omega, by omega⟩, zsx_T (k := 5 * i + 2) ⟨by omega, by omega⟩, zcv_T e4, e2', zc_some, if_pos rfl]
  exact law_J kc
theorem law_12 (n : Nat) {xs : Nat → Int32} {L i : Nat} {h : zH} (hn : 513 < n) (hi : 5 * i + 5 ≤ L) (hL : L ≤ 2560) (hI : zInv i h) (hx : xs (5 * i) &&& (63 : Int32) = nI 12) : lawStep n xs L i h := by
  obtain ⟨x, h1, h2, e1, e2, e3, e4⟩ := k_still hn hI
  have e2' : F_X11_still n h1 85 = some (x, h2) := e2
  refine ⟨h2, e3, fun kc => ?_⟩
  unfold F_L_law_B18
  rw [if_pos (show i < 513 by omega)]
  dsimp only [zv]
  rw [if_neg (law_lt hi hL), zsx_T (k := 5 * i) ⟨by omega, by omega⟩, hx, if_neg (show ¬ ((nI 12).toInt < 0 ∨ 35 < (nI 12).toInt) by decide)]
  rw [if_neg (show ¬ nI 12 = (0 : Int32) by decide), if_neg (show ¬ nI 12 = (1 : Int32) by decide), if_neg (show ¬ nI 12 = (2 : Int32) by decide), if_neg (show ¬ nI 12 = (3 : Int32) by decide), if_neg (show ¬ nI 12 = (4 : Int32) by decide), if_neg (show ¬ nI 12 = (5 : Int32) by decide), if_neg (show ¬ nI 12 = (6 : Int32) by decide), if_neg (show ¬ nI 12 = (7 : Int32) by decide), if_neg (show ¬ nI 12 = (8 : Int32) by decide), if_neg (show ¬ nI 12 = (9 : Int32) by decide), if_neg (show ¬ nI 12 = (10 : Int32) by decide), if_neg (show ¬ nI 12 = (11 : Int32) by decide), if_pos (show nI 12 = (12 : Int32) from rfl)]
  rw [zcv_T (zInv_0 hI), e1, zc_some, zcv_T e4, e2', zc_some, if_pos rfl]
  exact law_J kc
theorem law_13 (n : Nat) {xs : Nat → Int32} {L i : Nat} {h : zH} (hn : 513 < n) (hi : 5 * i + 5 ≤ L) (hL : L ≤ 2560) (hI : zInv i h) (hx : xs (5 * i) &&& (63 : Int32) = nI 13) : lawStep n xs L i h := by
  obtain ⟨x, h1, h2, e1, e2, e3, e4⟩ := k_round hn hI (xs (5 * i + 1)) (xs (5 * i + 2))
  have e2' : F_X11_round n h1 85 (xs (5 * i + 1)) (xs (5 * i + 2)) = some (x, h2) := e2
  refine ⟨h2, e3, fun kc => ?_⟩
  unfold F_L_law_B18
  rw [if_pos (show i < 513 by omega)]
  dsimp only [zv]
  rw [if_neg (law_lt hi hL), zsx_T (k := 5 * i) ⟨by omega, by omega⟩, hx, if_neg (show ¬ ((nI 13).toInt < 0 ∨ 35 < (nI 13).toInt) by decide)]
  rw [if_neg (show ¬ nI 13 = (0 : Int32) by decide), if_neg (show ¬ nI 13 = (1 : Int32) by decide), if_neg (show ¬ nI 13 = (2 : Int32) by decide), if_neg (show ¬ nI 13 = (3 : Int32) by decide), if_neg (show ¬ nI 13 = (4 : Int32) by decide), if_neg (show ¬ nI 13 = (5 : Int32) by decide), if_neg (show ¬ nI 13 = (6 : Int32) by decide), if_neg (show ¬ nI 13 = (7 : Int32) by decide), if_neg (show ¬ nI 13 = (8 : Int32) by decide), if_neg (show ¬ nI 13 = (9 : Int32) by decide), if_neg (show ¬ nI 13 = (10 : Int32) by decide), if_neg (show ¬ nI 13 = (11 : Int32) by decide), if_neg (show ¬ nI 13 = (12 : Int32) by decide), if_pos (show nI 13 = (13 : Int32) from rfl)]
  rw [show nI (5 * i) + (1 : Int32) = nI (5 * i + 1) from nI_add (5 * i) 1, show nI (5 * i) + (2 : Int32) = nI (5 * i + 2) from nI_add (5 * i) 2, zsx_T (k := 5 * i + 1) ⟨by omega, by omega⟩, zsx_T (k := 5 * i + 2) ⟨by omega, by omega⟩, zcv_T (zInv_0 hI), e1, zc_some, zsx_T (k := 5 * i + 1) ⟨by omega, by omega⟩, zsx_T (k := 5 * i + 2) ⟨by omega, by omega⟩, zcv_T e4, e2', zc_some, if_pos rfl]
  exact law_J kc
theorem law_14 (n : Nat) {xs : Nat → Int32} {L i : Nat} {h : zH} (hn : 513 < n) (hi : 5 * i + 5 ≤ L) (hL : L ≤ 2560) (hI : zInv i h) (hx : xs (5 * i) &&& (63 : Int32) = nI 14) : lawStep n xs L i h := by
  obtain ⟨x, h1, h2, e1, e2, e3, e4⟩ := k_second hn hI (xs (5 * i + 1))
  have e2' : F_X11_second n h1 85 (xs (5 * i + 1)) = some (x, h2) := e2
  refine ⟨h2, e3, fun kc => ?_⟩
  unfold F_L_law_B18
  rw [if_pos (show i < 513 by omega)]
  dsimp only [zv]
  rw [if_neg (law_lt hi hL), zsx_T (k := 5 * i) ⟨by omega, by omega⟩, hx, if_neg (show ¬ ((nI 14).toInt < 0 ∨ 35 < (nI 14).toInt) by decide)]
  rw [if_neg (show ¬ nI 14 = (0 : Int32) by decide), if_neg (show ¬ nI 14 = (1 : Int32) by decide), if_neg (show ¬ nI 14 = (2 : Int32) by decide), if_neg (show ¬ nI 14 = (3 : Int32) by decide), if_neg (show ¬ nI 14 = (4 : Int32) by decide), if_neg (show ¬ nI 14 = (5 : Int32) by decide), if_neg (show ¬ nI 14 = (6 : Int32) by decide), if_neg (show ¬ nI 14 = (7 : Int32) by decide), if_neg (show ¬ nI 14 = (8 : Int32) by decide), if_neg (show ¬ nI 14 = (9 : Int32) by decide), if_neg (show ¬ nI 14 = (10 : Int32) by decide), if_neg (show ¬ nI 14 = (11 : Int32) by decide), if_neg (show ¬ nI 14 = (12 : Int32) by decide), if_neg (show ¬ nI 14 = (13 : Int32) by decide), if_pos (show nI 14 = (14 : Int32) from rfl)]
  rw [show nI (5 * i) + (1 : Int32) = nI (5 * i + 1) from nI_add (5 * i) 1, zsx_T (k := 5 * i + 1) ⟨by omega, by omega⟩, zcv_T (zInv_0 hI), e1, zc_some, zsx_T (k := 5 * i + 1) ⟨by omega, by omega⟩, zcv_T e4, e2', zc_some, if_pos rfl]
  exact law_J kc
theorem law_15 (n : Nat) {xs : Nat → Int32} {L i : Nat} {h : zH} (hn : 513 < n) (hi : 5 * i + 5 ≤ L) (hL : L ≤ 2560) (hI : zInv i h) (hx : xs (5 * i) &&& (63 : Int32) = nI 15) : lawStep n xs L i h := by
  obtain ⟨x, h1, h2, e1, e2, e3, e4⟩ := k_would hn hI (xs (5 * i + 1)) (xs (5 * i + 2)) (xs (5 * i + 3))
  have e2' : F_X11_would n h1 85 (xs (5 * i + 1)) (xs (5 * i + 2)) (xs (5 * i + 3)) = some (x, h2) := e2
  refine ⟨h2, e3, fun kc => ?_⟩
  unfold F_L_law_B18
  rw [if_pos (show i < 513 by omega)]
  dsimp only [zv]
  rw [if_neg (law_lt hi hL), zsx_T (k := 5 * i) ⟨by omega, by omega⟩, hx, if_neg (show ¬ ((nI 15).toInt < 0 ∨ 35 < (nI 15).toInt) by decide)]
  rw [if_neg (show ¬ nI 15 = (0 : Int32) by decide), if_neg (show ¬ nI 15 = (1 : Int32) by decide), if_neg (show ¬ nI 15 = (2 : Int32) by decide), if_neg (show ¬ nI 15 = (3 : Int32) by decide), if_neg (show ¬ nI 15 = (4 : Int32) by decide), if_neg (show ¬ nI 15 = (5 : Int32) by decide), if_neg (show ¬ nI 15 = (6 : Int32) by decide), if_neg (show ¬ nI 15 = (7 : Int32) by decide), if_neg (show ¬ nI 15 = (8 : Int32) by decide), if_neg (show ¬ nI 15 = (9 : Int32) by decide), if_neg (show ¬ nI 15 = (10 : Int32) by decide), if_neg (show ¬ nI 15 = (11 : Int32) by decide), if_neg (show ¬ nI 15 = (12 : Int32) by decide), if_neg (show ¬ nI 15 = (13 : Int32) by decide), if_neg (show ¬ nI 15 = (14 : Int32) by decide), if_pos (show nI 15 = (15 : Int32) from rfl)]
  rw [show nI (5 * i) + (1 : Int32) = nI (5 * i + 1) from nI_add (5 * i) 1, show nI (5 * i) + (2 : Int32) = nI (5 * i + 2) from nI_add (5 * i) 2, show nI (5 * i) + (3 : Int32) = nI (5 * i + 3) from nI_add (5 * i) 3, zsx_T (k := 5 * i + 1) ⟨by omega, by omega⟩, zsx_T (k := 5 * i + 2) ⟨by omega, by omega⟩, zsx_T (k := 5 * i + 3) ⟨by omega, by omega⟩, zcv_T (zInv_0 hI), e1, zc_some, zsx_T (k := 5 * i + 1) ⟨by omega, by omega⟩, zsx_T (k := 5 * i + 2) ⟨by omega, by omega⟩, zsx_T (k := 5 * i + 3) ⟨by omega, by omega⟩, zcv_T e4, e2', zc_some, if_pos rfl]
  exact law_J kc
theorem law_16 (n : Nat) {xs : Nat → Int32} {L i : Nat} {h : zH} (hn : 513 < n) (hi : 5 * i + 5 ≤ L) (hL : L ≤ 2560) (hI : zInv i h) (hx : xs (5 * i) &&& (63 : Int32) = nI 16) : lawStep n xs L i h := by
  obtain ⟨x, h1, h2, e1, e2, e3, e4⟩ := k_ends hn hI (xs (5 * i + 1)) (xs (5 * i + 2))
  have e2' : F_X11_ends n h1 85 (xs (5 * i + 1)) (xs (5 * i + 2)) = some (x, h2) := e2
  refine ⟨h2, e3, fun kc => ?_⟩
  unfold F_L_law_B18
  rw [if_pos (show i < 513 by omega)]
  dsimp only [zv]
  rw [if_neg (law_lt hi hL), zsx_T (k := 5 * i) ⟨by omega, by omega⟩, hx, if_neg (show ¬ ((nI 16).toInt < 0 ∨ 35 < (nI 16).toInt) by decide)]
  rw [if_neg (show ¬ nI 16 = (0 : Int32) by decide), if_neg (show ¬ nI 16 = (1 : Int32) by decide), if_neg (show ¬ nI 16 = (2 : Int32) by decide), if_neg (show ¬ nI 16 = (3 : Int32) by decide), if_neg (show ¬ nI 16 = (4 : Int32) by decide), if_neg (show ¬ nI 16 = (5 : Int32) by decide), if_neg (show ¬ nI 16 = (6 : Int32) by decide), if_neg (show ¬ nI 16 = (7 : Int32) by decide), if_neg (show ¬ nI 16 = (8 : Int32) by decide), if_neg (show ¬ nI 16 = (9 : Int32) by decide), if_neg (show ¬ nI 16 = (10 : Int32) by decide), if_neg (show ¬ nI 16 = (11 : Int32) by decide), if_neg (show ¬ nI 16 = (12 : Int32) by decide), if_neg (show ¬ nI 16 = (13 : Int32) by decide), if_neg (show ¬ nI 16 = (14 : Int32) by decide), if_neg (show ¬ nI 16 = (15 : Int32) by decide), if_pos (show nI 16 = (16 : Int32) from rfl)]
  rw [show nI (5 * i) + (1 : Int32) = nI (5 * i + 1) from nI_add (5 * i) 1, show nI (5 * i) + (2 : Int32) = nI (5 * i + 2) from nI_add (5 * i) 2, zsx_T (k := 5 * i + 1) ⟨by omega, by omega⟩, zsx_T (k := 5 * i + 2) ⟨by omega, by omega⟩, zcv_T (zInv_0 hI), e1, zc_some, zsx_T (k := 5 * i + 1) ⟨by omega, by omega⟩, zsx_T (k := 5 * i + 2) ⟨by omega, by omega⟩, zcv_T e4, e2', zc_some, if_pos rfl]
  exact law_J kc
theorem law_17 (n : Nat) {xs : Nat → Int32} {L i : Nat} {h : zH} (hn : 513 < n) (hi : 5 * i + 5 ≤ L) (hL : L ≤ 2560) (hI : zInv i h) (hx : xs (5 * i) &&& (63 : Int32) = nI 17) : lawStep n xs L i h := by
  obtain ⟨x, h1, h2, e1, e2, e3, e4⟩ := k_lies hn hI (xs (5 * i + 1)) (xs (5 * i + 2))
  have e2' : F_X11_lies n h1 85 (xs (5 * i + 1)) (xs (5 * i + 2)) = some (x, h2) := e2
  refine ⟨h2, e3, fun kc => ?_⟩
  unfold F_L_law_B18
  rw [if_pos (show i < 513 by omega)]
  dsimp only [zv]
  rw [if_neg (law_lt hi hL), zsx_T (k := 5 * i) ⟨by omega, by omega⟩, hx, if_neg (show ¬ ((nI 17).toInt < 0 ∨ 35 < (nI 17).toInt) by decide)]
  rw [if_neg (show ¬ nI 17 = (0 : Int32) by decide), if_neg (show ¬ nI 17 = (1 : Int32) by decide), if_neg (show ¬ nI 17 = (2 : Int32) by decide), if_neg (show ¬ nI 17 = (3 : Int32) by decide), if_neg (show ¬ nI 17 = (4 : Int32) by decide), if_neg (show ¬ nI 17 = (5 : Int32) by decide), if_neg (show ¬ nI 17 = (6 : Int32) by decide), if_neg (show ¬ nI 17 = (7 : Int32) by decide), if_neg (show ¬ nI 17 = (8 : Int32) by decide), if_neg (show ¬ nI 17 = (9 : Int32) by decide), if_neg (show ¬ nI 17 = (10 : Int32) by decide), if_neg (show ¬ nI 17 = (11 : Int32) by decide), if_neg (show ¬ nI 17 = (12 : Int32) by decide), if_neg (show ¬ nI 17 = (13 : Int32) by decide), if_neg (show ¬ nI 17 = (14 : Int32) by decide), if_neg (show ¬ nI 17 = (15 : Int32) by decide), if_neg (show ¬ nI 17 = (16 : Int32) by decide), if_pos (show nI 17 = (17 : Int32) from rfl)]
  rw [show nI (5 * i) + (1 : Int32) = nI (5 * i + 1) from nI_add (5 * i) 1, show nI (5 * i) + (2 : Int32) = nI (5 * i + 2) from nI_add (5 * i) 2, zsx_T (k := 5 * i + 1) ⟨by omega, by omega⟩, zsx_T (k := 5 * i + 2) ⟨by omega, by omega⟩, zcv_T (zInv_0 hI), e1, zc_some, zsx_T (k := 5 * i + 1) ⟨by omega, by omega⟩, zsx_T (k := 5 * i + 2) ⟨by omega, by omega⟩, zcv_T e4, e2', zc_some, if_pos rfl]
  exact law_J kc
theorem law_18 (n : Nat) {xs : Nat → Int32} {L i : Nat} {h : zH} (hn : 513 < n) (hi : 5 * i + 5 ≤ L) (hL : L ≤ 2560) (hI : zInv i h) (hx : xs (5 * i) &&& (63 : Int32) = nI 18) : lawStep n xs L i h := by
  obtain ⟨x, h1, h2, e1, e2, e3, e4⟩ := k_line hn hI (xs (5 * i + 1)) (xs (5 * i + 2)) (xs (5 * i + 3))
  have e2' : F_X11_line n h1 85 (xs (5 * i + 1)) (xs (5 * i + 2)) (xs (5 * i + 3)) = some (x, h2) := e2
  refine ⟨h2, e3, fun kc => ?_⟩
  unfold F_L_law_B18
  rw [if_pos (show i < 513 by omega)]
  dsimp only [zv]
  rw [if_neg (law_lt hi hL), zsx_T (k := 5 * i) ⟨by omega, by omega⟩, hx, if_neg (show ¬ ((nI 18).toInt < 0 ∨ 35 < (nI 18).toInt) by decide)]
  rw [if_neg (show ¬ nI 18 = (0 : Int32) by decide), if_neg (show ¬ nI 18 = (1 : Int32) by decide), if_neg (show ¬ nI 18 = (2 : Int32) by decide), if_neg (show ¬ nI 18 = (3 : Int32) by decide), if_neg (show ¬ nI 18 = (4 : Int32) by decide), if_neg (show ¬ nI 18 = (5 : Int32) by decide), if_neg (show ¬ nI 18 = (6 : Int32) by decide), if_neg (show ¬ nI 18 = (7 : Int32) by decide), if_neg (show ¬ nI 18 = (8 : Int32) by decide), if_neg (show ¬ nI 18 = (9 : Int32) by decide), if_neg (show ¬ nI 18 = (10 : Int32) by decide), if_neg (show ¬ nI 18 = (11 : Int32) by decide), if_neg (show ¬ nI 18 = (12 : Int32) by decide), if_neg (show ¬ nI 18 = (13 : Int32) by decide), if_neg (show ¬ nI 18 = (14 : Int32) by decide), if_neg (show ¬ nI 18 = (15 : Int32) by decide), if_neg (show ¬ nI 18 = (16 : Int32) by decide), if_neg (show ¬ nI 18 = (17 : Int32) by decide), if_pos (show nI 18 = (18 : Int32) from rfl)]
  rw [show nI (5 * i) + (1 : Int32) = nI (5 * i + 1) from nI_add (5 * i) 1, show nI (5 * i) + (2 : Int32) = nI (5 * i + 2) from nI_add (5 * i) 2, show nI (5 * i) + (3 : Int32) = nI (5 * i + 3) from nI_add (5 * i) 3, zsx_T (k := 5 * i + 1) ⟨by omega, by omega⟩, zsx_T (k := 5 * i + 2) ⟨by omega, by omega⟩, zsx_T (k := 5 * i + 3) ⟨by omega, by omega⟩, zcv_T (zInv_0 hI), e1, zc_some, zsx_T (k := 5 * i + 1) ⟨by omega, by omega⟩, zsx_T (k := 5 * i + 2) ⟨by omega, by omega⟩, zsx_T (k := 5 * i + 3) ⟨by omega, by omega⟩, zcv_T e4, e2', zc_some, if_pos rfl]
  exact law_J kc
theorem law_19 (n : Nat) {xs : Nat → Int32} {L i : Nat} {h : zH} (hn : 513 < n) (hi : 5 * i + 5 ≤ L) (hL : L ≤ 2560) (hI : zInv i h) (hx : xs (5 * i) &&& (63 : Int32) = nI 19) : lawStep n xs L i h := by
  obtain ⟨x, h1, h2, e1, e2, e3, e4⟩ := k_want hn hI (xs (5 * i + 1)) (xs (5 * i + 2))
  have e2' : F_X11_want n h1 85 (xs (5 * i + 1)) (xs (5 * i + 2)) = some (x, h2) := e2
  refine ⟨h2, e3, fun kc => ?_⟩
  unfold F_L_law_B18
  rw [if_pos (show i < 513 by omega)]
  dsimp only [zv]
  rw [if_neg (law_lt hi hL), zsx_T (k := 5 * i) ⟨by omega, by omega⟩, hx, if_neg (show ¬ ((nI 19).toInt < 0 ∨ 35 < (nI 19).toInt) by decide)]
  rw [if_neg (show ¬ nI 19 = (0 : Int32) by decide), if_neg (show ¬ nI 19 = (1 : Int32) by decide), if_neg (show ¬ nI 19 = (2 : Int32) by decide), if_neg (show ¬ nI 19 = (3 : Int32) by decide), if_neg (show ¬ nI 19 = (4 : Int32) by decide), if_neg (show ¬ nI 19 = (5 : Int32) by decide), if_neg (show ¬ nI 19 = (6 : Int32) by decide), if_neg (show ¬ nI 19 = (7 : Int32) by decide), if_neg (show ¬ nI 19 = (8 : Int32) by decide), if_neg (show ¬ nI 19 = (9 : Int32) by decide), if_neg (show ¬ nI 19 = (10 : Int32) by decide), if_neg (show ¬ nI 19 = (11 : Int32) by decide), if_neg (show ¬ nI 19 = (12 : Int32) by decide), if_neg (show ¬ nI 19 = (13 : Int32) by decide), if_neg (show ¬ nI 19 = (14 : Int32) by decide), if_neg (show ¬ nI 19 = (15 : Int32) by decide), if_neg (show ¬ nI 19 = (16 : Int32) by decide), if_neg (show ¬ nI 19 = (17 : Int32) by decide), if_neg (show ¬ nI 19 = (18 : Int32) by decide), if_pos (show nI 19 = (19 : Int32) from rfl)]
  rw [show nI (5 * i) + (1 : Int32) = nI (5 * i + 1) from nI_add (5 * i) 1, show nI (5 * i) + (2 : Int32) = nI (5 * i + 2) from nI_add (5 * i) 2, zsx_T (k := 5 * i + 1) ⟨by omega, by omega⟩, zsx_T (k := 5 * i + 2) ⟨by omega, by omega⟩, zcv_T (zInv_0 hI), e1, zc_some, zsx_T (k := 5 * i + 1) ⟨by omega, by omega⟩, zsx_T (k := 5 * i + 2) ⟨by omega, by omega⟩, zcv_T e4, e2', zc_some, if_pos rfl]
  exact law_J kc
theorem law_20 (n : Nat) {xs : Nat → Int32} {L i : Nat} {h : zH} (hn : 513 < n) (hi : 5 * i + 5 ≤ L) (hL : L ≤ 2560) (hI : zInv i h) (hx : xs (5 * i) &&& (63 : Int32) = nI 20) : lawStep n xs L i h := by
  obtain ⟨x, h1, h2, e1, e2, e3, e4⟩ := k_off hn hI (xs (5 * i + 1))
  have e2' : F_X11_off n h1 85 (xs (5 * i + 1)) = some (x, h2) := e2
  refine ⟨h2, e3, fun kc => ?_⟩
  unfold F_L_law_B18
  rw [if_pos (show i < 513 by omega)]
  dsimp only [zv]
  rw [if_neg (law_lt hi hL), zsx_T (k := 5 * i) ⟨by omega, by omega⟩, hx, if_neg (show ¬ ((nI 20).toInt < 0 ∨ 35 < (nI 20).toInt) by decide)]
  rw [if_neg (show ¬ nI 20 = (0 : Int32) by decide), if_neg (show ¬ nI 20 = (1 : Int32) by decide), if_neg (show ¬ nI 20 = (2 : Int32) by decide), if_neg (show ¬ nI 20 = (3 : Int32) by decide), if_neg (show ¬ nI 20 = (4 : Int32) by decide), if_neg (show ¬ nI 20 = (5 : Int32) by decide), if_neg (show ¬ nI 20 = (6 : Int32) by decide), if_neg (show ¬ nI 20 = (7 : Int32) by decide), if_neg (show ¬ nI 20 = (8 : Int32) by decide), if_neg (show ¬ nI 20 = (9 : Int32) by decide), if_neg (show ¬ nI 20 = (10 : Int32) by decide), if_neg (show ¬ nI 20 = (11 : Int32) by decide), if_neg (show ¬ nI 20 = (12 : Int32) by decide), if_neg (show ¬ nI 20 = (13 : Int32) by decide), if_neg (show ¬ nI 20 = (14 : Int32) by decide), if_neg (show ¬ nI 20 = (15 : Int32) by decide), if_neg (show ¬ nI 20 = (16 : Int32) by decide), if_neg (show ¬ nI 20 = (17 : Int32) by decide), if_neg (show ¬ nI 20 = (18 : Int32) by decide), if_neg (show ¬ nI 20 = (19 : Int32) by decide), if_pos (show nI 20 = (20 : Int32) from rfl)]
  rw [show nI (5 * i) + (1 : Int32) = nI (5 * i + 1) from nI_add (5 * i) 1, zsx_T (k := 5 * i + 1) ⟨by omega, by omega⟩, zcv_T (zInv_0 hI), e1, zc_some, zsx_T (k := 5 * i + 1) ⟨by omega, by omega⟩, zcv_T e4, e2', zc_some, if_pos rfl]
  exact law_J kc
theorem law_21 (n : Nat) {xs : Nat → Int32} {L i : Nat} {h : zH} (hn : 513 < n) (hi : 5 * i + 5 ≤ L) (hL : L ≤ 2560) (hI : zInv i h) (hx : xs (5 * i) &&& (63 : Int32) = nI 21) : lawStep n xs L i h := by
  obtain ⟨x, h1, h2, e1, e2, e3, e4⟩ := k_found hn hI (xs (5 * i + 1))
  have e2' : F_X11_found n h1 85 (xs (5 * i + 1)) = some (x, h2) := e2
  refine ⟨h2, e3, fun kc => ?_⟩
  unfold F_L_law_B18
  rw [if_pos (show i < 513 by omega)]
  dsimp only [zv]
  rw [if_neg (law_lt hi hL), zsx_T (k := 5 * i) ⟨by omega, by omega⟩, hx, if_neg (show ¬ ((nI 21).toInt < 0 ∨ 35 < (nI 21).toInt) by decide)]
  rw [if_neg (show ¬ nI 21 = (0 : Int32) by decide), if_neg (show ¬ nI 21 = (1 : Int32) by decide), if_neg (show ¬ nI 21 = (2 : Int32) by decide), if_neg (show ¬ nI 21 = (3 : Int32) by decide), if_neg (show ¬ nI 21 = (4 : Int32) by decide), if_neg (show ¬ nI 21 = (5 : Int32) by decide), if_neg (show ¬ nI 21 = (6 : Int32) by decide), if_neg (show ¬ nI 21 = (7 : Int32) by decide), if_neg (show ¬ nI 21 = (8 : Int32) by decide), if_neg (show ¬ nI 21 = (9 : Int32) by decide), if_neg (show ¬ nI 21 = (10 : Int32) by decide), if_neg (show ¬ nI 21 = (11 : Int32) by decide), if_neg (show ¬ nI 21 = (12 : Int32) by decide), if_neg (show ¬ nI 21 = (13 : Int32) by decide), if_neg (show ¬ nI 21 = (14 : Int32) by decide), if_neg (show ¬ nI 21 = (15 : Int32) by decide), if_neg (show ¬ nI 21 = (16 : Int32) by decide), if_neg (show ¬ nI 21 = (17 : Int32) by decide), if_neg (show ¬ nI 21 = (18 : Int32) by decide), if_neg (show ¬ nI 21 = (19 : Int32) by decide), if_neg (show ¬ nI 21 = (20 : Int32) by decide), if_pos (show nI 21 = (21 : Int32) from rfl)]
  rw [show nI (5 * i) + (1 : Int32) = nI (5 * i + 1) from nI_add (5 * i) 1, zsx_T (k := 5 * i + 1) ⟨by omega, by omega⟩, zcv_T (zInv_0 hI), e1, zc_some, zsx_T (k := 5 * i + 1) ⟨by omega, by omega⟩, zcv_T e4, e2', zc_some, if_pos rfl]
  exact law_J kc
theorem law_22 (n : Nat) {xs : Nat → Int32} {L i : Nat} {h : zH} (hn : 513 < n) (hi : 5 * i + 5 ≤ L) (hL : L ≤ 2560) (hI : zInv i h) (hx : xs (5 * i) &&& (63 : Int32) = nI 22) : lawStep n xs L i h := by
  obtain ⟨x, h1, h2, e1, e2, e3, e4⟩ := k_seen hn hI (xs (5 * i + 1)) (xs (5 * i + 2))
  have e2' : F_X11_seen n h1 85 (xs (5 * i + 1)) (xs (5 * i + 2)) = some (x, h2) := e2
  refine ⟨h2, e3, fun kc => ?_⟩
  unfold F_L_law_B18
  rw [if_pos (show i < 513 by omega)]
  dsimp only [zv]
  rw [if_neg (law_lt hi hL), zsx_T (k := 5 * i) ⟨by omega, by omega⟩, hx, if_neg (show ¬ ((nI 22).toInt < 0 ∨ 35 < (nI 22).toInt) by decide)]
  rw [if_neg (show ¬ nI 22 = (0 : Int32) by decide), if_neg (show ¬ nI 22 = (1 : Int32) by decide), if_neg (show ¬ nI 22 = (2 : Int32) by decide), if_neg (show ¬ nI 22 = (3 : Int32) by decide), if_neg (show ¬ nI 22 = (4 : Int32) by decide), if_neg (show ¬ nI 22 = (5 : Int32) by decide), if_neg (show ¬ nI 22 = (6 : Int32) by decide), if_neg (show ¬ nI 22 = (7 : Int32) by decide), if_neg (show ¬ nI 22 = (8 : Int32) by decide), if_neg (show ¬ nI 22 = (9 : Int32) by decide), if_neg (show ¬ nI 22 = (10 : Int32) by decide), if_neg (show ¬ nI 22 = (11 : Int32) by decide), if_neg (show ¬ nI 22 = (12 : Int32) by decide), if_neg (show ¬ nI 22 = (13 : Int32) by decide), if_neg (show ¬ nI 22 = (14 : Int32) by decide), if_neg (show ¬ nI 22 = (15 : Int32) by decide), if_neg (show ¬ nI 22 = (16 : Int32) by decide), if_neg (show ¬ nI 22 = (17 : Int32) by decide), if_neg (show ¬ nI 22 = (18 : Int32) by decide), if_neg (show ¬ nI 22 = (19 : Int32) by decide), if_neg (show ¬ nI 22 = (20 : Int32) by decide), if_neg (show ¬ nI 22 = (21 : Int32) by decide), if_pos (show nI 22 = (22 : Int32) from rfl)]
  rw [show nI (5 * i) + (1 : Int32) = nI (5 * i + 1) from nI_add (5 * i) 1, show nI (5 * i) + (2 : Int32) = nI (5 * i + 2) from nI_add (5 * i) 2, zsx_T (k := 5 * i + 1) ⟨by omega, by omega⟩, zsx_T (k := 5 * i + 2) ⟨by omega, by omega⟩, zcv_T (zInv_0 hI), e1, zc_some, zsx_T (k := 5 * i + 1) ⟨by omega, by omega⟩, zsx_T (k := 5 * i + 2) ⟨by omega, by omega⟩, zcv_T e4, e2', zc_some, if_pos rfl]
  exact law_J kc
theorem law_23 (n : Nat) {xs : Nat → Int32} {L i : Nat} {h : zH} (hn : 513 < n) (hi : 5 * i + 5 ≤ L) (hL : L ≤ 2560) (hI : zInv i h) (hx : xs (5 * i) &&& (63 : Int32) = nI 23) : lawStep n xs L i h := by
  obtain ⟨x, h1, h2, e1, e2, e3, e4⟩ := k_read hn hI
  have e2' : F_X11_read n h1 85 = some (x, h2) := e2
  refine ⟨h2, e3, fun kc => ?_⟩
  unfold F_L_law_B18
  rw [if_pos (show i < 513 by omega)]
  dsimp only [zv]
  rw [if_neg (law_lt hi hL), zsx_T (k := 5 * i) ⟨by omega, by omega⟩, hx, if_neg (show ¬ ((nI 23).toInt < 0 ∨ 35 < (nI 23).toInt) by decide)]
  rw [if_neg (show ¬ nI 23 = (0 : Int32) by decide), if_neg (show ¬ nI 23 = (1 : Int32) by decide), if_neg (show ¬ nI 23 = (2 : Int32) by decide), if_neg (show ¬ nI 23 = (3 : Int32) by decide), if_neg (show ¬ nI 23 = (4 : Int32) by decide), if_neg (show ¬ nI 23 = (5 : Int32) by decide), if_neg (show ¬ nI 23 = (6 : Int32) by decide), if_neg (show ¬ nI 23 = (7 : Int32) by decide), if_neg (show ¬ nI 23 = (8 : Int32) by decide), if_neg (show ¬ nI 23 = (9 : Int32) by decide), if_neg (show ¬ nI 23 = (10 : Int32) by decide), if_neg (show ¬ nI 23 = (11 : Int32) by decide), if_neg (show ¬ nI 23 = (12 : Int32) by decide), if_neg (show ¬ nI 23 = (13 : Int32) by decide), if_neg (show ¬ nI 23 = (14 : Int32) by decide), if_neg (show ¬ nI 23 = (15 : Int32) by decide), if_neg (show ¬ nI 23 = (16 : Int32) by decide), if_neg (show ¬ nI 23 = (17 : Int32) by decide), if_neg (show ¬ nI 23 = (18 : Int32) by decide), if_neg (show ¬ nI 23 = (19 : Int32) by decide), if_neg (show ¬ nI 23 = (20 : Int32) by decide), if_neg (show ¬ nI 23 = (21 : Int32) by decide), if_neg (show ¬ nI 23 = (22 : Int32) by decide), if_pos (show nI 23 = (23 : Int32) from rfl)]
  rw [zcv_T (zInv_0 hI), e1, zc_some, zcv_T e4, e2', zc_some, if_pos rfl]
  exact law_J kc
theorem law_24 (n : Nat) {xs : Nat → Int32} {L i : Nat} {h : zH} (hn : 513 < n) (hi : 5 * i + 5 ≤ L) (hL : L ≤ 2560) (hI : zInv i h) (hx : xs (5 * i) &&& (63 : Int32) = nI 24) : lawStep n xs L i h := by
  obtain ⟨x, h1, h2, e1, e2, e3, e4⟩ := k_tells hn hI
  have e2' : F_X11_tells n h1 85 = some (x, h2) := e2
  refine ⟨h2, e3, fun kc => ?_⟩
  unfold F_L_law_B18
  rw [if_pos (show i < 513 by omega)]
  dsimp only [zv]
  rw [if_neg (law_lt hi hL), zsx_T (k := 5 * i) ⟨by omega, by omega⟩, hx, if_neg (show ¬ ((nI 24).toInt < 0 ∨ 35 < (nI 24).toInt) by decide)]
  rw [if_neg (show ¬ nI 24 = (0 : Int32) by decide), if_neg (show ¬ nI 24 = (1 : Int32) by decide), if_neg (show ¬ nI 24 = (2 : Int32) by decide), if_neg (show ¬ nI 24 = (3 : Int32) by decide), if_neg (show ¬ nI 24 = (4 : Int32) by decide), if_neg (show ¬ nI 24 = (5 : Int32) by decide), if_neg (show ¬ nI 24 = (6 : Int32) by decide), if_neg (show ¬ nI 24 = (7 : Int32) by decide), if_neg (show ¬ nI 24 = (8 : Int32) by decide), if_neg (show ¬ nI 24 = (9 : Int32) by decide), if_neg (show ¬ nI 24 = (10 : Int32) by decide), if_neg (show ¬ nI 24 = (11 : Int32) by decide), if_neg (show ¬ nI 24 = (12 : Int32) by decide), if_neg (show ¬ nI 24 = (13 : Int32) by decide), if_neg (show ¬ nI 24 = (14 : Int32) by decide), if_neg (show ¬ nI 24 = (15 : Int32) by decide), if_neg (show ¬ nI 24 = (16 : Int32) by decide), if_neg (show ¬ nI 24 = (17 : Int32) by decide), if_neg (show ¬ nI 24 = (18 : Int32) by decide), if_neg (show ¬ nI 24 = (19 : Int32) by decide), if_neg (show ¬ nI 24 = (20 : Int32) by decide), if_neg (show ¬ nI 24 = (21 : Int32) by decide), if_neg (show ¬ nI 24 = (22 : Int32) by decide), if_neg (show ¬ nI 24 = (23 : Int32) by decide), if_pos (show nI 24 = (24 : Int32) from rfl)]
  rw [zcv_T (zInv_0 hI), e1, zc_some, zcv_T e4, e2', zc_some, if_pos rfl]
  exact law_J kc
theorem law_25 (n : Nat) {xs : Nat → Int32} {L i : Nat} {h : zH} (hn : 513 < n) (hi : 5 * i + 5 ≤ L) (hL : L ≤ 2560) (hI : zInv i h) (hx : xs (5 * i) &&& (63 : Int32) = nI 25) : lawStep n xs L i h := by
  obtain ⟨x, h1, h2, e1, e2, e3, e4⟩ := k_apart hn hI (xs (5 * i + 1)) (xs (5 * i + 2)) (xs (5 * i + 3))
  have e2' : F_X11_apart n h1 85 (xs (5 * i + 1)) (xs (5 * i + 2)) (xs (5 * i + 3)) = some (x, h2) := e2
  refine ⟨h2, e3, fun kc => ?_⟩
  unfold F_L_law_B18
  rw [if_pos (show i < 513 by omega)]
  dsimp only [zv]
  rw [if_neg (law_lt hi hL), zsx_T (k := 5 * i) ⟨by omega, by omega⟩, hx, if_neg (show ¬ ((nI 25).toInt < 0 ∨ 35 < (nI 25).toInt) by decide)]
  rw [if_neg (show ¬ nI 25 = (0 : Int32) by decide), if_neg (show ¬ nI 25 = (1 : Int32) by decide), if_neg (show ¬ nI 25 = (2 : Int32) by decide), if_neg (show ¬ nI 25 = (3 : Int32) by decide), if_neg (show ¬ nI 25 = (4 : Int32) by decide), if_neg (show ¬ nI 25 = (5 : Int32) by decide), if_neg (show ¬ nI 25 = (6 : Int32) by decide), if_neg (show ¬ nI 25 = (7 : Int32) by decide), if_neg (show ¬ nI 25 = (8 : Int32) by decide), if_neg (show ¬ nI 25 = (9 : Int32) by decide), if_neg (show ¬ nI 25 = (10 : Int32) by decide), if_neg (show ¬ nI 25 = (11 : Int32) by decide), if_neg (show ¬ nI 25 = (12 : Int32) by decide), if_neg (show ¬ nI 25 = (13 : Int32) by decide), if_neg (show ¬ nI 25 = (14 : Int32) by decide), if_neg (show ¬ nI 25 = (15 : Int32) by decide), if_neg (show ¬ nI 25 = (16 : Int32) by decide), if_neg (show ¬ nI 25 = (17 : Int32) by decide), if_neg (show ¬ nI 25 = (18 : Int32) by decide), if_neg (show ¬ nI 25 = (19 : Int32) by decide), if_neg (show ¬ nI 25 = (20 : Int32) by decide), if_neg (show ¬ nI 25 = (21 : Int32) by decide), if_neg (show ¬ nI 25 = (22 : Int32) by decide), if_neg (show ¬ nI 25 = (23 : Int32) by decide), if_neg (show ¬ nI 25 = (24 : Int32) by decide), if_pos (show nI 25 = (25 : Int32) from rfl)]
  rw [show nI (5 * i) + (1 : Int32) = nI (5 * i + 1) from nI_add (5 * i) 1, show nI (5 * i) + (2 : Int32) = nI (5 * i + 2) from nI_add (5 * i) 2, show nI (5 * i) + (3 : Int32) = nI (5 * i + 3) from nI_add (5 * i) 3, zsx_T (k := 5 * i + 1) ⟨by omega, by omega⟩, zsx_T (k := 5 * i + 2) ⟨by omega, by omega⟩, zsx_T (k := 5 * i + 3) ⟨by omega, by omega⟩, zcv_T (zInv_0 hI), e1, zc_some, zsx_T (k := 5 * i + 1) ⟨by omega, by omega⟩, zsx_T (k := 5 * i + 2) ⟨by omega, by omega⟩, zsx_T (k := 5 * i + 3) ⟨by omega, by omega⟩, zcv_T e4, e2', zc_some, if_pos rfl]
  exact law_J kc
theorem law_26 (n : Nat) {xs : Nat → Int32} {L i : Nat} {h : zH} (hn : 513 < n) (hi : 5 * i + 5 ≤ L) (hL : L ≤ 2560) (hI : zInv i h) (hx : xs (5 * i) &&& (63 : Int32) = nI 26) : lawStep n xs L i h := by
  obtain ⟨x, h1, h2, e1, e2, e3, e4⟩ := k_picture hn hI (xs (5 * i + 1)) (xs (5 * i + 2))
  have e2' : F_X11_picture n h1 85 (xs (5 * i + 1)) (xs (5 * i + 2)) = some (x, h2) := e2
  refine ⟨h2, e3, fun kc => ?_⟩
  unfold F_L_law_B18
  rw [if_pos (show i < 513 by omega)]
  dsimp only [zv]
  rw [if_neg (law_lt hi hL), zsx_T (k := 5 * i) ⟨by omega, by omega⟩, hx, if_neg (show ¬ ((nI 26).toInt < 0 ∨ 35 < (nI 26).toInt) by decide)]
  rw [if_neg (show ¬ nI 26 = (0 : Int32) by decide), if_neg (show ¬ nI 26 = (1 : Int32) by decide), if_neg (show ¬ nI 26 = (2 : Int32) by decide), if_neg (show ¬ nI 26 = (3 : Int32) by decide), if_neg (show ¬ nI 26 = (4 : Int32) by decide), if_neg (show ¬ nI 26 = (5 : Int32) by decide), if_neg (show ¬ nI 26 = (6 : Int32) by decide), if_neg (show ¬ nI 26 = (7 : Int32) by decide), if_neg (show ¬ nI 26 = (8 : Int32) by decide), if_neg (show ¬ nI 26 = (9 : Int32) by decide), if_neg (show ¬ nI 26 = (10 : Int32) by decide), if_neg (show ¬ nI 26 = (11 : Int32) by decide), if_neg (show ¬ nI 26 = (12 : Int32) by decide), if_neg (show ¬ nI 26 = (13 : Int32) by decide), if_neg (show ¬ nI 26 = (14 : Int32) by decide), if_neg (show ¬ nI 26 = (15 : Int32) by decide), if_neg (show ¬ nI 26 = (16 : Int32) by decide), if_neg (show ¬ nI 26 = (17 : Int32) by decide), if_neg (show ¬ nI 26 = (18 : Int32) by decide), if_neg (show ¬ nI 26 = (19 : Int32) by decide), if_neg (show ¬ nI 26 = (20 : Int32) by decide), if_neg (show ¬ nI 26 = (21 : Int32) by decide), if_neg (show ¬ nI 26 = (22 : Int32) by decide), if_neg (show ¬ nI 26 = (23 : Int32) by decide), if_neg (show ¬ nI 26 = (24 : Int32) by decide), if_neg (show ¬ nI 26 = (25 : Int32) by decide), if_pos (show nI 26 = (26 : Int32) from rfl)]
  rw [show nI (5 * i) + (1 : Int32) = nI (5 * i + 1) from nI_add (5 * i) 1, show nI (5 * i) + (2 : Int32) = nI (5 * i + 2) from nI_add (5 * i) 2, zsx_T (k := 5 * i + 1) ⟨by omega, by omega⟩, zsx_T (k := 5 * i + 2) ⟨by omega, by omega⟩, zcv_T (zInv_0 hI), e1, zc_some, zsx_T (k := 5 * i + 1) ⟨by omega, by omega⟩, zsx_T (k := 5 * i + 2) ⟨by omega, by omega⟩, zcv_T e4, e2', zc_some, if_pos rfl]
  exact law_J kc
theorem law_27 (n : Nat) {xs : Nat → Int32} {L i : Nat} {h : zH} (hn : 513 < n) (hi : 5 * i + 5 ≤ L) (hL : L ≤ 2560) (hI : zInv i h) (hx : xs (5 * i) &&& (63 : Int32) = nI 27) : lawStep n xs L i h := by
  obtain ⟨x, h1, h2, e1, e2, e3, e4⟩ := k_drag hn hI
  have e2' : F_X11_drag n h1 85 = some (x, h2) := e2
  refine ⟨h2, e3, fun kc => ?_⟩
  unfold F_L_law_B18
  rw [if_pos (show i < 513 by omega)]
  dsimp only [zv]
  rw [if_neg (law_lt hi hL), zsx_T (k := 5 * i) ⟨by omega, by omega⟩, hx, if_neg (show ¬ ((nI 27).toInt < 0 ∨ 35 < (nI 27).toInt) by decide)]
  rw [if_neg (show ¬ nI 27 = (0 : Int32) by decide), if_neg (show ¬ nI 27 = (1 : Int32) by decide), if_neg (show ¬ nI 27 = (2 : Int32) by decide), if_neg (show ¬ nI 27 = (3 : Int32) by decide), if_neg (show ¬ nI 27 = (4 : Int32) by decide), if_neg (show ¬ nI 27 = (5 : Int32) by decide), if_neg (show ¬ nI 27 = (6 : Int32) by decide), if_neg (show ¬ nI 27 = (7 : Int32) by decide), if_neg (show ¬ nI 27 = (8 : Int32) by decide), if_neg (show ¬ nI 27 = (9 : Int32) by decide), if_neg (show ¬ nI 27 = (10 : Int32) by decide), if_neg (show ¬ nI 27 = (11 : Int32) by decide), if_neg (show ¬ nI 27 = (12 : Int32) by decide), if_neg (show ¬ nI 27 = (13 : Int32) by decide), if_neg (show ¬ nI 27 = (14 : Int32) by decide), if_neg (show ¬ nI 27 = (15 : Int32) by decide), if_neg (show ¬ nI 27 = (16 : Int32) by decide), if_neg (show ¬ nI 27 = (17 : Int32) by decide), if_neg (show ¬ nI 27 = (18 : Int32) by decide), if_neg (show ¬ nI 27 = (19 : Int32) by decide), if_neg (show ¬ nI 27 = (20 : Int32) by decide), if_neg (show ¬ nI 27 = (21 : Int32) by decide), if_neg (show ¬ nI 27 = (22 : Int32) by decide), if_neg (show ¬ nI 27 = (23 : Int32) by decide), if_neg (show ¬ nI 27 = (24 : Int32) by decide), if_neg (show ¬ nI 27 = (25 : Int32) by decide), if_neg (show ¬ nI 27 = (26 : Int32) by decide), if_pos (show nI 27 = (27 : Int32) from rfl)]
  rw [zcv_T (zInv_0 hI), e1, zc_some, zcv_T e4, e2', zc_some, if_pos rfl]
  exact law_J kc
theorem law_28 (n : Nat) {xs : Nat → Int32} {L i : Nat} {h : zH} (hn : 513 < n) (hi : 5 * i + 5 ≤ L) (hL : L ≤ 2560) (hI : zInv i h) (hx : xs (5 * i) &&& (63 : Int32) = nI 28) : lawStep n xs L i h := by
  obtain ⟨x, h1, h2, e1, e2, e3, e4⟩ := k_point hn hI (xs (5 * i + 1)) (xs (5 * i + 2)) (xs (5 * i + 3)) (xs (5 * i + 4))
  have e2' : F_X11_point n h1 85 (xs (5 * i + 1)) (xs (5 * i + 2)) (xs (5 * i + 3)) (xs (5 * i + 4)) = some (x, h2) := e2
  refine ⟨h2, e3, fun kc => ?_⟩
  unfold F_L_law_B18
  rw [if_pos (show i < 513 by omega)]
  dsimp only [zv]
  rw [if_neg (law_lt hi hL), zsx_T (k := 5 * i) ⟨by omega, by omega⟩, hx, if_neg (show ¬ ((nI 28).toInt < 0 ∨ 35 < (nI 28).toInt) by decide)]
  rw [if_neg (show ¬ nI 28 = (0 : Int32) by decide), if_neg (show ¬ nI 28 = (1 : Int32) by decide), if_neg (show ¬ nI 28 = (2 : Int32) by decide), if_neg (show ¬ nI 28 = (3 : Int32) by decide), if_neg (show ¬ nI 28 = (4 : Int32) by decide), if_neg (show ¬ nI 28 = (5 : Int32) by decide), if_neg (show ¬ nI 28 = (6 : Int32) by decide), if_neg (show ¬ nI 28 = (7 : Int32) by decide), if_neg (show ¬ nI 28 = (8 : Int32) by decide), if_neg (show ¬ nI 28 = (9 : Int32) by decide), if_neg (show ¬ nI 28 = (10 : Int32) by decide), if_neg (show ¬ nI 28 = (11 : Int32) by decide), if_neg (show ¬ nI 28 = (12 : Int32) by decide), if_neg (show ¬ nI 28 = (13 : Int32) by decide), if_neg (show ¬ nI 28 = (14 : Int32) by decide), if_neg (show ¬ nI 28 = (15 : Int32) by decide), if_neg (show ¬ nI 28 = (16 : Int32) by decide), if_neg (show ¬ nI 28 = (17 : Int32) by decide), if_neg (show ¬ nI 28 = (18 : Int32) by decide), if_neg (show ¬ nI 28 = (19 : Int32) by decide), if_neg (show ¬ nI 28 = (20 : Int32) by decide), if_neg (show ¬ nI 28 = (21 : Int32) by decide), if_neg (show ¬ nI 28 = (22 : Int32) by decide), if_neg (show ¬ nI 28 = (23 : Int32) by decide), if_neg (show ¬ nI 28 = (24 : Int32) by decide), if_neg (show ¬ nI 28 = (25 : Int32) by decide), if_neg (show ¬ nI 28 = (26 : Int32) by decide), if_neg (show ¬ nI 28 = (27 : Int32) by decide), if_pos (show nI 28 = (28 : Int32) from rfl)]
  rw [show nI (5 * i) + (1 : Int32) = nI (5 * i + 1) from nI_add (5 * i) 1, show nI (5 * i) + (2 : Int32) = nI (5 * i + 2) from nI_add (5 * i) 2, show nI (5 * i) + (3 : Int32) = nI (5 * i + 3) from nI_add (5 * i) 3, show nI (5 * i) + (4 : Int32) = nI (5 * i + 4) from nI_add (5 * i) 4, zsx_T (k := 5 * i + 1) ⟨by omega, by omega⟩, zsx_T (k := 5 * i + 2) ⟨by omega, by omega⟩, zsx_T (k := 5 * i + 3) ⟨by omega, by omega⟩, zsx_T (k := 5 * i + 4) ⟨by omega, by omega⟩, zcv_T (zInv_0 hI), e1, zc_some, zsx_T (k := 5 * i + 1) ⟨by omega, by omega⟩, zsx_T (k := 5 * i + 2) ⟨by omega, by omega⟩, zsx_T (k := 5 * i + 3) ⟨by omega, by omega⟩, zsx_T (k := 5 * i + 4) ⟨by omega, by omega⟩, zcv_T e4, e2', zc_some, if_pos rfl]
  exact law_J kc
theorem law_29 (n : Nat) {xs : Nat → Int32} {L i : Nat} {h : zH} (hn : 513 < n) (hi : 5 * i + 5 ≤ L) (hL : L ≤ 2560) (hI : zInv i h) (hx : xs (5 * i) &&& (63 : Int32) = nI 29) : lawStep n xs L i h := by
  obtain ⟨x, h1, h2, e1, e2, e3, e4⟩ := k_cuts hn hI (xs (5 * i + 1)) (xs (5 * i + 2)) (xs (5 * i + 3))
  have e2' : F_X11_cuts n h1 85 (xs (5 * i + 1)) (xs (5 * i + 2)) (xs (5 * i + 3)) = some (x, h2) := e2
  refine ⟨h2, e3, fun kc => ?_⟩
  unfold F_L_law_B18
  rw [if_pos (show i < 513 by omega)]
  dsimp only [zv]
  rw [if_neg (law_lt hi hL), zsx_T (k := 5 * i) ⟨by omega, by omega⟩, hx, if_neg (show ¬ ((nI 29).toInt < 0 ∨ 35 < (nI 29).toInt) by decide)]
  rw [if_neg (show ¬ nI 29 = (0 : Int32) by decide), if_neg (show ¬ nI 29 = (1 : Int32) by decide), if_neg (show ¬ nI 29 = (2 : Int32) by decide), if_neg (show ¬ nI 29 = (3 : Int32) by decide), if_neg (show ¬ nI 29 = (4 : Int32) by decide), if_neg (show ¬ nI 29 = (5 : Int32) by decide), if_neg (show ¬ nI 29 = (6 : Int32) by decide), if_neg (show ¬ nI 29 = (7 : Int32) by decide), if_neg (show ¬ nI 29 = (8 : Int32) by decide), if_neg (show ¬ nI 29 = (9 : Int32) by decide), if_neg (show ¬ nI 29 = (10 : Int32) by decide), if_neg (show ¬ nI 29 = (11 : Int32) by decide), if_neg (show ¬ nI 29 = (12 : Int32) by decide), if_neg (show ¬ nI 29 = (13 : Int32) by decide), if_neg (show ¬ nI 29 = (14 : Int32) by decide), if_neg (show ¬ nI 29 = (15 : Int32) by decide), if_neg (show ¬ nI 29 = (16 : Int32) by decide), if_neg (show ¬ nI 29 = (17 : Int32) by decide), if_neg (show ¬ nI 29 = (18 : Int32) by decide), if_neg (show ¬ nI 29 = (19 : Int32) by decide), if_neg (show ¬ nI 29 = (20 : Int32) by decide), if_neg (show ¬ nI 29 = (21 : Int32) by decide), if_neg (show ¬ nI 29 = (22 : Int32) by decide), if_neg (show ¬ nI 29 = (23 : Int32) by decide), if_neg (show ¬ nI 29 = (24 : Int32) by decide), if_neg (show ¬ nI 29 = (25 : Int32) by decide), if_neg (show ¬ nI 29 = (26 : Int32) by decide), if_neg (show ¬ nI 29 = (27 : Int32) by decide), if_neg (show ¬ nI 29 = (28 : Int32) by decide), if_pos (show nI 29 = (29 : Int32) from rfl)]
  rw [show nI (5 * i) + (1 : Int32) = nI (5 * i + 1) from nI_add (5 * i) 1, show nI (5 * i) + (2 : Int32) = nI (5 * i + 2) from nI_add (5 * i) 2, show nI (5 * i) + (3 : Int32) = nI (5 * i + 3) from nI_add (5 * i) 3, zsx_T (k := 5 * i + 1) ⟨by omega, by omega⟩, zsx_T (k := 5 * i + 2) ⟨by omega, by omega⟩, zsx_T (k := 5 * i + 3) ⟨by omega, by omega⟩, zcv_T (zInv_0 hI), e1, zc_some, zsx_T (k := 5 * i + 1) ⟨by omega, by omega⟩, zsx_T (k := 5 * i + 2) ⟨by omega, by omega⟩, zsx_T (k := 5 * i + 3) ⟨by omega, by omega⟩, zcv_T e4, e2', zc_some, if_pos rfl]
  exact law_J kc
theorem law_30 (n : Nat) {xs : Nat → Int32} {L i : Nat} {h : zH} (hn : 513 < n) (hi : 5 * i + 5 ≤ L) (hL : L ≤ 2560) (hI : zInv i h) (hx : xs (5 * i) &&& (63 : Int32) = nI 30) : lawStep n xs L i h := by
  obtain ⟨x, h1, h2, e1, e2, e3, e4⟩ := k_firstCut hn hI (xs (5 * i + 1)) (xs (5 * i + 2))
  have e2' : F_X11_firstCut n h1 85 (xs (5 * i + 1)) (xs (5 * i + 2)) = some (x, h2) := e2
  refine ⟨h2, e3, fun kc => ?_⟩
  unfold F_L_law_B18
  rw [if_pos (show i < 513 by omega)]
  dsimp only [zv]
  rw [if_neg (law_lt hi hL), zsx_T (k := 5 * i) ⟨by omega, by omega⟩, hx, if_neg (show ¬ ((nI 30).toInt < 0 ∨ 35 < (nI 30).toInt) by decide)]
  rw [if_neg (show ¬ nI 30 = (0 : Int32) by decide), if_neg (show ¬ nI 30 = (1 : Int32) by decide), if_neg (show ¬ nI 30 = (2 : Int32) by decide), if_neg (show ¬ nI 30 = (3 : Int32) by decide), if_neg (show ¬ nI 30 = (4 : Int32) by decide), if_neg (show ¬ nI 30 = (5 : Int32) by decide), if_neg (show ¬ nI 30 = (6 : Int32) by decide), if_neg (show ¬ nI 30 = (7 : Int32) by decide), if_neg (show ¬ nI 30 = (8 : Int32) by decide), if_neg (show ¬ nI 30 = (9 : Int32) by decide), if_neg (show ¬ nI 30 = (10 : Int32) by decide), if_neg (show ¬ nI 30 = (11 : Int32) by decide), if_neg (show ¬ nI 30 = (12 : Int32) by decide), if_neg (show ¬ nI 30 = (13 : Int32) by decide), if_neg (show ¬ nI 30 = (14 : Int32) by decide), if_neg (show ¬ nI 30 = (15 : Int32) by decide), if_neg (show ¬ nI 30 = (16 : Int32) by decide), if_neg (show ¬ nI 30 = (17 : Int32) by decide), if_neg (show ¬ nI 30 = (18 : Int32) by decide), if_neg (show ¬ nI 30 = (19 : Int32) by decide), if_neg (show ¬ nI 30 = (20 : Int32) by decide), if_neg (show ¬ nI 30 = (21 : Int32) by decide), if_neg (show ¬ nI 30 = (22 : Int32) by decide), if_neg (show ¬ nI 30 = (23 : Int32) by decide), if_neg (show ¬ nI 30 = (24 : Int32) by decide), if_neg (show ¬ nI 30 = (25 : Int32) by decide), if_neg (show ¬ nI 30 = (26 : Int32) by decide), if_neg (show ¬ nI 30 = (27 : Int32) by decide), if_neg (show ¬ nI 30 = (28 : Int32) by decide), if_neg (show ¬ nI 30 = (29 : Int32) by decide), if_pos (show nI 30 = (30 : Int32) from rfl)]
  rw [show nI (5 * i) + (1 : Int32) = nI (5 * i + 1) from nI_add (5 * i) 1, show nI (5 * i) + (2 : Int32) = nI (5 * i + 2) from nI_add (5 * i) 2, zsx_T (k := 5 * i + 1) ⟨by omega, by omega⟩, zsx_T (k := 5 * i + 2) ⟨by omega, by omega⟩, zcv_T (zInv_0 hI), e1, zc_some, zsx_T (k := 5 * i + 1) ⟨by omega, by omega⟩, zsx_T (k := 5 * i + 2) ⟨by omega, by omega⟩, zcv_T e4, e2', zc_some, if_pos rfl]
  exact law_J kc
theorem law_31 (n : Nat) {xs : Nat → Int32} {L i : Nat} {h : zH} (hn : 513 < n) (hi : 5 * i + 5 ≤ L) (hL : L ≤ 2560) (hI : zInv i h) (hx : xs (5 * i) &&& (63 : Int32) = nI 31) : lawStep n xs L i h := by
  obtain ⟨x, h1, h2, e1, e2, e3, e4⟩ := k_saves hn hI (xs (5 * i + 1)) (xs (5 * i + 2)) (xs (5 * i + 3))
  have e2' : F_X11_saves n h1 85 (xs (5 * i + 1)) (xs (5 * i + 2)) (xs (5 * i + 3)) = some (x, h2) := e2
  refine ⟨h2, e3, fun kc => ?_⟩
  unfold F_L_law_B18
  rw [if_pos (show i < 513 by omega)]
  dsimp only [zv]
  rw [if_neg (law_lt hi hL), zsx_T (k := 5 * i) ⟨by omega, by omega⟩, hx, if_neg (show ¬ ((nI 31).toInt < 0 ∨ 35 < (nI 31).toInt) by decide)]
  rw [if_neg (show ¬ nI 31 = (0 : Int32) by decide), if_neg (show ¬ nI 31 = (1 : Int32) by decide), if_neg (show ¬ nI 31 = (2 : Int32) by decide), if_neg (show ¬ nI 31 = (3 : Int32) by decide), if_neg (show ¬ nI 31 = (4 : Int32) by decide), if_neg (show ¬ nI 31 = (5 : Int32) by decide), if_neg (show ¬ nI 31 = (6 : Int32) by decide), if_neg (show ¬ nI 31 = (7 : Int32) by decide), if_neg (show ¬ nI 31 = (8 : Int32) by decide), if_neg (show ¬ nI 31 = (9 : Int32) by decide), if_neg (show ¬ nI 31 = (10 : Int32) by decide), if_neg (show ¬ nI 31 = (11 : Int32) by decide), if_neg (show ¬ nI 31 = (12 : Int32) by decide), if_neg (show ¬ nI 31 = (13 : Int32) by decide), if_neg (show ¬ nI 31 = (14 : Int32) by decide), if_neg (show ¬ nI 31 = (15 : Int32) by decide), if_neg (show ¬ nI 31 = (16 : Int32) by decide), if_neg (show ¬ nI 31 = (17 : Int32) by decide), if_neg (show ¬ nI 31 = (18 : Int32) by decide), if_neg (show ¬ nI 31 = (19 : Int32) by decide), if_neg (show ¬ nI 31 = (20 : Int32) by decide), if_neg (show ¬ nI 31 = (21 : Int32) by decide), if_neg (show ¬ nI 31 = (22 : Int32) by decide), if_neg (show ¬ nI 31 = (23 : Int32) by decide), if_neg (show ¬ nI 31 = (24 : Int32) by decide), if_neg (show ¬ nI 31 = (25 : Int32) by decide), if_neg (show ¬ nI 31 = (26 : Int32) by decide), if_neg (show ¬ nI 31 = (27 : Int32) by decide), if_neg (show ¬ nI 31 = (28 : Int32) by decide), if_neg (show ¬ nI 31 = (29 : Int32) by decide), if_neg (show ¬ nI 31 = (30 : Int32) by decide), if_pos (show nI 31 = (31 : Int32) from rfl)]
  rw [show nI (5 * i) + (1 : Int32) = nI (5 * i + 1) from nI_add (5 * i) 1, show nI (5 * i) + (2 : Int32) = nI (5 * i + 2) from nI_add (5 * i) 2, show nI (5 * i) + (3 : Int32) = nI (5 * i + 3) from nI_add (5 * i) 3, zsx_T (k := 5 * i + 1) ⟨by omega, by omega⟩, zsx_T (k := 5 * i + 2) ⟨by omega, by omega⟩, zsx_T (k := 5 * i + 3) ⟨by omega, by omega⟩, zcv_T (zInv_0 hI), e1, zc_some, zsx_T (k := 5 * i + 1) ⟨by omega, by omega⟩, zsx_T (k := 5 * i + 2) ⟨by omega, by omega⟩, zsx_T (k := 5 * i + 3) ⟨by omega, by omega⟩, zcv_T e4, e2', zc_some, if_pos rfl]
  exact law_J kc
theorem law_32 (n : Nat) {xs : Nat → Int32} {L i : Nat} {h : zH} (hn : 513 < n) (hi : 5 * i + 5 ≤ L) (hL : L ≤ 2560) (hI : zInv i h) (hx : xs (5 * i) &&& (63 : Int32) = nI 32) : lawStep n xs L i h := by
  obtain ⟨x, h1, h2, e1, e2, e3, e4⟩ := k_image hn hI
  have e2' : F_X11_image n h1 85 = some (x, h2) := e2
  refine ⟨h2, e3, fun kc => ?_⟩
  unfold F_L_law_B18
  rw [if_pos (show i < 513 by omega)]
  dsimp only [zv]
  rw [if_neg (law_lt hi hL), zsx_T (k := 5 * i) ⟨by omega, by omega⟩, hx, if_neg (show ¬ ((nI 32).toInt < 0 ∨ 35 < (nI 32).toInt) by decide)]
  rw [if_neg (show ¬ nI 32 = (0 : Int32) by decide), if_neg (show ¬ nI 32 = (1 : Int32) by decide), if_neg (show ¬ nI 32 = (2 : Int32) by decide), if_neg (show ¬ nI 32 = (3 : Int32) by decide), if_neg (show ¬ nI 32 = (4 : Int32) by decide), if_neg (show ¬ nI 32 = (5 : Int32) by decide), if_neg (show ¬ nI 32 = (6 : Int32) by decide), if_neg (show ¬ nI 32 = (7 : Int32) by decide), if_neg (show ¬ nI 32 = (8 : Int32) by decide), if_neg (show ¬ nI 32 = (9 : Int32) by decide), if_neg (show ¬ nI 32 = (10 : Int32) by decide), if_neg (show ¬ nI 32 = (11 : Int32) by decide), if_neg (show ¬ nI 32 = (12 : Int32) by decide), if_neg (show ¬ nI 32 = (13 : Int32) by decide), if_neg (show ¬ nI 32 = (14 : Int32) by decide), if_neg (show ¬ nI 32 = (15 : Int32) by decide), if_neg (show ¬ nI 32 = (16 : Int32) by decide), if_neg (show ¬ nI 32 = (17 : Int32) by decide), if_neg (show ¬ nI 32 = (18 : Int32) by decide), if_neg (show ¬ nI 32 = (19 : Int32) by decide), if_neg (show ¬ nI 32 = (20 : Int32) by decide), if_neg (show ¬ nI 32 = (21 : Int32) by decide), if_neg (show ¬ nI 32 = (22 : Int32) by decide), if_neg (show ¬ nI 32 = (23 : Int32) by decide), if_neg (show ¬ nI 32 = (24 : Int32) by decide), if_neg (show ¬ nI 32 = (25 : Int32) by decide), if_neg (show ¬ nI 32 = (26 : Int32) by decide), if_neg (show ¬ nI 32 = (27 : Int32) by decide), if_neg (show ¬ nI 32 = (28 : Int32) by decide), if_neg (show ¬ nI 32 = (29 : Int32) by decide), if_neg (show ¬ nI 32 = (30 : Int32) by decide), if_neg (show ¬ nI 32 = (31 : Int32) by decide), if_pos (show nI 32 = (32 : Int32) from rfl)]
  rw [zcv_T (zInv_0 hI), e1, zc_some, zcv_T e4, e2', zc_some, if_pos rfl]
  exact law_J kc
theorem law_33 (n : Nat) {xs : Nat → Int32} {L i : Nat} {h : zH} (hn : 513 < n) (hi : 5 * i + 5 ≤ L) (hL : L ≤ 2560) (hI : zInv i h) (hx : xs (5 * i) &&& (63 : Int32) = nI 33) : lawStep n xs L i h := by
  obtain ⟨x, h1, h2, e1, e2, e3, e4⟩ := k_restore hn (by omega) hI
  have e2' : F_X11_restore n h1 85 = some (x, h2) := e2
  refine ⟨h2, e3, fun kc => ?_⟩
  unfold F_L_law_B18
  rw [if_pos (show i < 513 by omega)]
  dsimp only [zv]
  rw [if_neg (law_lt hi hL), zsx_T (k := 5 * i) ⟨by omega, by omega⟩, hx, if_neg (show ¬ ((nI 33).toInt < 0 ∨ 35 < (nI 33).toInt) by decide)]
  rw [if_neg (show ¬ nI 33 = (0 : Int32) by decide), if_neg (show ¬ nI 33 = (1 : Int32) by decide), if_neg (show ¬ nI 33 = (2 : Int32) by decide), if_neg (show ¬ nI 33 = (3 : Int32) by decide), if_neg (show ¬ nI 33 = (4 : Int32) by decide), if_neg (show ¬ nI 33 = (5 : Int32) by decide), if_neg (show ¬ nI 33 = (6 : Int32) by decide), if_neg (show ¬ nI 33 = (7 : Int32) by decide), if_neg (show ¬ nI 33 = (8 : Int32) by decide), if_neg (show ¬ nI 33 = (9 : Int32) by decide), if_neg (show ¬ nI 33 = (10 : Int32) by decide), if_neg (show ¬ nI 33 = (11 : Int32) by decide), if_neg (show ¬ nI 33 = (12 : Int32) by decide), if_neg (show ¬ nI 33 = (13 : Int32) by decide), if_neg (show ¬ nI 33 = (14 : Int32) by decide), if_neg (show ¬ nI 33 = (15 : Int32) by decide), if_neg (show ¬ nI 33 = (16 : Int32) by decide), if_neg (show ¬ nI 33 = (17 : Int32) by decide), if_neg (show ¬ nI 33 = (18 : Int32) by decide), if_neg (show ¬ nI 33 = (19 : Int32) by decide), if_neg (show ¬ nI 33 = (20 : Int32) by decide), if_neg (show ¬ nI 33 = (21 : Int32) by decide), if_neg (show ¬ nI 33 = (22 : Int32) by decide), if_neg (show ¬ nI 33 = (23 : Int32) by decide), if_neg (show ¬ nI 33 = (24 : Int32) by decide), if_neg (show ¬ nI 33 = (25 : Int32) by decide), if_neg (show ¬ nI 33 = (26 : Int32) by decide), if_neg (show ¬ nI 33 = (27 : Int32) by decide), if_neg (show ¬ nI 33 = (28 : Int32) by decide), if_neg (show ¬ nI 33 = (29 : Int32) by decide), if_neg (show ¬ nI 33 = (30 : Int32) by decide), if_neg (show ¬ nI 33 = (31 : Int32) by decide), if_neg (show ¬ nI 33 = (32 : Int32) by decide), if_pos (show nI 33 = (33 : Int32) from rfl)]
  rw [zcv_T (zInv_0 hI), e1, zc_some, zcv_T e4, e2', zc_some, if_pos rfl]
  exact law_J kc
theorem law_34 (n : Nat) {xs : Nat → Int32} {L i : Nat} {h : zH} (hn : 513 < n) (hi : 5 * i + 5 ≤ L) (hL : L ≤ 2560) (hI : zInv i h) (hx : xs (5 * i) &&& (63 : Int32) = nI 34) : lawStep n xs L i h := by
  obtain ⟨x, h1, h2, e1, e2, e3, e4⟩ := k_count hn hI (xs (5 * i + 1))
  have e2' : F_X11_count n h1 85 (xs (5 * i + 1)) = some (x, h2) := e2
  refine ⟨h2, e3, fun kc => ?_⟩
  unfold F_L_law_B18
  rw [if_pos (show i < 513 by omega)]
  dsimp only [zv]
  rw [if_neg (law_lt hi hL), zsx_T (k := 5 * i) ⟨by omega, by omega⟩, hx, if_neg (show ¬ ((nI 34).toInt < 0 ∨ 35 < (nI 34).toInt) by decide)]
  rw [if_neg (show ¬ nI 34 = (0 : Int32) by decide), if_neg (show ¬ nI 34 = (1 : Int32) by decide), if_neg (show ¬ nI 34 = (2 : Int32) by decide), if_neg (show ¬ nI 34 = (3 : Int32) by decide), if_neg (show ¬ nI 34 = (4 : Int32) by decide), if_neg (show ¬ nI 34 = (5 : Int32) by decide), if_neg (show ¬ nI 34 = (6 : Int32) by decide), if_neg (show ¬ nI 34 = (7 : Int32) by decide), if_neg (show ¬ nI 34 = (8 : Int32) by decide), if_neg (show ¬ nI 34 = (9 : Int32) by decide), if_neg (show ¬ nI 34 = (10 : Int32) by decide), if_neg (show ¬ nI 34 = (11 : Int32) by decide), if_neg (show ¬ nI 34 = (12 : Int32) by decide), if_neg (show ¬ nI 34 = (13 : Int32) by decide), if_neg (show ¬ nI 34 = (14 : Int32) by decide), if_neg (show ¬ nI 34 = (15 : Int32) by decide), if_neg (show ¬ nI 34 = (16 : Int32) by decide), if_neg (show ¬ nI 34 = (17 : Int32) by decide), if_neg (show ¬ nI 34 = (18 : Int32) by decide), if_neg (show ¬ nI 34 = (19 : Int32) by decide), if_neg (show ¬ nI 34 = (20 : Int32) by decide), if_neg (show ¬ nI 34 = (21 : Int32) by decide), if_neg (show ¬ nI 34 = (22 : Int32) by decide), if_neg (show ¬ nI 34 = (23 : Int32) by decide), if_neg (show ¬ nI 34 = (24 : Int32) by decide), if_neg (show ¬ nI 34 = (25 : Int32) by decide), if_neg (show ¬ nI 34 = (26 : Int32) by decide), if_neg (show ¬ nI 34 = (27 : Int32) by decide), if_neg (show ¬ nI 34 = (28 : Int32) by decide), if_neg (show ¬ nI 34 = (29 : Int32) by decide), if_neg (show ¬ nI 34 = (30 : Int32) by decide), if_neg (show ¬ nI 34 = (31 : Int32) by decide), if_neg (show ¬ nI 34 = (32 : Int32) by decide), if_neg (show ¬ nI 34 = (33 : Int32) by decide), if_pos (show nI 34 = (34 : Int32) from rfl)]
  rw [show nI (5 * i) + (1 : Int32) = nI (5 * i + 1) from nI_add (5 * i) 1, zsx_T (k := 5 * i + 1) ⟨by omega, by omega⟩, zcv_T (zInv_0 hI), e1, zc_some, zsx_T (k := 5 * i + 1) ⟨by omega, by omega⟩, zcv_T e4, e2', zc_some, if_pos rfl]
  exact law_J kc
theorem law_35 (n : Nat) {xs : Nat → Int32} {L i : Nat} {h : zH} (hn : 513 < n) (hi : 5 * i + 5 ≤ L) (hL : L ≤ 2560) (hI : zInv i h) (hx : xs (5 * i) &&& (63 : Int32) = nI 35) : lawStep n xs L i h := by
  obtain ⟨x, h1, h2, e1, e2, e3, e4⟩ := k_digest hn hI
  have e2' : F_X11_digest n h1 85 = some (x, h2) := e2
  refine ⟨h2, e3, fun kc => ?_⟩
  unfold F_L_law_B18
  rw [if_pos (show i < 513 by omega)]
  dsimp only [zv]
  rw [if_neg (law_lt hi hL), zsx_T (k := 5 * i) ⟨by omega, by omega⟩, hx, if_neg (show ¬ ((nI 35).toInt < 0 ∨ 35 < (nI 35).toInt) by decide)]
  rw [if_neg (show ¬ nI 35 = (0 : Int32) by decide), if_neg (show ¬ nI 35 = (1 : Int32) by decide), if_neg (show ¬ nI 35 = (2 : Int32) by decide), if_neg (show ¬ nI 35 = (3 : Int32) by decide), if_neg (show ¬ nI 35 = (4 : Int32) by decide), if_neg (show ¬ nI 35 = (5 : Int32) by decide), if_neg (show ¬ nI 35 = (6 : Int32) by decide), if_neg (show ¬ nI 35 = (7 : Int32) by decide), if_neg (show ¬ nI 35 = (8 : Int32) by decide), if_neg (show ¬ nI 35 = (9 : Int32) by decide), if_neg (show ¬ nI 35 = (10 : Int32) by decide), if_neg (show ¬ nI 35 = (11 : Int32) by decide), if_neg (show ¬ nI 35 = (12 : Int32) by decide), if_neg (show ¬ nI 35 = (13 : Int32) by decide), if_neg (show ¬ nI 35 = (14 : Int32) by decide), if_neg (show ¬ nI 35 = (15 : Int32) by decide), if_neg (show ¬ nI 35 = (16 : Int32) by decide), if_neg (show ¬ nI 35 = (17 : Int32) by decide), if_neg (show ¬ nI 35 = (18 : Int32) by decide), if_neg (show ¬ nI 35 = (19 : Int32) by decide), if_neg (show ¬ nI 35 = (20 : Int32) by decide), if_neg (show ¬ nI 35 = (21 : Int32) by decide), if_neg (show ¬ nI 35 = (22 : Int32) by decide), if_neg (show ¬ nI 35 = (23 : Int32) by decide), if_neg (show ¬ nI 35 = (24 : Int32) by decide), if_neg (show ¬ nI 35 = (25 : Int32) by decide), if_neg (show ¬ nI 35 = (26 : Int32) by decide), if_neg (show ¬ nI 35 = (27 : Int32) by decide), if_neg (show ¬ nI 35 = (28 : Int32) by decide), if_neg (show ¬ nI 35 = (29 : Int32) by decide), if_neg (show ¬ nI 35 = (30 : Int32) by decide), if_neg (show ¬ nI 35 = (31 : Int32) by decide), if_neg (show ¬ nI 35 = (32 : Int32) by decide), if_neg (show ¬ nI 35 = (33 : Int32) by decide), if_neg (show ¬ nI 35 = (34 : Int32) by decide), if_pos (show nI 35 = (35 : Int32) from rfl)]
  rw [zcv_T (zInv_0 hI), e1, zc_some, zcv_T e4, e2', zc_some, law_cmp, if_pos rfl]
  exact law_J kc
theorem law_any (n : Nat) {xs : Nat → Int32} {L i : Nat} {h : zH} (hn : 513 < n) (hi : 5 * i + 5 ≤ L) (hL : L ≤ 2560) (hI : zInv i h) : lawStep n xs L i h := by
  obtain ⟨m, hm, hx⟩ := pk_andE (xs (5 * i)) (m := 63) 6 (by decide)
  by_cases h35 : 35 < m
  · refine ⟨h, zInv_mono hI, fun kc => ?_⟩
    unfold F_L_law_B18
    rw [if_pos (show i < 513 by omega)]
    dsimp only [zv]
    rw [if_neg (law_lt hi hL), zsx_T (k := 5 * i) ⟨by omega, by omega⟩, hx, if_pos (show (nI m).toInt < 0 ∨ 35 < (nI m).toInt by rw [n_int (by omega)]; omega)]
    exact law_J kc
  · have hm36 : m = 0 ∨ m = 1 ∨ m = 2 ∨ m = 3 ∨ m = 4 ∨ m = 5 ∨ m = 6 ∨ m = 7 ∨ m = 8 ∨ m = 9 ∨ m = 10 ∨ m = 11 ∨ m = 12 ∨ m = 13 ∨ m = 14 ∨ m = 15 ∨ m = 16 ∨ m = 17 ∨ m = 18 ∨ m = 19 ∨ m = 20 ∨ m = 21 ∨ m = 22 ∨ m = 23 ∨ m = 24 ∨ m = 25 ∨ m = 26 ∨ m = 27 ∨ m = 28 ∨ m = 29 ∨ m = 30 ∨ m = 31 ∨ m = 32 ∨ m = 33 ∨ m = 34 ∨ m = 35 := by omega
    rcases hm36 with rfl | rfl | rfl | rfl | rfl | rfl | rfl | rfl | rfl | rfl | rfl | rfl | rfl | rfl | rfl | rfl | rfl | rfl | rfl | rfl | rfl | rfl | rfl | rfl | rfl | rfl | rfl | rfl | rfl | rfl | rfl | rfl | rfl | rfl | rfl | rfl
    · exact law_0 n hn hi hL hI hx
    · exact law_1 n hn hi hL hI hx
    · exact law_2 n hn hi hL hI hx
    · exact law_3 n hn hi hL hI hx
    · exact law_4 n hn hi hL hI hx
    · exact law_5 n hn hi hL hI hx
    · exact law_6 n hn hi hL hI hx
    · exact law_7 n hn hi hL hI hx
    · exact law_8 n hn hi hL hI hx
    · exact law_9 n hn hi hL hI hx
    · exact law_10 n hn hi hL hI hx
    · exact law_11 n hn hi hL hI hx
    · exact law_12 n hn hi hL hI hx
    · exact law_13 n hn hi hL hI hx
    · exact law_14 n hn hi hL hI hx
    · exact law_15 n hn hi hL hI hx
    · exact law_16 n hn hi hL hI hx
    · exact law_17 n hn hi hL hI hx
    · exact law_18 n hn hi hL hI hx
    · exact law_19 n hn hi hL hI hx
    · exact law_20 n hn hi hL hI hx
    · exact law_21 n hn hi hL hI hx
    · exact law_22 n hn hi hL hI hx
    · exact law_23 n hn hi hL hI hx
    · exact law_24 n hn hi hL hI hx
    · exact law_25 n hn hi hL hI hx
    · exact law_26 n hn hi hL hI hx
    · exact law_27 n hn hi hL hI hx
    · exact law_28 n hn hi hL hI hx
    · exact law_29 n hn hi hL hI hx
    · exact law_30 n hn hi hL hI hx
    · exact law_31 n hn hi hL hI hx
    · exact law_32 n hn hi hL hI hx
    · exact law_33 n hn hi hL hI hx
    · exact law_34 n hn hi hL hI hx
    · exact law_35 n hn hi hL hI hx
theorem law_all (xs : Nat → Int32) (L : Nat) (hL : L ≤ 2560) : F_L_law 600 xs L zh0 = some () := by
  rw [law_init]
  unfold F_L_law_L18
  have key9 := zforE (body := fun kc x => F_L_law_B18 600 xs L kc x.2.2 x.1 0 85 x.2.1) (fun i x => ∃ h, x = (h, nI (5 * i), i) ∧ zInv i h) (L / 5) (Q := fun r => r = some ()) (fun i x hi hx => ?_) (fun x hx => ?_) (n := 600) (by omega) (x := (zhL, nI 0, 0)) ⟨zhL, rfl, zInv_L⟩
  · obtain ⟨r, e1, e2⟩ := key9
    rw [e2, e1]
  · obtain ⟨h, rfl, hI⟩ := hx
    obtain ⟨h', h1, h2⟩ := law_any 600 (xs := xs) (L := L) (by omega) (by omega) hL hI
    exact ⟨_, ⟨h', rfl, h1⟩, fun kc => h2 kc⟩
  · obtain ⟨h, rfl, hI⟩ := hx
    refine ⟨_, rfl, fun kc => ?_⟩
    have hlt : Int32.ofNat L - (5 : Int32) < nI (5 * (L / 5)) := by
      show nI L - nI 5 < nI (5 * (L / 5))
      refine Int32.lt_iff_toInt_lt.mpr ?_
      have e5 : (nI 5).toInt = 5 := by decide
      rw [i_sub (by rw [e5, n_int (n := L) (by omega)]; omega), e5, n_int (n := L) (by omega), n_int (n := 5 * (L / 5)) (by omega)]
      omega
    dsimp only
    unfold F_L_law_B18
    rw [if_pos (show L / 5 < 513 by omega)]
    dsimp only [zv]
    rw [if_pos hlt]
