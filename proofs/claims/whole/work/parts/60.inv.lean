/-! ===== what holds between two calls ===== -/
def cRefs : List (Nat × Nat × Nat) := [(0, 0, 1), (0, 1, 3), (0, 2, 4), (0, 9, 19), (0, 12, 23), (0, 13, 28), (0, 14, 33), (0, 15, 42), (0, 16, 51), (0, 17, 63), (0, 19, 64), (1, 0, 2), (51, 0, 52), (51, 1, 61), (51, 2, 62), (64, 0, 65), (64, 1, 66)]
def cShs : List (Nat × Nat × Nat) := [(1, 5, 2), (2, 20, 50), (3, 2, 2), (4, 24, 8), (19, 25, 6), (51, 3, 4), (61, 20, 6), (62, 20, 8), (63, 20, 6), (64, 6, 3), (65, 20, 12), (66, 20, 12)]
def zRv (S : zH) (r : Nat) : Prop := zsh S r = some (7, 6) ∧ zr S r 0 = some (r + 1) ∧ zr S r 1 = some (r + 2) ∧ zr S r 2 = some (r + 3) ∧ zr S r 3 = some (r + 4) ∧ zsh S (r + 1) = some (20, 10) ∧ zsh S (r + 2) = some (22, 10) ∧ zsh S (r + 3) = some (20, 10) ∧ zsh S (r + 4) = some (20, 10)
def zRw (S : zH) (q : Nat) : Prop := zsh S q = some (8, 4) ∧ zr S q 0 = some (q + 1) ∧ zr S q 1 = some (q + 2) ∧ zsh S (q + 1) = some (20, 6) ∧ zsh S (q + 2) = some (20, 6)
def zKl (S : zH) (c c' r r' tr : Nat) : Prop := zsh S 0 = some (9, 20) ∧ (∀ q ∈ cRefs, zr S q.1 q.2.1 = some q.2.2) ∧ (∀ q ∈ cShs, zsh S q.1 = some q.2) ∧ zr S 0 4 = some c ∧ zr S 0 5 = some c' ∧ zr S 0 7 = some r ∧ zr S 0 8 = some r' ∧ zr S 0 10 = some tr ∧
  zLvs S 23 8 ∧ zLvs S 28 10 ∧ zBr S 33 ∧ zBr S 42 ∧ zBr S 52 ∧ zCu S c ∧ zCu S c' ∧ zRv S r ∧ zRv S r' ∧ zRw S tr ∧ zMo S ∧ ((c = 5 ∧ c' = 7) ∨ (c = 7 ∧ c' = 5)) ∧ ((r = 9 ∧ r' = 14) ∨ (r = 14 ∧ r' = 9)) ∧ (tr = 20 ∨ (67 ≤ tr ∧ tr + 2 < 85)) ∧ tr + 2 < zsz S ∧ 117 ≤ zsz S
theorem cl_s0 {S : zH} {c c' r r' tr : Nat} (h : zKl S c c' r r' tr) : zsh S 0 = some (9, 20) := h.1
theorem cl_r0_0 {S : zH} {c c' r r' tr : Nat} (h : zKl S c c' r r' tr) : zr S 0 0 = some 1 := h.2.1 (0, 0, 1) (by decide)
theorem cl_r0_1 {S : zH} {c c' r r' tr : Nat} (h : zKl S c c' r r' tr) : zr S 0 1 = some 3 := h.2.1 (0, 1, 3) (by decide)
theorem cl_r0_2 {S : zH} {c c' r r' tr : Nat} (h : zKl S c c' r r' tr) : zr S 0 2 = some 4 := h.2.1 (0, 2, 4) (by decide)
theorem cl_r0_9 {S : zH} {c c' r r' tr : Nat} (h : zKl S c c' r r' tr) : zr S 0 9 = some 19 := h.2.1 (0, 9, 19) (by decide)
theorem cl_r0_12 {S : zH} {c c' r r' tr : Nat} (h : zKl S c c' r r' tr) : zr S 0 12 = some 23 := h.2.1 (0, 12, 23) (by decide)
theorem cl_r0_13 {S : zH} {c c' r r' tr : Nat} (h : zKl S c c' r r' tr) : zr S 0 13 = some 28 := h.2.1 (0, 13, 28) (by decide)
theorem cl_r0_14 {S : zH} {c c' r r' tr : Nat} (h : zKl S c c' r r' tr) : zr S 0 14 = some 33 := h.2.1 (0, 14, 33) (by decide)
theorem cl_r0_15 {S : zH} {c c' r r' tr : Nat} (h : zKl S c c' r r' tr) : zr S 0 15 = some 42 := h.2.1 (0, 15, 42) (by decide)
theorem cl_r0_16 {S : zH} {c c' r r' tr : Nat} (h : zKl S c c' r r' tr) : zr S 0 16 = some 51 := h.2.1 (0, 16, 51) (by decide)
theorem cl_r0_17 {S : zH} {c c' r r' tr : Nat} (h : zKl S c c' r r' tr) : zr S 0 17 = some 63 := h.2.1 (0, 17, 63) (by decide)
theorem cl_r0_19 {S : zH} {c c' r r' tr : Nat} (h : zKl S c c' r r' tr) : zr S 0 19 = some 64 := h.2.1 (0, 19, 64) (by decide)
theorem cl_r1_0 {S : zH} {c c' r r' tr : Nat} (h : zKl S c c' r r' tr) : zr S 1 0 = some 2 := h.2.1 (1, 0, 2) (by decide)
theorem cl_r51_0 {S : zH} {c c' r r' tr : Nat} (h : zKl S c c' r r' tr) : zr S 51 0 = some 52 := h.2.1 (51, 0, 52) (by decide)
theorem cl_r51_1 {S : zH} {c c' r r' tr : Nat} (h : zKl S c c' r r' tr) : zr S 51 1 = some 61 := h.2.1 (51, 1, 61) (by decide)
theorem cl_r51_2 {S : zH} {c c' r r' tr : Nat} (h : zKl S c c' r r' tr) : zr S 51 2 = some 62 := h.2.1 (51, 2, 62) (by decide)
theorem cl_r64_0 {S : zH} {c c' r r' tr : Nat} (h : zKl S c c' r r' tr) : zr S 64 0 = some 65 := h.2.1 (64, 0, 65) (by decide)
theorem cl_r64_1 {S : zH} {c c' r r' tr : Nat} (h : zKl S c c' r r' tr) : zr S 64 1 = some 66 := h.2.1 (64, 1, 66) (by decide)
theorem cl_s1 {S : zH} {c c' r r' tr : Nat} (h : zKl S c c' r r' tr) : zsh S 1 = some (5, 2) := h.2.2.1 (1, 5, 2) (by decide)
theorem cl_s2 {S : zH} {c c' r r' tr : Nat} (h : zKl S c c' r r' tr) : zsh S 2 = some (20, 50) := h.2.2.1 (2, 20, 50) (by decide)
theorem cl_s3 {S : zH} {c c' r r' tr : Nat} (h : zKl S c c' r r' tr) : zsh S 3 = some (2, 2) := h.2.2.1 (3, 2, 2) (by decide)
theorem cl_s4 {S : zH} {c c' r r' tr : Nat} (h : zKl S c c' r r' tr) : zsh S 4 = some (24, 8) := h.2.2.1 (4, 24, 8) (by decide)
theorem cl_s19 {S : zH} {c c' r r' tr : Nat} (h : zKl S c c' r r' tr) : zsh S 19 = some (25, 6) := h.2.2.1 (19, 25, 6) (by decide)
theorem cl_s51 {S : zH} {c c' r r' tr : Nat} (h : zKl S c c' r r' tr) : zsh S 51 = some (3, 4) := h.2.2.1 (51, 3, 4) (by decide)
theorem cl_s61 {S : zH} {c c' r r' tr : Nat} (h : zKl S c c' r r' tr) : zsh S 61 = some (20, 6) := h.2.2.1 (61, 20, 6) (by decide)
theorem cl_s62 {S : zH} {c c' r r' tr : Nat} (h : zKl S c c' r r' tr) : zsh S 62 = some (20, 8) := h.2.2.1 (62, 20, 8) (by decide)
theorem cl_s63 {S : zH} {c c' r r' tr : Nat} (h : zKl S c c' r r' tr) : zsh S 63 = some (20, 6) := h.2.2.1 (63, 20, 6) (by decide)
theorem cl_s64 {S : zH} {c c' r r' tr : Nat} (h : zKl S c c' r r' tr) : zsh S 64 = some (6, 3) := h.2.2.1 (64, 6, 3) (by decide)
theorem cl_s65 {S : zH} {c c' r r' tr : Nat} (h : zKl S c c' r r' tr) : zsh S 65 = some (20, 12) := h.2.2.1 (65, 20, 12) (by decide)
theorem cl_s66 {S : zH} {c c' r r' tr : Nat} (h : zKl S c c' r r' tr) : zsh S 66 = some (20, 12) := h.2.2.1 (66, 20, 12) (by decide)
theorem cl_c {S : zH} {c c' r r' tr : Nat} (h : zKl S c c' r r' tr) : zr S 0 4 = some c := h.2.2.2.1
theorem cl_c' {S : zH} {c c' r r' tr : Nat} (h : zKl S c c' r r' tr) : zr S 0 5 = some c' := h.2.2.2.2.1
theorem cl_r {S : zH} {c c' r r' tr : Nat} (h : zKl S c c' r r' tr) : zr S 0 7 = some r := h.2.2.2.2.2.1
theorem cl_r' {S : zH} {c c' r r' tr : Nat} (h : zKl S c c' r r' tr) : zr S 0 8 = some r' := h.2.2.2.2.2.2.1
theorem cl_tr {S : zH} {c c' r r' tr : Nat} (h : zKl S c c' r r' tr) : zr S 0 10 = some tr := h.2.2.2.2.2.2.2.1
theorem cl_lv {S : zH} {c c' r r' tr : Nat} (h : zKl S c c' r r' tr) : zLvs S 23 8 := h.2.2.2.2.2.2.2.2.1
theorem cl_wd {S : zH} {c c' r r' tr : Nat} (h : zKl S c c' r r' tr) : zLvs S 28 10 := h.2.2.2.2.2.2.2.2.2.1
theorem cl_b {S : zH} {c c' r r' tr : Nat} (h : zKl S c c' r r' tr) : zBr S 33 := h.2.2.2.2.2.2.2.2.2.2.1
theorem cl_t {S : zH} {c c' r r' tr : Nat} (h : zKl S c c' r r' tr) : zBr S 42 := h.2.2.2.2.2.2.2.2.2.2.2.1
theorem cl_k {S : zH} {c c' r r' tr : Nat} (h : zKl S c c' r r' tr) : zBr S 52 := h.2.2.2.2.2.2.2.2.2.2.2.2.1
theorem cl_Cu {S : zH} {c c' r r' tr : Nat} (h : zKl S c c' r r' tr) : zCu S c := h.2.2.2.2.2.2.2.2.2.2.2.2.2.1
theorem cl_Cu' {S : zH} {c c' r r' tr : Nat} (h : zKl S c c' r r' tr) : zCu S c' := h.2.2.2.2.2.2.2.2.2.2.2.2.2.2.1
theorem cl_Rv {S : zH} {c c' r r' tr : Nat} (h : zKl S c c' r r' tr) : zRv S r := h.2.2.2.2.2.2.2.2.2.2.2.2.2.2.2.1
theorem cl_Rv' {S : zH} {c c' r r' tr : Nat} (h : zKl S c c' r r' tr) : zRv S r' := h.2.2.2.2.2.2.2.2.2.2.2.2.2.2.2.2.1
theorem cl_Rw {S : zH} {c c' r r' tr : Nat} (h : zKl S c c' r r' tr) : zRw S tr := h.2.2.2.2.2.2.2.2.2.2.2.2.2.2.2.2.2.1
theorem cl_M {S : zH} {c c' r r' tr : Nat} (h : zKl S c c' r r' tr) : zMo S := h.2.2.2.2.2.2.2.2.2.2.2.2.2.2.2.2.2.2.1
theorem cl_cc {S : zH} {c c' r r' tr : Nat} (h : zKl S c c' r r' tr) : (c = 5 ∧ c' = 7) ∨ (c = 7 ∧ c' = 5) := h.2.2.2.2.2.2.2.2.2.2.2.2.2.2.2.2.2.2.2.1
theorem cl_rr {S : zH} {c c' r r' tr : Nat} (h : zKl S c c' r r' tr) : (r = 9 ∧ r' = 14) ∨ (r = 14 ∧ r' = 9) := h.2.2.2.2.2.2.2.2.2.2.2.2.2.2.2.2.2.2.2.2.1
theorem cl_tt {S : zH} {c c' r r' tr : Nat} (h : zKl S c c' r r' tr) : tr = 20 ∨ (67 ≤ tr ∧ tr + 2 < 85) := h.2.2.2.2.2.2.2.2.2.2.2.2.2.2.2.2.2.2.2.2.2.1
theorem cl_tz {S : zH} {c c' r r' tr : Nat} (h : zKl S c c' r r' tr) : tr + 2 < zsz S := h.2.2.2.2.2.2.2.2.2.2.2.2.2.2.2.2.2.2.2.2.2.2.1
theorem cl_zz {S : zH} {c c' r r' tr : Nat} (h : zKl S c c' r r' tr) : 117 ≤ zsz S := h.2.2.2.2.2.2.2.2.2.2.2.2.2.2.2.2.2.2.2.2.2.2.2
theorem cl_sb {S : zH} {c c' r r' tr : Nat} (h : zKl S c c' r r' tr) : zsh S 33 = some (0, 2) := (cl_b h).1
theorem cl_st {S : zH} {c c' r r' tr : Nat} (h : zKl S c c' r r' tr) : zsh S 42 = some (0, 2) := (cl_t h).1
theorem cl_sk {S : zH} {c c' r r' tr : Nat} (h : zKl S c c' r r' tr) : zsh S 52 = some (0, 2) := (cl_k h).1
theorem cl_sl {S : zH} {c c' r r' tr : Nat} (h : zKl S c c' r r' tr) : zsh S 23 = some (4, 5) := (cl_lv h).1
theorem cl_sw {S : zH} {c c' r r' tr : Nat} (h : zKl S c c' r r' tr) : zsh S 28 = some (4, 5) := (cl_wd h).1
theorem cl_sc {S : zH} {c c' r r' tr : Nat} (h : zKl S c c' r r' tr) : zsh S c = some (1, 2) := (cl_Cu h).1
theorem cl_sc' {S : zH} {c c' r r' tr : Nat} (h : zKl S c c' r r' tr) : zsh S c' = some (1, 2) := (cl_Cu' h).1
theorem cl_sr {S : zH} {c c' r r' tr : Nat} (h : zKl S c c' r r' tr) : zsh S r = some (7, 6) := (cl_Rv h).1
theorem cl_sr' {S : zH} {c c' r r' tr : Nat} (h : zKl S c c' r r' tr) : zsh S r' = some (7, 6) := (cl_Rv' h).1
theorem cl_sq {S : zH} {c c' r r' tr : Nat} (h : zKl S c c' r r' tr) : zsh S tr = some (8, 4) := (cl_Rw h).1
def I_pg (f : Nat → Nat → Int32) (pl : Nat) : Prop := pl ≤ 50 ∧ f 1 1 = nI pl ∧ f 85 27 = nI pl ∧ ∀ i, i < pl → ∃ cd, cd ≤ 126 ∧ f 2 i = nI cd ∧ f 105 i = nI cd
def I_do (S : zH) (f : Nat → Nat → Int32) (nd : Nat) (da : Nat → Nat) : Prop := nd ≤ 8 ∧ f 0 3 = nI nd ∧ f 85 5 = nI nd ∧ f 3 0 = nI 0 ∧ f 3 1 = nI 0 ∧ ∀ k, k < nd → zr S 4 k = some (da k) ∧ zsh S (da k) = some (2, 2) ∧ 117 ≤ da k ∧ da k < zsz S ∧ f (da k) 0 = f 89 k ∧ f (da k) 1 = f 90 k ∧ (∃ x, x ≤ 4 ∧ f 89 k = nI x) ∧ ∃ x, x ≤ 40 ∧ f 90 k = nI x
def I_cu (f : Nat → Nat → Int32) (c R H cu : Nat) : Prop := (∀ k, k < 6 → f (c + 1) k = f 86 k) ∧ f 86 0 = nI R ∧ f 86 1 = nI H ∧ ((R = 0 ∧ H = 0 ∧ f 85 1 = nI 0) ∨ (2 ≤ R ∧ R ≤ 6 ∧ 2 ≤ H ∧ H ≤ 4 ∧ f 85 1 = nI 1)) ∧ (∃ u, u ≤ 9 ∧ f 86 2 = nI u) ∧ (∃ u, u ≤ 9 ∧ f 86 3 = nI u) ∧ (∃ u, u ≤ 9 ∧ f 86 4 = nI u) ∧ f 0 6 = nI cu ∧ f 85 2 = nI cu
def I_lv (f : Nat → Nat → Int32) (R nl : Nat) : Prop := nl ≤ 8 ∧ (R = 0 → nl = 0) ∧ f 23 4 = nI nl ∧ f 85 8 = nI nl ∧ ∀ l, l < nl → f 41 l = f 91 l ∧ (∃ m, m < R ∧ f 91 l = nI m) ∧ f 24 l = f 92 l ∧ (∃ m, m < R ∧ f 92 l = nI m) ∧ f 25 l = f 93 l ∧ f 26 l = f 94 l ∧ f 27 l = f 95 l
def I_br (f : Nat → Nat → Int32) (R H : Nat) : Prop := (∀ r k, r < 6 → k < 4 → f (35 + r) k = f 87 (4 * r + k)) ∧ qB R H (fun r k => f 87 (4 * r + k))
def I_wa (f : Nat → Nat → Int32) : Prop := ∀ r, r < 6 → f 63 r = f 97 r ∧ ∃ x, x ≤ 8 ∧ f 97 r = nI x
/-- the places of rows that are not told yet hold the rows that the constructor made -/
def zSp (S : zH) (nr : Nat) : Prop := ∀ k, nr ≤ k → k < 6 → zr S 19 k = some (67 + 3 * k) ∧ zRw S (67 + 3 * k)
def I_rw (S : zH) (f : Nat → Nat → Int32) (nr : Nat) (ra : Nat → Nat) (tr : Nat) : Prop := (nr ≤ 6 ∧ tr + 2 < 67 + 3 * nr ∧ zSp S nr) ∧ f 0 11 = nI nr ∧ f 85 16 = nI nr ∧ ∀ k, k < nr → zr S 19 k = some (ra k) ∧ zRw S (ra k) ∧ (ra k = 20 ∨ (67 ≤ ra k ∧ ra k + 2 < 85)) ∧ ra k + 2 < tr ∧ ∃ it, it ≤ 6 ∧ f (ra k) 2 = nI it ∧ f 98 k = nI it ∧ ∀ i, i < it → f (ra k + 1) i = f 99 (6 * k + i) ∧ f (ra k + 2) i = f 100 (6 * k + i) ∧ (∃ d, d < 8 ∧ f 99 (6 * k + i) = nI d) ∧ ∃ t, t ≤ 60 ∧ f 100 (6 * k + i) = nI t
def I_pi (f : Nat → Nat → Int32) (np : Nat) : Prop := np ≤ 12 ∧ f 64 2 = nI np ∧ f 85 20 = nI np ∧ ∀ p, p < np → f 65 p = f 101 p ∧ f 66 p = f 102 p ∧ qb (f 101 p) ∧ qb (f 102 p)
def I_rv (f : Nat → Nat → Int32) (r pt : Nat) : Prop := (pt = 0 ∨ 4 ≤ pt) ∧ pt ≤ 10 ∧ f r 4 = nI pt ∧ f 85 23 = nI pt ∧ ∀ p, p < pt → f (r + 1) p = f 103 p ∧ f (r + 2) p = f 104 p ∧ (∃ s, s ≤ 99 ∧ f 103 p = nI s) ∧ (f 104 p = nI 0 ∨ f 104 p = nI 1)
def I_fi (f : Nat → Nat → Int32) (fi : Nat) : Prop := fi ≤ 12 ∧ f 0 18 = nI fi ∧ f 85 26 = nI fi
def I_im (f : Nat → Nat → Int32) (R H nl cu : Nat) : Prop := (f 51 3 = -nI 1 ∧ (f 85 29 = nI 0 ∨ ∃ kc, kc < cu ∧ f 85 30 = nI kc)) ∨ ∃ kl, kl ≤ nl ∧ f 51 3 = nI kl ∧ f 85 29 = nI 1 ∧ f 85 30 = nI cu ∧ f 85 31 = nI kl ∧ (∀ r k, r < 6 → k < 4 → f (54 + r) k = f 106 (4 * r + k)) ∧ qB R H (fun r k => f 106 (4 * r + k)) ∧ (∀ l, l < kl → f 60 l = f 107 l ∧ (∃ m, m < R ∧ f 107 l = nI m) ∧ f 62 l = f 108 l) ∧ ∀ r, r < 6 → f 61 r = f 109 r ∧ ∃ x, x ≤ 8 ∧ f 109 r = nI x
theorem I_pg_c {f f' : Nat → Nat → Int32} {pl : Nat} (hf : ∀ a k, a = 2 ∨ a = 105 ∨ (a = 1 ∧ k = 1) ∨ (a = 85 ∧ k = 27) → f' a k = f a k) (h : I_pg f pl) : I_pg f' pl := by
  unfold I_pg at *
  simp (disch := omega) only [hf]
  exact h
theorem I_do_c {S : zH} {f f' : Nat → Nat → Int32} {nd : Nat} {da : Nat → Nat} (hf : ∀ a k, a = 3 ∨ a = 89 ∨ a = 90 ∨ (a = 0 ∧ k = 3) ∨ (a = 85 ∧ k = 5) → f' a k = f a k) (hd : ∀ k, k < nd → ∀ j, f' (da k) j = f (da k) j) (h : I_do S f nd da) : I_do S f' nd da := by
  obtain ⟨h1, h2, h3, h4, h5, h6⟩ := h
  refine ⟨h1, ?_, ?_, ?_, ?_, fun k hk => ?_⟩
  · rw [hf _ _ (by omega)]; exact h2
  · rw [hf _ _ (by omega)]; exact h3
  · rw [hf _ _ (by omega)]; exact h4
  · rw [hf _ _ (by omega)]; exact h5
  · obtain ⟨k1, k2, k3, k4, k5, k6, k7, k8⟩ := h6 k hk
    have e1 := hf 89 k (by omega)
    have e2 := hf 90 k (by omega)
    rw [hd k hk, hd k hk, e1, e2]
    exact ⟨k1, k2, k3, k4, k5, k6, k7, k8⟩
theorem I_cu_c {f f' : Nat → Nat → Int32} {c R H cu : Nat} (hf : ∀ a k, a = 86 ∨ a = c + 1 ∨ (a = 0 ∧ k = 6) ∨ (a = 85 ∧ (k = 1 ∨ k = 2)) → f' a k = f a k) (h : I_cu f c R H cu) : I_cu f' c R H cu := by
  unfold I_cu at *
  simp (disch := omega) only [hf]
  exact h
theorem I_lv_c {f f' : Nat → Nat → Int32} {R nl : Nat} (hf : ∀ a k, a = 41 ∨ (24 ≤ a ∧ a ≤ 27) ∨ (91 ≤ a ∧ a ≤ 95) ∨ (a = 23 ∧ k = 4) ∨ (a = 85 ∧ k = 8) → f' a k = f a k) (h : I_lv f R nl) : I_lv f' R nl := by
  unfold I_lv at *
  simp (disch := omega) only [hf]
  exact h
theorem I_br_c {f f' : Nat → Nat → Int32} {R H : Nat} (hf : ∀ a k, a = 87 ∨ (35 ≤ a ∧ a < 41) → f' a k = f a k) (h : I_br f R H) : I_br f' R H := by
  obtain ⟨h1, h2⟩ := h
  refine ⟨fun r k hr hk => ?_, fun r k hr hk => ?_⟩
  · rw [hf _ _ (by omega), hf _ _ (by omega)]; exact h1 r k hr hk
  · have := h2 r k hr hk
    simp (disch := omega) only [hf]
    exact this
theorem I_wa_c {f f' : Nat → Nat → Int32} (hf : ∀ a k, a = 63 ∨ a = 97 → f' a k = f a k) (h : I_wa f) : I_wa f' := by
  unfold I_wa at *
  simp (disch := omega) only [hf]
  exact h
theorem I_rw_c {S : zH} {f f' : Nat → Nat → Int32} {nr tr : Nat} {ra : Nat → Nat} (hf : ∀ a k, (98 ≤ a ∧ a ≤ 100) ∨ (a = 0 ∧ k = 11) ∨ (a = 85 ∧ k = 16) → f' a k = f a k) (hr : ∀ k, k < nr → ∀ a j, ra k ≤ a ∧ a ≤ ra k + 2 → f' a j = f a j) (h : I_rw S f nr ra tr) : I_rw S f' nr ra tr := by
  obtain ⟨h1, h2, h3, h6⟩ := h
  refine ⟨h1, ?_, ?_, fun k hk => ?_⟩
  · rw [hf _ _ (by omega)]; exact h2
  · rw [hf _ _ (by omega)]; exact h3
  · have hr' := hr k hk
    have h7 := h6 k hk
    simp (disch := omega) only [hf, hr']
    exact h7
theorem I_pi_c {f f' : Nat → Nat → Int32} {np : Nat} (hf : ∀ a k, (a = 64 ∧ k = 2) ∨ a = 65 ∨ a = 66 ∨ a = 101 ∨ a = 102 ∨ (a = 85 ∧ k = 20) → f' a k = f a k) (h : I_pi f np) : I_pi f' np := by
  unfold I_pi at *
  simp (disch := omega) only [hf]
  exact h
theorem I_rv_c {f f' : Nat → Nat → Int32} {r pt : Nat} (hf : ∀ a k, (a = r ∧ k = 4) ∨ a = r + 1 ∨ a = r + 2 ∨ a = 103 ∨ a = 104 ∨ (a = 85 ∧ k = 23) → f' a k = f a k) (h : I_rv f r pt) : I_rv f' r pt := by
  unfold I_rv at *
  simp (disch := omega) only [hf]
  exact h
theorem I_fi_c {f f' : Nat → Nat → Int32} {fi : Nat} (hf : ∀ a k, (a = 0 ∧ k = 18) ∨ (a = 85 ∧ k = 26) → f' a k = f a k) (h : I_fi f fi) : I_fi f' fi := by
  unfold I_fi at *
  simp (disch := omega) only [hf]
  exact h
theorem I_im_c {f f' : Nat → Nat → Int32} {R H nl cu : Nat} (hf : ∀ a k, (a = 51 ∧ k = 3) ∨ (54 ≤ a ∧ a ≤ 62) ∨ (106 ≤ a ∧ a ≤ 109) ∨ (a = 85 ∧ (k = 29 ∨ k = 30 ∨ k = 31)) → f' a k = f a k) (h : I_im f R H nl cu) : I_im f' R H nl cu := by
  unfold I_im at *
  have e : qB R H (fun r k => f' 106 (4 * r + k)) = qB R H (fun r k => f 106 (4 * r + k)) := by
    congr 1
    funext r k
    exact hf _ _ (by omega)
  rw [e]
  have e2 : ∀ r k, (r < 6 → k < 4 → f' (54 + r) k = f' 106 (4 * r + k)) = (r < 6 → k < 4 → f (54 + r) k = f 106 (4 * r + k)) := fun r k => by
    by_cases hr : r < 6
    · rw [hf (54 + r) k (by omega), hf 106 _ (by omega)]
    · exact propext ⟨fun _ z => absurd z hr, fun _ z => absurd z hr⟩
  simp only [e2]
  simp (disch := omega) only [hf]
  exact h
/-- what holds between two calls -/
def zI (S : zH) (f : Nat → Nat → Int32) (g c c' r r' tr pl nd : Nat) (da : Nat → Nat) (R H cu nl nr : Nat) (ra : Nat → Nat) (np pt fi : Nat) : Prop :=
  zKl S c c' r r' tr ∧ I_pg f pl ∧ I_do S f nd da ∧ I_cu f c R H cu ∧ cu ≤ g ∧ I_lv f R nl ∧ I_br f R H ∧ I_wa f ∧ I_rw S f nr ra tr ∧ I_pi f np ∧ I_rv f r pt ∧ I_fi f fi ∧ I_im f R H nl cu
def zInv (g : Nat) (h : zH) : Prop := ∃ (S : zH) (f : Nat → Nat → Int32) (c c' r r' tr pl nd : Nat) (da : Nat → Nat) (R H cu nl nr : Nat) (ra : Nat → Nat) (np pt fi : Nat), h = zwi S f ∧ zI S f g c c' r r' tr pl nd da R H cu nl nr ra np pt fi
/-- the cells that hold nothing from one call to the next -/
def zScr (c' r r' tr a k : Nat) : Prop := (42 ≤ a ∧ a ≤ 50) ∨ (28 ≤ a ∧ a ≤ 32) ∨ a = 88 ∨ a = 96 ∨ (110 ≤ a ∧ a ≤ 116) ∨ a = c' ∨ a = c' + 1 ∨ (r' ≤ a ∧ a ≤ r' + 4) ∨ a = r + 3 ∨ a = r + 4 ∨ (tr ≤ a ∧ a ≤ tr + 2) ∨ (a = 85 ∧ (k = 36 ∨ k = 37 ∨ k = 39 ∨ k = 42 ∨ k = 47 ∨ k = 48 ∨ k = 49))
theorem zKl_same {S S' : zH} {c c' r r' tr : Nat} (e1 : zsh S' = zsh S) (e2 : zr S' = zr S) (e3 : zsz S' = zsz S) (h : zKl S c c' r r' tr) : zKl S' c c' r r' tr := by
  obtain ⟨a1, a2, a3, a4, a5⟩ := S
  obtain ⟨b1, b2, b3, b4, b5⟩ := S'
  have e1' : b2 = a2 := e1
  have e2' : b4 = a4 := e2
  have e3' : b1 = a1 := e3
  subst e1' e2' e3'
  exact h
theorem I_do_same {S S' : zH} {f : Nat → Nat → Int32} {nd : Nat} {da : Nat → Nat} (e1 : zsh S' = zsh S) (e2 : zr S' = zr S) (e3 : zsz S' = zsz S) (h : I_do S f nd da) : I_do S' f nd da := by
  unfold I_do at *
  rw [e1, e2, e3]
  exact h
theorem I_rw_same {S S' : zH} {f : Nat → Nat → Int32} {nr tr : Nat} {ra : Nat → Nat} (e1 : zsh S' = zsh S) (e2 : zr S' = zr S) (h : I_rw S f nr ra tr) : I_rw S' f nr ra tr := by
  unfold I_rw zSp zRw at *
  rw [e1, e2]
  exact h
theorem zne_sh {S : zH} {a b : Nat} {x y : Nat × Nat} (ha : zsh S a = some x) (hb : zsh S b = some y) (h : x ≠ y) : a ≠ b := fun e => by
  subst e
  exact h (Option.some.inj (ha.symm.trans hb))
/-- a doing lies apart from the row that is tried -/
theorem do_off {S : zH} {d tr : Nat} (hd : zsh S d = some (2, 2)) (hq : zRw S tr) : ¬ (tr ≤ d ∧ d ≤ tr + 2) := by
  obtain ⟨q1, q2, q3, q4, q5⟩ := hq
  have n1 := zne_sh hd q1 (by decide)
  have n2 := zne_sh hd q4 (by decide)
  have n3 := zne_sh hd q5 (by decide)
  omega
theorem zI_scr {S S' : zH} {f f' : Nat → Nat → Int32} {g c c' r r' tr pl nd R H cu nl nr np pt fi : Nat} {da ra : Nat → Nat} (h : zI S f g c c' r r' tr pl nd da R H cu nl nr ra np pt fi) (e1 : zsh S' = zsh S) (e2 : zr S' = zr S) (e3 : zsz S' = zsz S) (hf : ∀ a k, ¬ zScr c' r r' tr a k → f' a k = f a k) : zI S' f' (g + 1) c c' r r' tr pl nd da R H cu nl nr ra np pt fi := by
  obtain ⟨hS, hpg, hdo, hcu, hg, hlv, hbr, hwa, hrw, hpi, hrv, hfi, him⟩ := h
  have hcc := cl_cc hS
  have hrr := cl_rr hS
  have htt := cl_tt hS
  have hzz := cl_zz hS
  unfold zScr at hf
  refine ⟨zKl_same e1 e2 e3 hS, I_pg_c (fun a k q => hf a k (by omega)) hpg, I_do_same e1 e2 e3 (I_do_c (fun a k q => hf a k (by omega)) (fun k hk j => hf _ _ ?_) hdo), I_cu_c (fun a k q => hf a k (by omega)) hcu, by omega, I_lv_c (fun a k q => hf a k (by omega)) hlv, I_br_c (fun a k q => hf a k (by omega)) hbr, I_wa_c (fun a k q => hf a k (by omega)) hwa, I_rw_same e1 e2 (I_rw_c (fun a k q => hf a k (by omega)) (fun k hk a j q => hf a j ?_) hrw), I_pi_c (fun a k q => hf a k (by omega)) hpi, I_rv_c (fun a k q => hf a k (by omega)) hrv, I_fi_c (fun a k q => hf a k (by omega)) hfi, I_im_c (fun a k q => hf a k (by omega)) him⟩
  · obtain ⟨k1, k2, k3, -⟩ := hdo.2.2.2.2.2 k hk
    have := do_off k2 (cl_Rw hS)
    omega
  · obtain ⟨k1, k2, k3, k4, -⟩ := hrw.2.2.2 k hk
    omega
theorem zI_inv {S : zH} {f : Nat → Nat → Int32} {g c c' r r' tr pl nd R H cu nl nr np pt fi : Nat} {da ra : Nat → Nat} (h : zI S f g c c' r r' tr pl nd da R H cu nl nr ra np pt fi) : zInv g (zwi S f) := ⟨S, f, c, c', r, r', tr, pl, nd, da, R, H, cu, nl, nr, ra, np, pt, fi, rfl, h⟩
