/-! ===== a heap of numbers: size; kind and length of each cell; ints; references; longs ===== -/
def zclasses : List vw_C := [(RX0, TX0, 2), (RX1, TX1, 2), (RX2, TX2, 2), (RX3, TX3, 4), (RX4, TX4, 5), (RX5, TX5, 2), (RX6, TX6, 3), (RX7, TX7, 6), (RX8, TX8, 4), (RX10, TX10, 20), (RX11, TX11, 51)]
def zty (c : Nat) : Nat → FieldType := match c with
  | 0 => tyX0
  | 1 => tyX1
  | 2 => tyX2
  | 3 => tyX3
  | 4 => tyX4
  | 5 => tyX5
  | 6 => tyX6
  | 7 => tyX7
  | 8 => tyX8
  | 9 => tyX10
  | _ => tyX11
abbrev zH : Type := Nat × (Nat → Option (Nat × Nat)) × (Nat → Nat → Int32) × (Nat → Nat → Option Nat) × (Nat → Nat → Int64)
def zsz (h : zH) : Nat := h.1
def zsh (h : zH) : Nat → Option (Nat × Nat) := h.2.1
def zi (h : zH) : Nat → Nat → Int32 := h.2.2.1
def zr (h : zH) : Nat → Nat → Option Nat := h.2.2.2.1
def zl (h : zH) : Nat → Nat → Int64 := h.2.2.2.2
def z2 {α : Type} (f : Nat → Nat → α) (a k : Nat) (v : α) : Nat → Nat → α := fun x y => if x = a ∧ y = k then v else f x y
def zpi (h : zH) (a k : Nat) (v : Int32) : zH := (zsz h, zsh h, z2 (zi h) a k v, zr h, zl h)
def zpr (h : zH) (a k : Nat) (v : Option Nat) : zH := (zsz h, zsh h, zi h, z2 (zr h) a k v, zl h)
def zpl (h : zH) (a k : Nat) (v : Int64) : zH := (zsz h, zsh h, zi h, zr h, z2 (zl h) a k v)
def znew (h : zH) (kd n : Nat) : zH := (zsz h + 1, fun x => if x = zsz h then some (kd, n) else zsh h x, fun x y => if x = zsz h then 0 else zi h x y, fun x y => if x = zsz h then none else zr h x y, fun x y => if x = zsz h then 0 else zl h x y)
/-- new int[N][K]: the outer array, then its N inner ones -/
def zmna (h : zH) (N K : Nat) : zH := (zsz h + 1 + N, fun x => if x = zsz h then some (23, N) else if zsz h < x ∧ x ≤ zsz h + N then some (20, K) else zsh h x,
  fun x y => if zsz h ≤ x then 0 else zi h x y, fun x y => if x = zsz h then (if y < N then some (zsz h + 1 + y) else none) else if zsz h ≤ x then none else zr h x y, fun x y => if zsz h ≤ x then 0 else zl h x y)
/-! ===== what the cells hold ===== -/
abbrev zE : Type := va_G × (Nat → ClassId) × Heap × (Nat → Nat)
def zB (E : zE) : Nat := E.2.2.1.size
def zrf (B : Nat) (o : Option Nat) : Value := match o with
  | none => .null
  | some a => .ref (B + a)
def zval (B : Nat) (h : zH) (a k : Nat) (ty : FieldType) : Value := match ty with
  | .long => .long (zl h a k)
  | .object _ => zrf B (zr h a k)
  | .array _ => zrf B (zr h a k)
  | _ => .int (zi h a k)
def zavl (B : Nat) (h : zH) (a kd : Nat) : Nat → Value := fun j => if kd < 23 then .int (zi h a j) else zrf B (zr h a j)
def zcell (E : zE) (h : zH) (H : Heap) (a kd n : Nat) : Prop :=
  (kd < 11 ∧ (∃ r : vw_C, zclasses[kd]? = some r ∧ r.2.2 = n) ∧ t_OB (zB E + a) (E.1.1 kd) n (E.1.2 kd) H (fun k => zval (zB E) h a k (zty kd k))) ∨
  (20 ≤ kd ∧ H[zB E + a]? = some (arrV (E.2.1 kd) n (zavl (zB E) h a kd)))
def zRep (E : zE) (h : zH) (H : Heap) : Prop := H.size = zB E + zsz h ∧ (∀ q : Nat, q < zB E → H[q]? = E.2.2.1[q]?) ∧ ∀ a kd n, zsh h a = some (kd, n) → a < zsz h ∧ zcell E h H a kd n
def ztys (cA : Nat → ClassId) : List (ClassId × FieldType) := [(cA 20, .int), (cA 21, .byte), (cA 22, .boolean), (cA 23, .array .int), (cA 24, .object RX2), (cA 25, .object RX8)]
def zsame (h h' : zH) (b : Nat) : Prop := (∀ k, zi h' b k = zi h b k) ∧ (∀ k, zr h' b k = zr h b k) ∧ ∀ k, zl h' b k = zl h b k
theorem zsame_val {h h' : zH} {b : Nat} (q : zsame h h' b) (B k : Nat) (ty : FieldType) : zval B h' b k ty = zval B h b k ty := by
  obtain ⟨h1, h2, h3⟩ := q
  unfold zval
  cases ty <;> simp only [h1, h2, h3]
theorem zcell_congr {E : zE} {h h' : zH} {H H1 : Heap} {b kd n : Nat} (q : zsame h h' b) (hH : H1[zB E + b]? = H[zB E + b]?) (hc : zcell E h H b kd n) : zcell E h' H1 b kd n := by
  rcases hc with ⟨h1, h2, h3⟩ | ⟨h1, h2⟩
  · exact Or.inl ⟨h1, h2, (h3.kept hH).to (fun k _ => (zsame_val q _ _ _).symm)⟩
  · refine Or.inr ⟨h1, ?_⟩
    rw [hH, h2]
    have : zavl (zB E) h b kd = zavl (zB E) h' b kd := by
      funext j
      unfold zavl
      rw [q.1, q.2.1]
    rw [this]
theorem zRep_upd {E : zE} {h h' : zH} {H H1 : Heap} {a : Nat} (hR : zRep E h H) (hsz : zsz h' = zsz h) (hsh : zsh h' = zsh h) (hz : H1.size = H.size) (ho : ∀ q : Nat, q ≠ zB E + a → H1[q]? = H[q]?)
    (hc : ∀ b, b ≠ a → zsame h h' b) (hn : ∀ kd n, zsh h a = some (kd, n) → zcell E h' H1 a kd n) : zRep E h' H1 := by
  refine ⟨by rw [hz, hsz]; exact hR.1, fun q hq => ?_, fun b kd n hb => ?_⟩
  · rw [ho q (by omega)]
    exact hR.2.1 q hq
  · rw [hsh] at hb
    obtain ⟨h1, h2⟩ := hR.2.2 b kd n hb
    refine ⟨by rw [hsz]; exact h1, ?_⟩
    by_cases hba : b = a
    · subst hba
      exact hn kd n hb
    · exact zcell_congr (hc b hba) (ho _ (by omega)) h2
theorem zRep_obj {E : zE} {h : zH} {H : Heap} {a kd n : Nat} (hR : zRep E h H) (hs : zsh h a = some (kd, n)) (hk : kd < 11) : (∃ r : vw_C, zclasses[kd]? = some r ∧ r.2.2 = n) ∧ t_OB (zB E + a) (E.1.1 kd) n (E.1.2 kd) H (fun k => zval (zB E) h a k (zty kd k)) := by
  rcases (hR.2.2 a kd n hs).2 with ⟨_, h2, h3⟩ | ⟨h1, _⟩
  · exact ⟨h2, h3⟩
  · omega
theorem zRep_arr {E : zE} {h : zH} {H : Heap} {a kd n : Nat} (hR : zRep E h H) (hs : zsh h a = some (kd, n)) (hk : 20 ≤ kd) : H[zB E + a]? = some (arrV (E.2.1 kd) n (zavl (zB E) h a kd)) := by
  rcases (hR.2.2 a kd n hs).2 with ⟨h1, _, _⟩ | ⟨_, h2⟩
  · omega
  · exact h2
theorem zsame_zpi {h : zH} {a k b : Nat} {v : Int32} (hb : b ≠ a) : zsame h (zpi h a k v) b := ⟨fun j => if_neg (fun q => hb q.1), fun _ => rfl, fun _ => rfl⟩
theorem zsame_zpr {h : zH} {a k b : Nat} {v : Option Nat} (hb : b ≠ a) : zsame h (zpr h a k v) b := ⟨fun _ => rfl, fun j => if_neg (fun q => hb q.1), fun _ => rfl⟩
theorem zsame_zpl {h : zH} {a k b : Nat} {v : Int64} (hb : b ≠ a) : zsame h (zpl h a k v) b := ⟨fun _ => rfl, fun _ => rfl, fun j => if_neg (fun q => hb q.1)⟩
/-! ===== the words that every method may use ===== -/
def zisNest : Cond → Bool
  | .fieldLinkNest .. => true
  | .methodLinkNest .. => true
  | .declares _ => true
  | _ => false
def ztb : List Cond := lw_tbl.filter goodWord
theorem zmem {i : Nat} {w : Cond} (h : lw_tbl[i]? = some w) (hg : goodWord w = true) : w ∈ ztb := List.mem_filter.mpr ⟨List.mem_of_getElem? h, hg⟩
theorem ztb_in {w : Cond} (h : w ∈ ztb) : w ∈ lw_tbl := (List.mem_filter.mp h).1
theorem ztb_good {w : Cond} (h : w ∈ ztb) : (w.onTables && w.keeps) = true ∨ ∃ ty, w = .arrayClass ty := good_of_word (List.mem_filter.mp h).2
theorem zGood {ws : List Cond} (h : ∀ w ∈ ws, w ∈ ztb) : GoodIn ztb ws := fun w hw => ⟨h w hw, ztb_good (h w hw)⟩
def zw (y : MethodName) (b : ByteArray) (n : Nat) (ret : Option FieldType) : List Cond := .code y b n ret :: ztb
theorem zw_in {y : MethodName} {b : ByteArray} {n : Nat} {ret : Option FieldType} (h : Cond.code y b n ret ∈ ztb) : ∀ w ∈ zw y b n ret, w ∈ ztb := fun w hw => by
  rcases List.mem_cons.mp hw with rfl | h1
  · exact h
  · exact h1
/-! ===== what is known of the tables, and of the cells that were there before ===== -/
/-- the cells that were there before: the tables LEAST and MOST, the text of the marks and its bytes, the formatter -/
def zad (E : zE) : Nat → Nat := E.2.2.2
def zold (E : zE) : Nat → Prop := fun q => zB E ≤ q
def zLeast : Nat → Int32 := fun j => if j < 2 then 2 else 0
def zMost : Nat → Int32 := fun j => if j = 0 then 6 else if j = 1 then 4 else 9
def zMarks : Nat → Int32 := fun j => if j = 0 then 114 else if j = 1 then 104 else if j = 2 then 102 else if j = 3 then 119 else 109
def zstat (E : zE) (U : State) : Prop := va_Z "LeavesInCups$Cup" "LEAST" "[I" (.ref (zad E 0)) (zold E) U E.2.2.1 ∧ va_T .int (zad E 0) 5 (fun j => .int (zLeast j)) (zold E) U E.2.2.1 ∧
  va_Z "LeavesInCups$Cup" "MOST" "[I" (.ref (zad E 1)) (zold E) U E.2.2.1 ∧ va_T .int (zad E 1) 5 (fun j => .int (zMost j)) (zold E) U E.2.2.1 ∧
  va_O "java/lang/String" (zad E 2) (zold E) U E.2.2.1 ∧ va_OF "java/lang/String" "coder" "B" (.int 0) (zad E 2) (zold E) U E.2.2.1 ∧ va_OF "java/lang/String" "value" "[B" (.ref (zad E 3)) (zad E 2) (zold E) U E.2.2.1 ∧
  va_T .byte (zad E 3) 5 (fun j => .int (zMarks j)) (zold E) U E.2.2.1 ∧ va_Z "java/lang/String" "COMPACT_STRINGS" "Z" (.int 1) (zold E) U E.2.2.1 ∧ va_Zq "jdk/internal/util/Preconditions" "SIOOBE_FORMATTER" "Ljava/util/function/BiFunction;" (zold E) U E.2.2.1
def zstr (E : zE) (U : State) : Prop := vk_R "LeavesInCups$Cup" 17 "rhfwm" (zad E 2) U
def zK (E : zE) (U : State) : Prop := va_K E.1 zclasses (ztys E.2.1) U ∧ (∀ w ∈ lw_tbl, zisNest w = true → va_Nw w U) ∧ (Cond.arrayOver (.object RX2)).before #[] U = true ∧ (Cond.arrayOver (.object RX8)).before #[] U = true ∧ (Cond.arrayOver (.array .int)).before #[] U = true ∧ zstat E U ∧ zstr E U
