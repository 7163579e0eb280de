theorem zAOA_moved {tt : FieldType} {u U : State} (hvm : u.vm.Alike U.vm) (h : (Cond.arrayOver (.array tt)).before #[] u = true) : (Cond.arrayOver (.array tt)).before #[] U = true := by
  obtain ⟨comp, c, k, h1, h2, h3, h4, h5⟩ := arrayOverA_spec h
  obtain ⟨k', hk', he⟩ := hvm.2.2 _ _ h3
  have hi : (U.vm.classes.findIdx? fun (x : Class) => match x.kind with | .array component _ => component == comp | _ => false) = some c := by
    rw [hvm.findIdx?_eq _ (fun _ => rfl)]
    exact h2
  have hkind : k'.kind = .array comp (.array tt) := by rw [he]; exact h4
  have f1 : U.vm.findClass (FieldType.array tt).toString = some comp := by rw [hvm.findClass]; exact h1
  have f2 : U.vm.findClass ("[" ++ (FieldType.array tt).toString) = some c := by rw [hvm.findClass]; exact h5
  unfold Cond.before Cond.holds
  simp only [Cond.value]
  rw [f1, Option.bind_some]
  refine (congrArg (fun o : Option Nat => (o.bind (fun c => (U.vm.classes[c]?).map fun (k : Class) => match k.kind with | .array _ ty => decide (ty = FieldType.array tt) && decide (U.vm.findClass ("[" ++ (FieldType.array tt).toString) = some c) | _ => false) == some true)) hi).trans ?_
  simp [hk', hkind, f2]
theorem zstat_moved {E : zE} {u U : State} (hvm : u.vm.Alike U.vm) (h : zstat E u) : zstat E U := by
  obtain ⟨h1, h2, h3, h4, h5, h6, h7, h8, h9, h10⟩ := h
  exact ⟨h1.moved hvm, h2.moved hvm, h3.moved hvm, h4.moved hvm, va_O.moved hvm h5, va_OF.moved hvm h6, va_OF.moved hvm h7, h8.moved hvm, h9.moved hvm, h10.moved hvm⟩
theorem zNest_warm {w : Cond} (hn : zisNest w = true) {s U : State} (hW : s.WarmedH U.vm) (hZ : va_Nw w s) : va_Nw w U := by
  cases w <;> first | exact Bool.noConfusion hn | exact va_Nw.warmF hW hZ | exact va_Nw.warmM hW hZ | exact va_Nw.warmD hW hZ
theorem zNest_same {w : Cond} (hn : zisNest w = true) {s U : State} (hW : s.vm = U.vm) (hZ : va_Nw w s) : va_Nw w U := by
  refine va_Nw.same ?_ hW hZ
  cases w <;> first | exact Bool.noConfusion hn | rfl
theorem zK_warm {E : zE} {s U : State} (hW : s.WarmedH U.vm) (hK : zK E s) : zK E U := by
  obtain ⟨h1, h2, h3, h4, h5, h6, h7⟩ := hK
  exact ⟨h1.moved hW.alike, fun w hw hn => zNest_warm hn hW (h2 w hw hn), va_AO.moved hW.alike h3, va_AO.moved hW.alike h4, zAOA_moved hW.alike h5, zstat_moved hW.alike h6, vk_R.warm hW h7⟩
theorem zK_same {E : zE} {s U : State} (hV : s.vm = U.vm) (hK : zK E s) : zK E U := by
  have hal : s.vm.Alike U.vm := by rw [hV]; exact Vm.Alike.refl _
  obtain ⟨h1, h2, h3, h4, h5, h6, h7⟩ := hK
  exact ⟨h1.moved hal, fun w hw hn => zNest_same hn hV (h2 w hw hn), va_AO.moved hal h3, va_AO.moved hal h4, zAOA_moved hal h5, zstat_moved hal h6, vk_R.same hV.symm h7⟩
/-! ===== contracts ===== -/
def zfr (E : zE) : Nat → Prop := fun q => zB E ≤ q
def zPc (E : zE) (h : zH) (av : List Value) : Array Value → State → Prop := fun v U => v = av.toArray ∧ zRep E h U.heap ∧ zK E U
def zQc (E : zE) (h : zH) (rv : Option Value) : Array Value → State → Outcome → State → Prop := fun _ _ o t => o = .returned rv ∧ zRep E h t.heap
theorem zPc_blind {E : zE} {h : zH} {av : List Value} : FrameBlind (zPc E h av) := fun a U g mk q => ⟨q.1, q.2.1, zK_same (s := U) (U := U.calling g mk a) rfl q.2.2⟩
def zC (p : Program) (s : State) (m : MethodId) (args : Array Value) (meth : Method) (c : Code) (cc : ByteArray) (nL : Nat) (own : String) (E : zE) : Prop :=
  p.tables.exec = Jvm.exec ∧ c.code = cc ∧ c.maxLocals = nL ∧ s.vm.findClass own = some m.cls ∧ (∀ w ∈ ztb, w.before args s = true) ∧ zK E s ∧ meth.locks = false
def zW (p : Program) (l : Launch) (e : Env) (R : Room) (s : State) (m : MethodId) (args : Array Value) (below : List Frame) (meth : Method) (c : Code) (E : zE) (nL : Nat) (Q : State → Prop) (cells slots pc : Nat) (lo : List (Nat × Value)) (st : List Value) (h : zH) : Prop :=
  ∀ (H : Heap) (locs : List Loc) (ls : Array Slot), zRep E h H → (∀ q ∈ locs, zfr E q.base) → lv_has ls nL lo → W p l e R s m args below meth c H locs cells slots Q (F0 m pc ls st)
theorem zmet {l : Launch} {y : MethodName} {b : ByteArray} {maxL : Nat} {ret : Option FieldType} {rm : Room} {E : zE} {h h' : zH} {av : List Value} {rv : Option Value} {mc ms : Nat} {lo : List (Nat × Value)} (hy : plainName y.cls = true) (hlen : (lg_sl av).length ≤ maxL) (hlo : lv_args 0 av = lo)
    (body : ∀ p e s m args below meth c, zC p s m args meth c b maxL y.cls E → meth.sig.returnType = ret → meth.name = y.name →
      zW p l e (headSpec (zw y b maxL ret) rm).room s m args below meth c E maxL (MQ below (zQc E h' rv) args s mc ms (zfr E)) 0 0 0 lo [] h) : Met l y (zw y b maxL ret) rm (zPc E h av) (zQc E h' rv) mc ms (zfr E) := by
  refine Met.ofW (cc := b) (maxL := maxL) (ret := ret) hy rfl ?_
  intro p e s m args below meth c s₁ B hml hv
  obtain ⟨rfl, hR, hK⟩ := hv
  have hts := atoms_spec (ws := zw y b maxL ret) B.pre
  rw [lg_entry_eq]
  exact body p e s m _ below meth c ⟨B.exec, B.bytes, hml, findClass_of_methodNamed B.named, fun w hw => hts w (List.mem_cons_of_mem _ hw), hK, B.notSynchronized⟩ B.returns (name_of_methodNamed B.named B.method).1 s.heap [] _ hR (fun _ h => by cases h) (hlo ▸ lv_entry av hlen)
/-! ===== what a method computes: the words of the printed functions ===== -/
def zv {α β : Type} (e : α) (k : α → Option β) : Option β := k e
def zd {β : Type} (x y : Int32) (k : Int32 → Option β) : Option β := if y = 0 then none else k (x / y)
def zm {β : Type} (x y : Int32) (k : Int32 → Option β) : Option β := if y = 0 then none else k (x - x / y * y)
def zgi {β : Type} (h : zH) (a ci n f : Nat) (k : Int32 → Option β) : Option β := if zsh h a = some (ci, n) then k (zi h a f) else none
def zgr {β : Type} (h : zH) (a ci n f : Nat) (k : Nat → Option β) : Option β := if zsh h a = some (ci, n) then (match zr h a f with | some b => k b | none => none) else none
def zgl {β : Type} (h : zH) (a ci n f : Nat) (k : Int64 → Option β) : Option β := if zsh h a = some (ci, n) then k (zl h a f) else none
def zsi {β : Type} (h : zH) (a ci n f : Nat) (v : Int32) (k : zH → Option β) : Option β := if zsh h a = some (ci, n) then k (zpi h a f v) else none
def zsb {β : Type} (h : zH) (a ci n f : Nat) (v : Int32) (k : zH → Option β) : Option β := if zsh h a = some (ci, n) ∧ (v = 0 ∨ v = 1) then k (zpi h a f v) else none
def zsr {β : Type} (h : zH) (a ci n f : Nat) (v : Nat) (k : zH → Option β) : Option β := if zsh h a = some (ci, n) then k (zpr h a f (some v)) else none
def zsl {β : Type} (h : zH) (a ci n f : Nat) (v : Int64) (k : zH → Option β) : Option β := if zsh h a = some (ci, n) then k (zpl h a f v) else none
def zat (h : zH) (a kd : Nat) (i : Int32) : Bool := match zsh h a with
  | some q => q.1 == kd && (!decide (i < 0) && decide (i.toNatClampNeg < q.2))
  | none => false
def zai {β : Type} (h : zH) (a kd : Nat) (i : Int32) (k : Int32 → Option β) : Option β := if zat h a kd i = true then k (zi h a i.toNatClampNeg) else none
def zar {β : Type} (h : zH) (a kd : Nat) (i : Int32) (k : Nat → Option β) : Option β := if zat h a kd i = true then (match zr h a i.toNatClampNeg with | some b => k b | none => none) else none
def zti {β : Type} (h : zH) (a : Nat) (i v : Int32) (k : zH → Option β) : Option β := if zat h a 20 i = true then k (zpi h a i.toNatClampNeg v) else none
def zty8 {β : Type} (h : zH) (a : Nat) (i v : Int32) (k : zH → Option β) : Option β := if zat h a 21 i = true then k (zpi h a i.toNatClampNeg (vp_nar .byte v)) else none
def ztz {β : Type} (h : zH) (a : Nat) (i v : Int32) (k : zH → Option β) : Option β := if zat h a 22 i = true then k (zpi h a i.toNatClampNeg (vp_nar .boolean v)) else none
def ztr {β : Type} (h : zH) (a kd : Nat) (i : Int32) (b ci n : Nat) (k : zH → Option β) : Option β := if zat h a kd i = true ∧ zsh h b = some (ci, n) then k (zpr h a i.toNatClampNeg (some b)) else none
def zln {β : Type} (h : zH) (a kd : Nat) (k : Int32 → Option β) : Option β := match zsh h a with
  | some q => if q.1 = kd then k (Int32.ofNat q.2) else none
  | none => none
def zno {β : Type} (h : zH) (ci n : Nat) (k : Nat → zH → Option β) : Option β := k (zsz h) (znew h ci n)
def zna {β : Type} (h : zH) (kd : Nat) (n : Int32) (mx : Nat) (k : Nat → zH → Option β) : Option β := if ¬ n < 0 ∧ n.toNatClampNeg ≤ mx then k (zsz h) (znew h kd n.toNatClampNeg) else none
def znm {β : Type} (h : zH) (n k : Int32) (nn nk : Nat) (kk : Nat → zH → Option β) : Option β := if ¬ n < 0 ∧ ¬ k < 0 ∧ n.toNatClampNeg = nn ∧ k.toNatClampNeg = nk then kk (zsz h) (zmna h nn nk) else none
def zc {α β : Type} (f : Option (α × zH)) (k : α → zH → Option β) : Option β := match f with
  | some x => k x.1 x.2
  | none => none
def zcv {α β : Type} (h : zH) (a ci n : Nat) (f : Option (α × zH)) (k : α → zH → Option β) : Option β := if zsh h a = some (ci, n) then zc f k else none
def zzr {α : Type} (v : Int32) (r : Option α) : Option α := if v = 0 ∨ v = 1 then r else none
def zloop {σ β : Type} (body : (σ → Option β) → σ → Option β) : Nat → σ → Option β
  | 0, _ => none
  | n + 1, x => body (fun y => zloop body n y) x
theorem z_loop {σ β : Type} {body : (σ → Option β) → σ → Option β} {res : β} (G : σ → Prop) (hb : ∀ kc : σ → Option β, (∀ x, kc x = some res → G x) → ∀ x, body kc x = some res → G x) : ∀ (n : Nat) (x : σ), zloop body n x = some res → G x := by
  intro n
  induction n with
  | zero => intro x h; cases h
  | succ n ih => intro x h; exact hb _ (fun y hy => ih y hy) x h
theorem zif {α : Type} {c : Prop} [Decidable c] {k : Option α} {r : α} (h : (if c then k else none) = some r) : c ∧ k = some r := by
  by_cases hc : c
  · rw [if_pos hc] at h
    exact ⟨hc, h⟩
  · rw [if_neg hc] at h
    cases h
theorem zif2 {α : Type} {c : Prop} [Decidable c] {k : Option α} {r : α} (h : (if c then none else k) = some r) : ¬ c ∧ k = some r := by
  by_cases hc : c
  · rw [if_pos hc] at h
    cases h
  · rw [if_neg hc] at h
    exact ⟨hc, h⟩
theorem zat_spec {h : zH} {a kd : Nat} {i : Int32} (q : zat h a kd i = true) : ∃ n, zsh h a = some (kd, n) ∧ vp_in i n := by
  unfold zat at q
  cases hs : zsh h a with
  | none => rw [hs] at q; cases q
  | some x =>
    rw [hs] at q
    simp only [Bool.and_eq_true, beq_iff_eq, Bool.not_eq_true', decide_eq_false_iff_not, decide_eq_true_eq] at q
    obtain ⟨k1, n1⟩ := x
    obtain ⟨e, q1, q2⟩ := q
    dsimp only at e q2
    subst e
    exact ⟨n1, rfl, fun z => z.elim q1 (fun z => absurd q2 (Nat.not_lt.mpr z))⟩
