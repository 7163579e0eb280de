def zCl (ci : Nat) (Cn : String) (T : u_T) (N : Nat) : Prop := zclasses[ci]? = some (Cn, T, N) ∧ ci < 11 ∧ (∀ w ∈ u_ws Cn T N, w ∈ ztb) ∧ (∀ k, k < N → parseFieldDescriptor (T k).2.2.1 = some (zty ci k)) ∧ (∀ a, a < N → ∀ b, b < N → a ≠ b → (T a).2.1 ≠ (T b).2.1) ∧ ∀ k, k < N → zty ci k ≠ .float ∧ zty ci k ≠ .double
def zFl (own : String) (index ci n k : Nat) : Prop := ∃ (Cn : String) (T : u_T), zCl ci Cn T n ∧ k < n ∧ ((Cond.fieldLink own index (T k).1 (T k).2.1 (T k).2.2.1 ∈ ztb) ∨ ∃ host, Cond.fieldLinkNest own index (T k).1 (T k).2.1 (T k).2.2.1 host ∈ lw_tbl)
def zPl (own : String) (index ci n k : Nat) : Prop := ∃ (Cn : String) (T : u_T), zCl ci Cn T n ∧ k < n ∧ (T k).2.2.2 = false ∧ ((Cond.fieldLink own index (T k).1 (T k).2.1 (T k).2.2.1 ∈ ztb) ∨ ∃ host, Cond.fieldLinkNest own index (T k).1 (T k).2.1 (T k).2.2.1 host ∈ lw_tbl)
def zPf (own : String) (index ci n k : Nat) : Prop := ∃ (Cn : String) (T : u_T), zCl ci Cn T n ∧ k < n ∧ (T k).2.2.2 = true ∧ (T k).1 = own ∧ Cond.fieldLink own index (T k).1 (T k).2.1 (T k).2.2.1 ∈ ztb
theorem zarr_upd {E : zE} {h h' : zH} {H H1 : Heap} {a kd n i : Nat} {v : Value} (hR : zRep E h H) (hs : zsh h a = some (kd, n)) (hk : 20 ≤ kd) (e1 : H1[zB E + a]? = some ((arrV (E.2.1 kd) n (zavl (zB E) h a kd)).setSlot i v)) (hz : H1.size = H.size) (ho : ∀ q : Nat, q ≠ zB E + a → H1[q]? = H[q]?)
    (hsz : zsz h' = zsz h) (hsh : zsh h' = zsh h) (hc : ∀ b, b ≠ a → zsame h h' b) (hv : ∀ j, zavl (zB E) h' a kd j = updV (zavl (zB E) h a kd) i v j) : zRep E h' H1 := by
  refine zRep_upd hR hsz hsh hz ho hc (fun kd' n' hs' => ?_)
  rw [hs] at hs'
  cases hs'
  refine Or.inr ⟨hk, ?_⟩
  rw [e1, arrV_store]
  congr 2
  funext j
  exact (hv j).symm
theorem zRep_new {E : zE} {h : zH} {H H1 : Heap} {kd n : Nat} (hR : zRep E h H) (hz : H1.size = H.size + 1) (ho : ∀ q : Nat, q < H.size → H1[q]? = H[q]?) (hc : zcell E (znew h kd n) H1 (zsz h) kd n) : zRep E (znew h kd n) H1 := by
  refine ⟨by rw [hz, hR.1]; rfl, fun q hq => ?_, fun b kd' n' hb => ?_⟩
  · rw [ho q (by rw [hR.1]; omega)]
    exact hR.2.1 q hq
  · by_cases e : b = zsz h
    · subst e
      have : zsh (znew h kd n) (zsz h) = some (kd, n) := if_pos rfl
      rw [this] at hb
      cases hb
      exact ⟨Nat.lt_succ_self _, hc⟩
    · have e1 : zsh (znew h kd n) b = zsh h b := if_neg e
      rw [e1] at hb
      obtain ⟨h1, h2⟩ := hR.2.2 b kd' n' hb
      exact ⟨Nat.lt_succ_of_lt h1, zcell_congr ⟨fun _ => if_neg e, fun _ => if_neg e, fun _ => if_neg e⟩ (ho _ (by rw [hR.1]; omega)) h2⟩
theorem zval_zpi {B : Nat} {h : zH} {a k j : Nat} {x : Int32} {ty : FieldType} (hj : j ≠ k) : zval B (zpi h a k x) a j ty = zval B h a j ty := by
  have e : zi (zpi h a k x) a j = zi h a j := if_neg (fun q => hj q.2)
  unfold zval
  cases ty <;> first | (rw [e]; done) | rfl
theorem zval_zpr {B : Nat} {h : zH} {a k j : Nat} {x : Option Nat} {ty : FieldType} (hj : j ≠ k) : zval B (zpr h a k x) a j ty = zval B h a j ty := by
  have e : zr (zpr h a k x) a j = zr h a j := if_neg (fun q => hj q.2)
  unfold zval
  cases ty <;> first | rfl | (simp only [e]; done)
theorem zval_zpl {B : Nat} {h : zH} {a k j : Nat} {x : Int64} {ty : FieldType} (hj : j ≠ k) : zval B (zpl h a k x) a j ty = zval B h a j ty := by
  have e : zl (zpl h a k x) a j = zl h a j := if_neg (fun q => hj q.2)
  unfold zval
  cases ty <;> first | rfl | (simp only [e]; done)
theorem zi_same (h : zH) (a k : Nat) (x : Int32) : zi (zpi h a k x) a k = x := if_pos ⟨rfl, rfl⟩
theorem zr_same (h : zH) (a k : Nat) (x : Option Nat) : zr (zpr h a k x) a k = x := if_pos ⟨rfl, rfl⟩
theorem zl_same (h : zH) (a k : Nat) (x : Int64) : zl (zpl h a k x) a k = x := if_pos ⟨rfl, rfl⟩
section ZR5
variable {p : Program} {l : Launch} {e : Env} {R : Room} {s : State} {m : MethodId} {args : Array Value} {below : List Frame} {meth : Method} {c : Code} {E : zE} {nL : Nat} {Q : State → Prop} {cells slots pc : Nat} {lo : List (Nat × Value)} {st : List Value} {h : zH} {cc : ByteArray} {own : String} {β : Type} {res : β}
theorem zget0 (C : zC p s m args meth c cc nL own E) {index ci n k a : Nat} (hG : zFl own index ci n k) (hs : zsh h a = some (ci, n)) (hdg : decode cc pc = .ok (.getfield index, 3)) (kk : zW p l e R s m args below meth c E nL Q cells slots (pc + 3) lo (zval (zB E) h a k (zty ci k) :: st) h) : zW p l e R s m args below meth c E nL Q cells slots pc lo (.ref (zB E + a) :: st) h := by
  intro H locs ls hR hL hlo
  obtain ⟨hx, hb, -, hown, hts, hK, -⟩ := C
  obtain ⟨Cn, T, ⟨hc, hci, hin, -⟩, hk, hlink⟩ := hG
  obtain ⟨-, cell, q1, q2, q3, q4⟩ := zRep_obj hR hs hci
  obtain ⟨hS, hfc, kC, hkC, hkind⟩ := hK.1.1 ci _ hc
  obtain ⟨cf, kf, fi, f, hi, hsl⟩ := hS k hk
  rcases hlink with hl | ⟨host, hl⟩
  · refine W.getf hx hb hown (hts _ hl) hi (u_facts hfc hkC (u_lays hts hin hk) hi).1 q1 (by rw [q3]; exact fun h => by cases h) (v := zval (zB E) h a k (zty ci k)) ?_ rfl rfl hdg (kk H locs ls hR hL hlo)
    rw [hsl]
    exact q4 k hk
  · refine va_Wgetf hx hb hown (va_Nw.use rfl (hK.2.1 _ hl rfl)) hi (u_facts hfc hkC (u_lays hts hin hk) hi).1 q1 (by rw [q3]; exact fun h => by cases h) (v := zval (zB E) h a k (zty ci k)) ?_ rfl rfl hdg (kk H locs ls hR hL hlo)
    rw [hsl]
    exact q4 k hk
theorem zr_gi (C : zC p s m args meth c cc nL own E) {index ci n f a : Nat} {k : Int32 → Option β} (hf : zgi h a ci n f k = some res) (hG : zFl own index ci n f) (hty : ∀ B h a, zval B h a f (zty ci f) = .int (zi h a f)) (hdg : decode cc pc = .ok (.getfield index, 3)) (kk : ∀ x : Int32, k x = some res → zW p l e R s m args below meth c E nL Q cells slots (pc + 3) lo (.int x :: st) h) : zW p l e R s m args below meth c E nL Q cells slots pc lo (.ref (zB E + a) :: st) h := by
  obtain ⟨hs, hf⟩ := zif hf
  refine zget0 C hG hs hdg ?_
  rw [hty]
  exact kk _ hf
theorem zr_gl (C : zC p s m args meth c cc nL own E) {index ci n f a : Nat} {k : Int64 → Option β} (hf : zgl h a ci n f k = some res) (hG : zFl own index ci n f) (hty : ∀ B h a, zval B h a f (zty ci f) = .long (zl h a f)) (hdg : decode cc pc = .ok (.getfield index, 3)) (kk : ∀ x : Int64, k x = some res → zW p l e R s m args below meth c E nL Q cells slots (pc + 3) lo (.long x :: st) h) : zW p l e R s m args below meth c E nL Q cells slots pc lo (.ref (zB E + a) :: st) h := by
  obtain ⟨hs, hf⟩ := zif hf
  refine zget0 C hG hs hdg ?_
  rw [hty]
  exact kk _ hf
theorem zmatch {o : Option Nat} {k : Nat → Option β} (hf : (match o with | some b => k b | none => none) = some res) : ∃ b, o = some b ∧ k b = some res := by
  cases o with
  | none => cases hf
  | some b => exact ⟨b, rfl, hf⟩
theorem zr_gr (C : zC p s m args meth c cc nL own E) {index ci n f a : Nat} {k : Nat → Option β} (hf : zgr h a ci n f k = some res) (hG : zFl own index ci n f) (hty : ∀ B h a, zval B h a f (zty ci f) = zrf B (zr h a f)) (hdg : decode cc pc = .ok (.getfield index, 3)) (kk : ∀ x : Nat, k x = some res → zW p l e R s m args below meth c E nL Q cells slots (pc + 3) lo (.ref (zB E + x) :: st) h) : zW p l e R s m args below meth c E nL Q cells slots pc lo (.ref (zB E + a) :: st) h := by
  obtain ⟨hs, hf⟩ := zif hf
  obtain ⟨b, hb, hf⟩ := zmatch hf
  refine zget0 C hG hs hdg ?_
  rw [hty, hb]
  exact kk _ hf
theorem zput0 (C : zC p s m args meth c cc nL own E) {index ci n k a : Nat} {v : Value} {h' : zH} (hG : zPl own index ci n k) (hs : zsh h a = some (ci, n)) (hn : narrow (zty ci k) v = v) (hfit : fits (zty ci k) v = true) (e1 : zsz h' = zsz h) (e2 : zsh h' = zsh h) (e3 : ∀ b, b ≠ a → zsame h h' b)
    (e4 : ∀ j, j < n → updV (fun j => zval (zB E) h a j (zty ci j)) k v j = zval (zB E) h' a j (zty ci j)) (hdg : decode cc pc = .ok (.putfield index, 3)) (kk : zW p l e R s m args below meth c E nL Q cells slots (pc + 3) lo st h') : zW p l e R s m args below meth c E nL Q cells slots pc lo (v :: .ref (zB E + a) :: st) h := by
  intro H locs ls hR hL hlo
  obtain ⟨hx, hb, -, hown, hts, hK, -⟩ := C
  obtain ⟨Cn, T, ⟨hc, hci, hin, hty, hnm, -⟩, hk, hfin, hlink⟩ := hG
  obtain ⟨hcl, cell, q1, q2, q3, q4⟩ := zRep_obj hR hs hci
  have hap := va_apart (own := own) hts hin (zty ci) hty hnm hK.1 hc
  obtain ⟨hS, hfc, kC, hkC, hkind⟩ := hK.1.1 ci _ hc
  obtain ⟨cf, kf, fi, f, hi, hsl⟩ := hS k hk
  have hlay := hts _ (hin _ (u_in_lay hk))
  unfold u_lay at hlay
  rw [if_neg (by rw [hfin]; decide)] at hlay
  have hst := (u_facts hfc hkC (u_lays hts hin hk) hi).1
  have h6 := u_store hfc hkC hkind hlay hi (hty k hk) hn hfit
  have fin : ∀ H' : Heap, H'[zB E + a]? = some (cell.setSlot f.slot v) → H'.size = H.size → (∀ q, q ≠ zB E + a → H'[q]? = H[q]?) → W p l e R s m args below meth c H' (locs ++ [⟨zB E + a, f.slot⟩]) cells slots Q (F0 m (pc + 3) ls st) := by
    intro H' g1 g2 g3
    rw [hsl] at g1
    refine kk H' _ ls (zRep_upd hR e1 e2 g2 g3 e3 (fun kd n' hs' => ?_)) ?_ hlo
    · rw [hs] at hs'
      cases hs'
      exact Or.inl ⟨hci, hcl, t_OB.to (V := updV (fun j => zval (zB E) h a j (zty ci j)) k v) ⟨_, g1, q2, q3, t_set q4 hap hk v⟩ e4⟩
    · intro q hq
      rcases List.mem_append.mp hq with z | z
      · exact hL q z
      · rw [List.mem_singleton.mp z]
        exact Nat.le_add_right _ _
  rcases hlink with hl | ⟨host, hl⟩
  · exact W.putK hx hb (f := f) ⟨hown, hts _ hl, ⟨_, _, _, hi⟩, hst⟩ (by rw [q2]; exact h6) q1 q3 (by rw [hsl]; exact k2_hasslot (q4 k hk)) rfl rfl hdg fin
  · exact va_WputK hx hb (f := f) hown (va_Nw.use rfl (hK.2.1 _ hl rfl)) hi hst (by rw [q2]; exact h6) q1 q3 (by rw [hsl]; exact k2_hasslot (q4 k hk)) rfl rfl hdg fin
theorem zputF0 (C : zC p s m args meth c cc nL own E) {index ci n k a : Nat} {v : Value} {h' : zH} (hinit : meth.name = "<init>") (hG : zPf own index ci n k) (hs : zsh h a = some (ci, n)) (hn : narrow (zty ci k) v = v) (hfit : fits (zty ci k) v = true) (e1 : zsz h' = zsz h) (e2 : zsh h' = zsh h) (e3 : ∀ b, b ≠ a → zsame h h' b)
    (e4 : ∀ j, j < n → updV (fun j => zval (zB E) h a j (zty ci j)) k v j = zval (zB E) h' a j (zty ci j)) (hdg : decode cc pc = .ok (.putfield index, 3)) (kk : zW p l e R s m args below meth c E nL Q cells slots (pc + 3) lo st h') : zW p l e R s m args below meth c E nL Q cells slots pc lo (v :: .ref (zB E + a) :: st) h := by
  intro H locs ls hR hL hlo
  obtain ⟨hx, hb, -, hown, hts, hK, -⟩ := C
  obtain ⟨Cn, T, ⟨hc, hci, hin, hty, hnm, -⟩, hk, hfin, hdecl, hl⟩ := hG
  obtain ⟨hcl, cell, q1, q2, q3, q4⟩ := zRep_obj hR hs hci
  have hap := va_apart (own := own) hts hin (zty ci) hty hnm hK.1 hc
  obtain ⟨hS, hfc, kC, hkC, hkind⟩ := hK.1.1 ci _ hc
  obtain ⟨cf, kf, fi, f, hi, hsl⟩ := hS k hk
  have hlay := hts _ (hin _ (u_in_lay hk))
  unfold u_lay at hlay
  rw [if_pos hfin] at hlay
  have hst := (u_facts hfc hkC (u_lays hts hin hk) hi).1
  have hcf : m.cls = cf := by
    obtain ⟨_, _, c', _, _, _, -, -, hf', -, -, -, hown2, -⟩ := Cond.laysFinal_spec hlay
    have e1 : c' = cf := by have := hi.symm.trans hf'; simp at this; exact this.1.symm
    rw [hdecl] at hown2
    rw [← e1]; exact Option.some.inj (hown.symm.trans hown2)
  have h6 := u_fits hfc hkC hkind (Or.inr hlay) hi (hty k hk) hn hfit
  refine W.putFinK hx hb hown (hts _ hl) hi hst hcf hinit (by rw [q2]; exact h6) q1 q3 (by rw [hsl]; exact k2_hasslot (q4 k hk)) rfl rfl hdg fun H' g1 g2 g3 => ?_
  rw [hsl] at g1
  refine kk H' _ ls (zRep_upd hR e1 e2 g2 g3 e3 (fun kd n' hs' => ?_)) ?_ hlo
  · rw [hs] at hs'
    cases hs'
    exact Or.inl ⟨hci, hcl, t_OB.to (V := updV (fun j => zval (zB E) h a j (zty ci j)) k v) ⟨_, g1, q2, q3, t_set q4 hap hk v⟩ e4⟩
  · intro q hq
    rcases List.mem_append.mp hq with z | z
    · exact hL q z
    · rw [List.mem_singleton.mp z]
      exact Nat.le_add_right _ _
theorem ze4i {ci f a : Nat} {x : Int32} (hty : ∀ B h a, zval B h a f (zty ci f) = .int (zi h a f)) (B n : Nat) : ∀ j, j < n → updV (fun j => zval B h a j (zty ci j)) f (.int x) j = zval B (zpi h a f x) a j (zty ci j) := fun j _ => by
  unfold updV
  by_cases hj : j = f
  · subst hj
    rw [if_pos rfl, hty, zi_same]
  · rw [if_neg hj, zval_zpi hj]
theorem ze4r {ci f a : Nat} {x : Option Nat} (hty : ∀ B h a, zval B h a f (zty ci f) = zrf B (zr h a f)) (B n : Nat) : ∀ j, j < n → updV (fun j => zval B h a j (zty ci j)) f (zrf B x) j = zval B (zpr h a f x) a j (zty ci j) := fun j _ => by
  unfold updV
  by_cases hj : j = f
  · subst hj
    rw [if_pos rfl, hty, zr_same]
  · rw [if_neg hj, zval_zpr hj]
theorem ze4l {ci f a : Nat} {x : Int64} (hty : ∀ B h a, zval B h a f (zty ci f) = .long (zl h a f)) (B n : Nat) : ∀ j, j < n → updV (fun j => zval B h a j (zty ci j)) f (.long x) j = zval B (zpl h a f x) a j (zty ci j) := fun j _ => by
  unfold updV
  by_cases hj : j = f
  · subst hj
    rw [if_pos rfl, hty, zl_same]
  · rw [if_neg hj, zval_zpl hj]
theorem zr_si (C : zC p s m args meth c cc nL own E) {index ci n f a : Nat} {x : Int32} {k : zH → Option β} (hf : zsi h a ci n f x k = some res) (hG : zPl own index ci n f) (hty : ∀ B h a, zval B h a f (zty ci f) = .int (zi h a f)) (hi : zty ci f = .int) (hdg : decode cc pc = .ok (.putfield index, 3)) (kk : ∀ h', k h' = some res → zW p l e R s m args below meth c E nL Q cells slots (pc + 3) lo st h') : zW p l e R s m args below meth c E nL Q cells slots pc lo (.int x :: .ref (zB E + a) :: st) h := by
  obtain ⟨hs, hf⟩ := zif hf
  exact zput0 (h' := zpi h a f x) C hG hs (by rw [hi]; rfl) (by rw [hi]; rfl) rfl rfl (fun b hb => zsame_zpi hb) (ze4i hty _ _) hdg (kk _ hf)
theorem zbool {x : Int32} (h : x = 0 ∨ x = 1) : narrow .boolean (.int x) = .int x ∧ fits .boolean (.int x) = true := by
  rcases h with rfl | rfl <;> exact ⟨rfl, rfl⟩
theorem zr_sb (C : zC p s m args meth c cc nL own E) {index ci n f a : Nat} {x : Int32} {k : zH → Option β} (hf : zsb h a ci n f x k = some res) (hG : zPl own index ci n f) (hty : ∀ B h a, zval B h a f (zty ci f) = .int (zi h a f)) (hi : zty ci f = .boolean) (hdg : decode cc pc = .ok (.putfield index, 3)) (kk : ∀ h', k h' = some res → zW p l e R s m args below meth c E nL Q cells slots (pc + 3) lo st h') : zW p l e R s m args below meth c E nL Q cells slots pc lo (.int x :: .ref (zB E + a) :: st) h := by
  obtain ⟨⟨hs, hx⟩, hf⟩ := zif hf
  exact zput0 (h' := zpi h a f x) C hG hs (by rw [hi]; exact (zbool hx).1) (by rw [hi]; exact (zbool hx).2) rfl rfl (fun b hb => zsame_zpi hb) (ze4i hty _ _) hdg (kk _ hf)
theorem zr_sr (C : zC p s m args meth c cc nL own E) {index ci n f a x : Nat} {k : zH → Option β} (hf : zsr h a ci n f x k = some res) (hG : zPl own index ci n f) (hty : ∀ B h a, zval B h a f (zty ci f) = zrf B (zr h a f)) (hi : narrow (zty ci f) (.ref (zB E + x)) = .ref (zB E + x) ∧ fits (zty ci f) (.ref (zB E + x)) = true) (hdg : decode cc pc = .ok (.putfield index, 3)) (kk : ∀ h', k h' = some res → zW p l e R s m args below meth c E nL Q cells slots (pc + 3) lo st h') : zW p l e R s m args below meth c E nL Q cells slots pc lo (.ref (zB E + x) :: .ref (zB E + a) :: st) h := by
  obtain ⟨hs, hf⟩ := zif hf
  exact zput0 (h' := zpr h a f (some x)) C hG hs hi.1 hi.2 rfl rfl (fun b hb => zsame_zpr hb) (ze4r (x := some x) hty _ _) hdg (kk _ hf)
theorem zr_sl (C : zC p s m args meth c cc nL own E) {index ci n f a : Nat} {x : Int64} {k : zH → Option β} (hf : zsl h a ci n f x k = some res) (hG : zPl own index ci n f) (hty : ∀ B h a, zval B h a f (zty ci f) = .long (zl h a f)) (hi : zty ci f = .long) (hdg : decode cc pc = .ok (.putfield index, 3)) (kk : ∀ h', k h' = some res → zW p l e R s m args below meth c E nL Q cells slots (pc + 3) lo st h') : zW p l e R s m args below meth c E nL Q cells slots pc lo (.long x :: .ref (zB E + a) :: st) h := by
  obtain ⟨hs, hf⟩ := zif hf
  exact zput0 (h' := zpl h a f x) C hG hs (by rw [hi]; rfl) (by rw [hi]; rfl) rfl rfl (fun b hb => zsame_zpl hb) (ze4l hty _ _) hdg (kk _ hf)
theorem zr_siF (C : zC p s m args meth c cc nL own E) {index ci n f a : Nat} {x : Int32} {k : zH → Option β} (hf : zsi h a ci n f x k = some res) (hinit : meth.name = "<init>") (hG : zPf own index ci n f) (hty : ∀ B h a, zval B h a f (zty ci f) = .int (zi h a f)) (hi : zty ci f = .int) (hdg : decode cc pc = .ok (.putfield index, 3)) (kk : ∀ h', k h' = some res → zW p l e R s m args below meth c E nL Q cells slots (pc + 3) lo st h') : zW p l e R s m args below meth c E nL Q cells slots pc lo (.int x :: .ref (zB E + a) :: st) h := by
  obtain ⟨hs, hf⟩ := zif hf
  exact zputF0 (h' := zpi h a f x) C hinit hG hs (by rw [hi]; rfl) (by rw [hi]; rfl) rfl rfl (fun b hb => zsame_zpi hb) (ze4i hty _ _) hdg (kk _ hf)
theorem zr_srF (C : zC p s m args meth c cc nL own E) {index ci n f a x : Nat} {k : zH → Option β} (hf : zsr h a ci n f x k = some res) (hinit : meth.name = "<init>") (hG : zPf own index ci n f) (hty : ∀ B h a, zval B h a f (zty ci f) = zrf B (zr h a f)) (hi : narrow (zty ci f) (.ref (zB E + x)) = .ref (zB E + x) ∧ fits (zty ci f) (.ref (zB E + x)) = true) (hdg : decode cc pc = .ok (.putfield index, 3)) (kk : ∀ h', k h' = some res → zW p l e R s m args below meth c E nL Q cells slots (pc + 3) lo st h') : zW p l e R s m args below meth c E nL Q cells slots pc lo (.ref (zB E + x) :: .ref (zB E + a) :: st) h := by
  obtain ⟨hs, hf⟩ := zif hf
  exact zputF0 (h' := zpr h a f (some x)) C hinit hG hs hi.1 hi.2 rfl rfl (fun b hb => zsame_zpr hb) (ze4r (x := some x) hty _ _) hdg (kk _ hf)
end ZR5
