section ZR6
variable {p : Program} {l : Launch} {e : Env} {R : Room} {s : State} {m : MethodId} {args : Array Value} {below : List Frame} {meth : Method} {c : Code} {E : zE} {nL : Nat} {Q : State → Prop} {cells slots pc : Nat} {lo : List (Nat × Value)} {st : List Value} {h : zH} {cc : ByteArray} {own : String} {β : Type} {res : β}
theorem zin_arr {cA : ClassId} {n : Nat} {f : Nat → Value} {i : Int32} (hin : vp_in i n) : ¬ (i < 0 ∨ (arrV cA n f).slots.size ≤ i.toNatClampNeg) := by
  rw [arrV_size]
  exact hin
theorem zrd_arr {cA : ClassId} {n : Nat} {f : Nat → Value} {i : Int32} {v : Value} (hin : vp_in i n) (hv : f i.toNatClampNeg = v) : (arrV cA n f).slots[i.toNatClampNeg]? = some v := by
  rw [arrV_read _ _ (Nat.not_le.mp fun q => hin (Or.inr q)), hv]
theorem zr_iaload (C : zC p s m args meth c cc nL own E) {a : Nat} {i : Int32} {k : Int32 → Option β} (hf : zai h a 20 i k = some res) (hdg : decode cc pc = .ok (.iaload, 1)) (kk : ∀ x : Int32, k x = some res → zW p l e R s m args below meth c E nL Q cells slots (pc + 1) lo (.int x :: st) h) : zW p l e R s m args below meth c E nL Q cells slots pc lo (.int i :: .ref (zB E + a) :: st) h := by
  intro H locs ls hR hL hlo
  obtain ⟨hc, hf⟩ := zif hf
  obtain ⟨n, hs, hin⟩ := zat_spec hc
  exact W.iald (v := .int (zi h a i.toNatClampNeg)) C.1 C.2.1 (zRep_arr hR hs (by decide)) ((C.2.2.2.2.2.1.1.2 0 _ rfl).1 n _) (fun q => by cases q) (zin_arr hin) (zrd_arr hin rfl) rfl rfl hdg (kk _ hf H locs ls hR hL hlo)
theorem zr_baload (C : zC p s m args meth c cc nL own E) {a : Nat} {i : Int32} {k : Int32 → Option β} (hf : zai h a 21 i k = some res) (hdg : decode cc pc = .ok (.baload, 1)) (kk : ∀ x : Int32, k x = some res → zW p l e R s m args below meth c E nL Q cells slots (pc + 1) lo (.int x :: st) h) : zW p l e R s m args below meth c E nL Q cells slots pc lo (.int i :: .ref (zB E + a) :: st) h := by
  intro H locs ls hR hL hlo
  obtain ⟨hc, hf⟩ := zif hf
  obtain ⟨n, hs, hin⟩ := zat_spec hc
  exact W.bald (v := .int (zi h a i.toNatClampNeg)) C.1 C.2.1 (zRep_arr hR hs (by decide)) ((C.2.2.2.2.2.1.1.2 1 _ rfl).1 n _) (fun q => by cases q) (zin_arr hin) (zrd_arr hin rfl) rfl rfl hdg (kk _ hf H locs ls hR hL hlo)
theorem zr_zaload (C : zC p s m args meth c cc nL own E) {a : Nat} {i : Int32} {k : Int32 → Option β} (hf : zai h a 22 i k = some res) (hdg : decode cc pc = .ok (.baload, 1)) (kk : ∀ x : Int32, k x = some res → zW p l e R s m args below meth c E nL Q cells slots (pc + 1) lo (.int x :: st) h) : zW p l e R s m args below meth c E nL Q cells slots pc lo (.int i :: .ref (zB E + a) :: st) h := by
  intro H locs ls hR hL hlo
  obtain ⟨hc, hf⟩ := zif hf
  obtain ⟨n, hs, hin⟩ := zat_spec hc
  exact W.zald (v := .int (zi h a i.toNatClampNeg)) C.1 C.2.1 (zRep_arr hR hs (by decide)) ((C.2.2.2.2.2.1.1.2 2 _ rfl).1 n _) (fun q => by cases q) (zin_arr hin) (zrd_arr hin rfl) rfl rfl hdg (kk _ hf H locs ls hR hL hlo)
theorem zr_aaload (C : zC p s m args meth c cc nL own E) {a kd t0 : Nat} {i : Int32} {ty : FieldType} {k : Nat → Option β} (hf : zar h a kd i k = some res) (hkd : 23 ≤ kd) (ht : (ztys E.2.1)[t0]? = some (E.2.1 kd, ty)) (hty : ty.isReference = true) (hdg : decode cc pc = .ok (.aaload, 1)) (kk : ∀ x : Nat, k x = some res → zW p l e R s m args below meth c E nL Q cells slots (pc + 1) lo (.ref (zB E + x) :: st) h) : zW p l e R s m args below meth c E nL Q cells slots pc lo (.int i :: .ref (zB E + a) :: st) h := by
  intro H locs ls hR hL hlo
  obtain ⟨hc, hf⟩ := zif hf
  obtain ⟨n, hs, hin⟩ := zat_spec hc
  obtain ⟨b, hb, hf⟩ := zmatch hf
  refine W.aald (v := .ref (zB E + b)) C.1 C.2.1 (zRep_arr hR hs (by omega)) ((C.2.2.2.2.2.1.1.2 t0 _ ht).1 n _) hty (fun q => by cases q) (zin_arr hin) (zrd_arr hin ?_) rfl rfl hdg (kk _ hf H locs ls hR hL hlo)
  unfold zavl
  rw [if_neg (by omega), hb]
  rfl
theorem zL_app {locs : List Loc} {a k : Nat} (hL : ∀ q ∈ locs, zfr E q.base) : ∀ q ∈ locs ++ [⟨zB E + a, k⟩], zfr E q.base := by
  intro q hq
  rcases List.mem_append.mp hq with z | z
  · exact hL q z
  · rw [List.mem_singleton.mp z]
    exact Nat.le_add_right _ _
theorem zavl_zpi {B a kd i : Nat} {x : Int32} (hkd : kd < 23) : ∀ j, zavl B (zpi h a i x) a kd j = updV (zavl B h a kd) i (.int x) j := fun j => by
  unfold zavl updV
  by_cases hj : j = i
  · subst hj
    rw [if_pos hkd, if_pos rfl, zi_same]
  · have e : zi (zpi h a i x) a j = zi h a j := if_neg (fun q => hj q.2)
    rw [if_pos hkd, if_neg hj]
    dsimp only
    rw [if_pos hkd, e]
theorem zavl_zpr {B a kd i : Nat} {x : Option Nat} (hkd : 23 ≤ kd) : ∀ j, zavl B (zpr h a i x) a kd j = updV (zavl B h a kd) i (zrf B x) j := fun j => by
  unfold zavl updV
  by_cases hj : j = i
  · subst hj
    rw [if_neg (by omega), if_pos rfl, zr_same]
  · have e : zr (zpr h a i x) a j = zr h a j := if_neg (fun q => hj q.2)
    rw [if_neg (by omega), if_neg hj]
    dsimp only
    rw [if_neg (by omega), e]
theorem zr_iastore (C : zC p s m args meth c cc nL own E) {a : Nat} {i x : Int32} {k : zH → Option β} (hf : zti h a i x k = some res) (hdg : decode cc pc = .ok (.iastore, 1)) (kk : ∀ h', k h' = some res → zW p l e R s m args below meth c E nL Q cells slots (pc + 1) lo st h') : zW p l e R s m args below meth c E nL Q cells slots pc lo (.int x :: .int i :: .ref (zB E + a) :: st) h := by
  intro H locs ls hR hL hlo
  obtain ⟨hc, hf⟩ := zif hf
  obtain ⟨n, hs, hin⟩ := zat_spec hc
  refine W.iast C.1 C.2.1 (zRep_arr hR hs (by decide)) ((C.2.2.2.2.2.1.1.2 0 _ rfl).1 n _) (fun q => by cases q) (zin_arr hin) rfl rfl hdg fun H1 g1 g2 g3 => ?_
  exact kk _ hf H1 _ ls (zarr_upd (h' := zpi h a i.toNatClampNeg x) hR hs (by decide) g1 g2 g3 rfl rfl (fun b hb => zsame_zpi hb) (zavl_zpi (by decide))) (zL_app hL) hlo
theorem zr_bastore (C : zC p s m args meth c cc nL own E) {a : Nat} {i x : Int32} {k : zH → Option β} (hf : zty8 h a i x k = some res) (hdg : decode cc pc = .ok (.bastore, 1)) (kk : ∀ h', k h' = some res → zW p l e R s m args below meth c E nL Q cells slots (pc + 1) lo st h') : zW p l e R s m args below meth c E nL Q cells slots pc lo (.int x :: .int i :: .ref (zB E + a) :: st) h := by
  intro H locs ls hR hL hlo
  obtain ⟨hc, hf⟩ := zif hf
  obtain ⟨n, hs, hin⟩ := zat_spec hc
  refine W.bast C.1 C.2.1 (zRep_arr hR hs (by decide)) ((C.2.2.2.2.2.1.1.2 1 _ rfl).1 n _) (fun q => by cases q) (zin_arr hin) rfl rfl hdg fun H1 g1 g2 g3 => ?_
  exact kk _ hf H1 _ ls (zarr_upd (h' := zpi h a i.toNatClampNeg (vp_nar .byte x)) hR hs (by decide) g1 g2 g3 rfl rfl (fun b hb => zsame_zpi hb) (zavl_zpi (by decide))) (zL_app hL) hlo
theorem zr_zastore (C : zC p s m args meth c cc nL own E) {a : Nat} {i x : Int32} {k : zH → Option β} (hf : ztz h a i x k = some res) (hdg : decode cc pc = .ok (.bastore, 1)) (kk : ∀ h', k h' = some res → zW p l e R s m args below meth c E nL Q cells slots (pc + 1) lo st h') : zW p l e R s m args below meth c E nL Q cells slots pc lo (.int x :: .int i :: .ref (zB E + a) :: st) h := by
  intro H locs ls hR hL hlo
  obtain ⟨hc, hf⟩ := zif hf
  obtain ⟨n, hs, hin⟩ := zat_spec hc
  refine W.zast C.1 C.2.1 (zRep_arr hR hs (by decide)) ((C.2.2.2.2.2.1.1.2 2 _ rfl).1 n _) (fun q => by cases q) (zin_arr hin) rfl rfl hdg fun H1 g1 g2 g3 => ?_
  exact kk _ hf H1 _ ls (zarr_upd (h' := zpi h a i.toNatClampNeg (vp_nar .boolean x)) hR hs (by decide) g1 g2 g3 rfl rfl (fun b hb => zsame_zpi hb) (zavl_zpi (by decide))) (zL_app hL) hlo
theorem zr_aastore (C : zC p s m args meth c cc nL own E) {a kd t0 b ci n : Nat} {i : Int32} {q : vw_C} {k : zH → Option β} (hf : ztr h a kd i b ci n k = some res) (hkd : 23 ≤ kd) (hci : ci < 11) (hq : zclasses[ci]? = some q) (ht : (ztys E.2.1)[t0]? = some (E.2.1 kd, .object q.1)) (hdg : decode cc pc = .ok (.aastore, 1)) (kk : ∀ h', k h' = some res → zW p l e R s m args below meth c E nL Q cells slots (pc + 1) lo st h') : zW p l e R s m args below meth c E nL Q cells slots pc lo (.ref (zB E + b) :: .int i :: .ref (zB E + a) :: st) h := by
  intro H locs ls hR hL hlo
  obtain ⟨⟨hc, hsb⟩, hf⟩ := zif hf
  obtain ⟨n0, hs, hin⟩ := zat_spec hc
  obtain ⟨-, cellV, g1, g2, g3, -⟩ := zRep_obj hR hsb hci
  have hcls := (C.2.2.2.2.2.1.1.1 ci q hq).2
  obtain ⟨kA, comp, k1, k2, k3, -⟩ := (C.2.2.2.2.2.1.1.2 t0 _ ht).2
  have hcomp : comp = E.1.1 ci := Option.some.inj (k3.symm.trans hcls.1)
  subst hcomp
  obtain ⟨kC, hkC, -⟩ := hcls.2
  refine W.aast C.1 C.2.1 (zRep_arr hR hs (by omega)) (fun q h => by cases h) (fun h => by cases h) k1 k2 rfl hkC ⟨fun z => hin (Or.inl z), by rw [arrV_size]; exact Nat.not_le.mp fun z => hin (Or.inr z)⟩ g1 (fun q h => by rw [g3] at h; cases h) (by rw [g2]; exact hkC) (by rw [g2]; exact va_assign hcls) rfl rfl hdg fun H1 e1 z oq => ?_
  exact kk _ hf H1 _ ls (zarr_upd (h' := zpr h a i.toNatClampNeg (some b)) hR hs (by omega) e1 z oq rfl rfl (fun b hb => zsame_zpr hb) (zavl_zpr hkd)) (zL_app hL) hlo
theorem zr_alen (C : zC p s m args meth c cc nL own E) {a kd t0 : Nat} {ty : FieldType} {k : Int32 → Option β} (hf : zln h a kd k = some res) (hkd : 20 ≤ kd) (ht : (ztys E.2.1)[t0]? = some (E.2.1 kd, ty)) (hdg : decode cc pc = .ok (.arraylength, 1)) (kk : ∀ x : Int32, k x = some res → zW p l e R s m args below meth c E nL Q cells slots (pc + 1) lo (.int x :: st) h) : zW p l e R s m args below meth c E nL Q cells slots pc lo (.ref (zB E + a) :: st) h := by
  intro H locs ls hR hL hlo
  unfold zln at hf
  cases hs : zsh h a with
  | none => rw [hs] at hf; cases hf
  | some x =>
    rw [hs] at hf
    obtain ⟨kd1, n⟩ := x
    have hf : (if kd1 = kd then k (Int32.ofNat n) else none) = some res := hf
    obtain ⟨e1, hf2⟩ := zif hf
    subst e1
    exact W.alen (n := Int32.ofNat n) C.1 C.2.1 (zRep_arr hR hs hkd) ((C.2.2.2.2.2.1.1.2 t0 _ ht).1 n _) (by rw [arrV_size] <;> rfl) rfl rfl hdg (kk _ hf2 H locs ls hR hL hlo)
/-! ===== making ===== -/
theorem zdflt {B : Nat} {h : zH} {kd n k : Nat} {ty : FieldType} (h1 : ty ≠ .float) (h2 : ty ≠ .double) : defaultValue ty = zval B (znew h kd n) (zsz h) k ty := by
  have e1 : zi (znew h kd n) (zsz h) k = 0 := if_pos rfl
  have e2 : zr (znew h kd n) (zsz h) k = none := if_pos rfl
  have e3 : zl (znew h kd n) (zsz h) k = 0 := if_pos rfl
  unfold zval
  cases ty <;> first | exact absurd rfl h1 | exact absurd rfl h2 | (simp only [e1, e2, e3]; rfl)
def zNw (own : String) (index ci n : Nat) : Prop := ∃ (Cn : String) (T : u_T), zCl ci Cn T n ∧ Cond.classLink own index Cn ∈ ztb ∧ Cond.instantiable Cn n ∈ ztb ∧ Cond.initialized Cn ∈ ztb
theorem zr_new (C : zC p s m args meth c cc nL own E) {index ci n : Nat} {k : Nat → zH → Option β} (hf : zno h ci n k = some res) (hG : zNw own index ci n) (hc1 : cells + 1 ≤ R.cells) (hc2 : slots + n ≤ R.slots) (hdg : decode cc pc = .ok (.new index, 3)) (kk : ∀ (q : Nat) (h' : zH), k q h' = some res → zW p l e R s m args below meth c E nL Q (cells + 1) (slots + n) (pc + 3) lo (.ref (zB E + q) :: st) h') : zW p l e R s m args below meth c E nL Q cells slots pc lo st h := by
  intro H locs ls hR hL hlo
  obtain ⟨Cn, T, ⟨hc, hci, hin, hty, hnm, hnf⟩, w1, w2, w3⟩ := hG
  have hKn := C.2.2.2.2.2.1.1.1 ci _ hc
  refine W.newcK C.1 C.2.1 C.2.2.2.1 (C.2.2.2.2.1 _ w1) (C.2.2.2.2.1 _ w2) (C.2.2.2.2.1 _ w3) rfl hdg hc1 hc2 hKn.2.1 hR.1 fun H1 kC hkC e1 z1 o1 => ?_
  refine kk (zsz h) (znew h ci n) hf H1 locs ls (zRep_new hR (by rw [z1, hR.1]) (fun q hq => o1 q (by rw [← hR.1]; exact hq)) ?_) hL hlo
  exact Or.inl ⟨hci, ⟨_, hc, rfl⟩, (u_born (zty ci) C.2.2.2.2.1 hin hKn hkC e1 hty).to (fun k hk => zdflt (hnf k hk).1 (hnf k hk).2)⟩
theorem zr_newarray (C : zC p s m args meth c cc nL own E) {atype : ArrayType} {ty : FieldType} {kd t0 mx : Nat} {n : Int32} {k : Nat → zH → Option β} (hf : zna h kd n mx k = some res) (hkd : 20 ≤ kd ∧ kd < 23) (hty : newarray.typeOf atype = ty) (ht : (ztys E.2.1)[t0]? = some (E.2.1 kd, ty)) (hra : ∀ cA, va_RA s cA ty = (s.vm.findClass ("[" ++ ty.toString) = some cA)) (hd : defaultValue ty = .int 0) (w1 : Cond.arrayClass ty ∈ ztb) (hbytes : mx * componentBytes ty ≤ 536870912) (hc1 : cells + 1 ≤ R.cells) (hc2 : slots + mx ≤ R.slots) (hdg : decode cc pc = .ok (.newarray atype, 2))
    (kk : ∀ (q : Nat) (h' : zH), k q h' = some res → zW p l e R s m args below meth c E nL Q (cells + 1) (slots + mx) (pc + 2) lo (.ref (zB E + q) :: st) h') : zW p l e R s m args below meth c E nL Q cells slots pc lo (.int n :: st) h := by
  intro H locs ls hR hL hlo
  obtain ⟨⟨hn, hmx⟩, hf⟩ := zif hf
  subst hty
  refine va_newaK C.1 C.2.1 (C.2.2.2.2.1 _ w1) rfl hdg rfl hn rfl (Nat.le_trans (Nat.mul_le_mul_right _ hmx) hbytes) hc1 (Nat.le_trans (Nat.add_le_add_left hmx _) hc2) hR.1 fun H1 cA e1 z1 o1 hAr hNm => ?_
  have hra2 := (C.2.2.2.2.2.1.1.2 t0 _ ht).2
  rw [hra] at hra2
  have hcA : cA = E.2.1 kd := Option.some.inj (hNm.symm.trans hra2)
  subst hcA
  refine W.widen (Nat.le_refl _) (Nat.add_le_add_left hmx _) (kk (zsz h) (znew h kd n.toNatClampNeg) hf H1 locs ls (zRep_new hR (by rw [z1, hR.1]) (fun q hq => o1 q (by rw [← hR.1]; exact hq)) ?_) hL hlo)
  refine Or.inr ⟨hkd.1, ?_⟩
  rw [e1, hd]
  congr 2
  funext j
  unfold zavl
  rw [if_pos hkd.2]
  have e1 : zi (znew h kd n.toNatClampNeg) (zsz h) j = 0 := if_pos rfl
  rw [e1]
theorem zr_anewarray (C : zC p s m args meth c cc nL own E) {Cn : String} {index kd t0 mx : Nat} {n : Int32} {k : Nat → zH → Option β} (hf : zna h kd n mx k = some res) (hkd : 23 ≤ kd) (ht : (ztys E.2.1)[t0]? = some (E.2.1 kd, .object Cn)) (w1 : Cond.classLink own index Cn ∈ ztb) (hov : va_AO Cn s) (hbytes : mx * 4 ≤ 536870912) (hc1 : cells + 1 ≤ R.cells) (hc2 : slots + mx ≤ R.slots) (hdg : decode cc pc = .ok (.anewarray index, 3))
    (kk : ∀ (q : Nat) (h' : zH), k q h' = some res → zW p l e R s m args below meth c E nL Q (cells + 1) (slots + mx) (pc + 3) lo (.ref (zB E + q) :: st) h') : zW p l e R s m args below meth c E nL Q cells slots pc lo (.int n :: st) h := by
  intro H locs ls hR hL hlo
  obtain ⟨⟨hn, hmx⟩, hf⟩ := zif hf
  refine W.anew C.1 C.2.1 C.2.2.2.1 (C.2.2.2.2.1 _ w1) (va_AO.use hov) rfl hdg rfl hn (Nat.le_trans (Nat.mul_le_mul_right _ hmx) hbytes) hc1 (Nat.le_trans (Nat.add_le_add_left hmx _) hc2) fun cA kA comp f1 f2 f3 f4 => ?_
  obtain ⟨_, _, -, -, -, h4⟩ := (C.2.2.2.2.2.1.1.2 t0 _ ht).2
  have hcA : cA = E.2.1 kd := Option.some.inj (f1.symm.trans h4)
  subst hcA
  rw [hR.1]
  refine W.widen (Nat.le_refl _) (Nat.add_le_add_left hmx _) (kk (zsz h) (znew h kd n.toNatClampNeg) hf _ locs ls (zRep_new hR (Array.size_push ..) (fun q hq => by rw [Array.getElem?_push, if_neg (Nat.ne_of_lt hq)]) ?_) hL hlo)
  refine Or.inr ⟨by omega, ?_⟩
  rw [← hR.1, Array.getElem?_push_size, arrV_new]
  congr 2
  funext j
  unfold zavl
  rw [if_neg (by omega)]
  have e1 : zr (znew h kd n.toNatClampNeg) (zsz h) j = none := if_pos rfl
  rw [e1]
  rfl
end ZR6
