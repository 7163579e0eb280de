/-! ===== more objects, nothing else ===== -/
def zI0 (S : zH) (f : Nat → Nat → Int32) (g c c' r r' tr pl nd : Nat) (da : Nat → Nat) (R H cu nl nr : Nat) (ra : Nat → Nat) (np pt : Nat) : Prop :=
  zKl S c c' r r' tr ∧ I_pg f pl ∧ I_do S f nd da ∧ I_cu f c R H cu ∧ cu ≤ g ∧ I_lv f R nl ∧ I_br f R H ∧ I_wa f ∧ I_rw S f nr ra tr ∧ I_pi f np ∧ I_rv f r pt ∧ I_im f R H nl cu
theorem zI0_fi {S : zH} {f : Nat → Nat → Int32} {g c c' r r' tr pl nd R H cu nl nr np pt fi : Nat} {da ra : Nat → Nat} (h : zI0 S f g c c' r r' tr pl nd da R H cu nl nr ra np pt) (hf : I_fi f fi) : zI S f g c c' r r' tr pl nd da R H cu nl nr ra np pt fi := by
  obtain ⟨h1, h2, h3, h4, h5, h6, h7, h8, h9, h10, h11, h12⟩ := h
  exact ⟨h1, h2, h3, h4, h5, h6, h7, h8, h9, h10, h11, hf, h12⟩
def zExt (S S' : zH) : Prop := (∀ x, x < zsz S → zsh S' x = zsh S x) ∧ (∀ x y, x < zsz S → zr S' x y = zr S x y) ∧ zsz S ≤ zsz S'
theorem zExt_refl (S : zH) : zExt S S := ⟨fun _ _ => rfl, fun _ _ _ => rfl, Nat.le_refl _⟩
theorem zExt_trans {S S' S'' : zH} (h : zExt S S') (k : zExt S' S'') : zExt S S'' := ⟨fun x hx => (k.1 x (Nat.lt_of_lt_of_le hx h.2.2)).trans (h.1 x hx), fun x y hx => (k.2.1 x y (Nat.lt_of_lt_of_le hx h.2.2)).trans (h.2.1 x y hx), Nat.le_trans h.2.2 k.2.2⟩
theorem zExt_new (S : zH) (kd n : Nat) : zExt S (znew S kd n) := ⟨fun x hx => if_neg (by omega), fun x y hx => if_neg (by omega), Nat.le_succ _⟩
/-- what is said of cells that lie low, and of no reference that changes, still holds -/
def zLow (S S' : zH) (B : Nat) (x0 : Nat → Nat → Prop) : Prop := (∀ x, x < B → zsh S' x = zsh S x) ∧ ∀ x y, x < B → ¬ x0 x y → zr S' x y = zr S x y
theorem zLvs_low {S S' : zH} {B v z : Nat} {x0 : Nat → Nat → Prop} (L : zLow S S' B x0) (hv : v + 4 < B) (h0 : ∀ y, ¬ x0 v y) (h : zLvs S v z) : zLvs S' v z := by
  obtain ⟨h1, h2, h3, h4, h5, h6, h7, h8, h9⟩ := h
  exact ⟨(L.1 _ (by omega)).trans h1, (L.2 _ _ (by omega) (h0 _)).trans h2, (L.2 _ _ (by omega) (h0 _)).trans h3, (L.2 _ _ (by omega) (h0 _)).trans h4, (L.2 _ _ (by omega) (h0 _)).trans h5, (L.1 _ (by omega)).trans h6, (L.1 _ (by omega)).trans h7, (L.1 _ (by omega)).trans h8, (L.1 _ (by omega)).trans h9⟩
theorem zBr_low {S S' : zH} {B b : Nat} {x0 : Nat → Nat → Prop} (L : zLow S S' B x0) (hb : b + 8 < B) (h0 : ∀ y, ¬ x0 b y ∧ ¬ x0 (b + 1) y) (h : zBr S b) : zBr S' b := by
  obtain ⟨h1, h2, h3, h4, h5, h6, h7⟩ := h
  exact ⟨(L.1 _ (by omega)).trans h1, (L.2 _ _ (by omega) (h0 _).1).trans h2, (L.2 _ _ (by omega) (h0 _).1).trans h3, (L.1 _ (by omega)).trans h4, fun r hr => (L.2 _ _ (by omega) (h0 _).2).trans (h5 r hr), fun r hr => (L.1 _ (by omega)).trans (h6 r hr), (L.1 _ (by omega)).trans h7⟩
theorem zCu_low {S S' : zH} {B c : Nat} {x0 : Nat → Nat → Prop} (L : zLow S S' B x0) (hc : c + 1 < B) (h0 : ∀ y, ¬ x0 c y) (h : zCu S c) : zCu S' c :=
  ⟨(L.1 _ (by omega)).trans h.1, (L.2 _ _ (by omega) (h0 _)).trans h.2.1, (L.1 _ (by omega)).trans h.2.2⟩
theorem zRv_low {S S' : zH} {B r : Nat} {x0 : Nat → Nat → Prop} (L : zLow S S' B x0) (hr : r + 4 < B) (h0 : ∀ y, ¬ x0 r y) (h : zRv S r) : zRv S' r := by
  obtain ⟨h1, h2, h3, h4, h5, h6, h7, h8, h9⟩ := h
  exact ⟨(L.1 _ (by omega)).trans h1, (L.2 _ _ (by omega) (h0 _)).trans h2, (L.2 _ _ (by omega) (h0 _)).trans h3, (L.2 _ _ (by omega) (h0 _)).trans h4, (L.2 _ _ (by omega) (h0 _)).trans h5, (L.1 _ (by omega)).trans h6, (L.1 _ (by omega)).trans h7, (L.1 _ (by omega)).trans h8, (L.1 _ (by omega)).trans h9⟩
theorem zRw_low {S S' : zH} {B q : Nat} {x0 : Nat → Nat → Prop} (L : zLow S S' B x0) (hq : q + 2 < B) (h0 : ∀ y, ¬ x0 q y) (h : zRw S q) : zRw S' q := by
  obtain ⟨h1, h2, h3, h4, h5⟩ := h
  exact ⟨(L.1 _ (by omega)).trans h1, (L.2 _ _ (by omega) (h0 _)).trans h2, (L.2 _ _ (by omega) (h0 _)).trans h3, (L.1 _ (by omega)).trans h4, (L.1 _ (by omega)).trans h5⟩
theorem mTab_low : ∀ q ∈ mTab, q.2.1 < 117 := by decide
theorem zMo_low {S S' : zH} {B : Nat} {x0 : Nat → Nat → Prop} (L : zLow S S' B x0) (hB : 117 ≤ B) (h0 : ∀ y, ¬ x0 85 y) (h : zMo S) : zMo S' :=
  ⟨(L.1 _ (by omega)).trans h.1, fun q hq => ⟨(L.2 _ _ (by omega) (h0 _)).trans (h.2 q hq).1, (L.1 _ (by have := mTab_low q hq; omega)).trans (h.2 q hq).2⟩⟩
theorem cRefs_low : ∀ q ∈ cRefs, q.1 < 117 ∧ q.1 ≠ 4 ∧ q.1 ≠ 19 ∧ ¬ (q.1 = 0 ∧ (q.2.1 = 4 ∨ q.2.1 = 5 ∨ q.2.1 = 7 ∨ q.2.1 = 8 ∨ q.2.1 = 10)) := by decide
theorem cShs_low : ∀ q ∈ cShs, q.1 < 117 := by decide
/-- the references that may change -/
def xChg (x y : Nat) : Prop := x = 4 ∨ x = 19 ∨ (x = 0 ∧ (y = 4 ∨ y = 5 ∨ y = 7 ∨ y = 8 ∨ y = 10))
theorem zKl_low {S S' : zH} {c c' r r' tr cN c'N rN r'N trN : Nat} (L : zLow S S' (zsz S) xChg) (h : zKl S c c' r r' tr) (e1 : zr S' 0 4 = some cN) (e2 : zr S' 0 5 = some c'N) (e3 : zr S' 0 7 = some rN) (e4 : zr S' 0 8 = some r'N) (e5 : zr S' 0 10 = some trN) (h1 : (cN = c ∧ c'N = c') ∨ (cN = c' ∧ c'N = c)) (h2 : (rN = r ∧ r'N = r') ∨ (rN = r' ∧ r'N = r)) (h3 : zRw S' trN) (h4 : trN = 20 ∨ (67 ≤ trN ∧ trN + 2 < 85)) (h5 : trN + 2 < zsz S') (h6 : zsz S ≤ zsz S') : zKl S' cN c'N rN r'N trN := by
  have hz := cl_zz h
  have hcc := cl_cc h
  have hrr := cl_rr h
  have n0 : ∀ x y, x ≠ 0 → x ≠ 4 → x ≠ 19 → ¬ xChg x y := fun x y a b d q => by unfold xChg at q; omega
  have k1 : zCu S' c := zCu_low L (by omega) (fun y => n0 _ _ (by omega) (by omega) (by omega)) (cl_Cu h)
  have k2 : zCu S' c' := zCu_low L (by omega) (fun y => n0 _ _ (by omega) (by omega) (by omega)) (cl_Cu' h)
  have k3 : zRv S' r := zRv_low L (by omega) (fun y => n0 _ _ (by omega) (by omega) (by omega)) (cl_Rv h)
  have k4 : zRv S' r' := zRv_low L (by omega) (fun y => n0 _ _ (by omega) (by omega) (by omega)) (cl_Rv' h)
  refine ⟨(L.1 0 (by omega)).trans h.1, fun q hq => ?_, fun q hq => ?_, e1, e2, e3, e4, e5, zLvs_low L (by omega) (fun y => n0 _ _ (by omega) (by omega) (by omega)) (cl_lv h), zLvs_low L (by omega) (fun y => n0 _ _ (by omega) (by omega) (by omega)) (cl_wd h), zBr_low L (by omega) (fun y => ⟨n0 _ _ (by omega) (by omega) (by omega), n0 _ _ (by omega) (by omega) (by omega)⟩) (cl_b h), zBr_low L (by omega) (fun y => ⟨n0 _ _ (by omega) (by omega) (by omega), n0 _ _ (by omega) (by omega) (by omega)⟩) (cl_t h), zBr_low L (by omega) (fun y => ⟨n0 _ _ (by omega) (by omega) (by omega), n0 _ _ (by omega) (by omega) (by omega)⟩) (cl_k h), ?_, ?_, ?_, ?_, h3, zMo_low L (by omega) (fun y => n0 _ _ (by omega) (by omega) (by omega)) (cl_M h), by omega, by omega, h4, h5, by omega⟩
  · have := cRefs_low q hq
    exact (L.2 _ _ (by omega) (fun z => by unfold xChg at z; omega)).trans (h.2.1 q hq)
  · have := cShs_low q hq
    exact (L.1 _ (by omega)).trans (h.2.2.1 q hq)
  · rcases h1 with ⟨rfl, rfl⟩ | ⟨rfl, rfl⟩
    · exact k1
    · exact k2
  · rcases h1 with ⟨rfl, rfl⟩ | ⟨rfl, rfl⟩
    · exact k2
    · exact k1
  · rcases h2 with ⟨rfl, rfl⟩ | ⟨rfl, rfl⟩
    · exact k3
    · exact k4
  · rcases h2 with ⟨rfl, rfl⟩ | ⟨rfl, rfl⟩
    · exact k4
    · exact k3
theorem zExt_low {S S' : zH} (h : zExt S S') (x0 : Nat → Nat → Prop) : zLow S S' (zsz S) x0 := ⟨h.1, fun x y hx _ => h.2.1 x y hx⟩
theorem zKl_ext {S S' : zH} {c c' r r' tr : Nat} (E : zExt S S') (h : zKl S c c' r r' tr) : zKl S' c c' r r' tr := by
  have hz := cl_zz h
  have ht := cl_tz h
  refine zKl_low (zExt_low E _) h ((E.2.1 _ _ (by omega)).trans (cl_c h)) ((E.2.1 _ _ (by omega)).trans (cl_c' h)) ((E.2.1 _ _ (by omega)).trans (cl_r h)) ((E.2.1 _ _ (by omega)).trans (cl_r' h)) ((E.2.1 _ _ (by omega)).trans (cl_tr h)) (Or.inl ⟨rfl, rfl⟩) (Or.inl ⟨rfl, rfl⟩) (zRw_low (x0 := fun _ _ => False) (zExt_low E _) ht (fun _ q => q) (cl_Rw h)) (cl_tt h) ?_ E.2.2
  have := E.2.2
  omega
theorem zSp_low {S S' : zH} {nr : Nat} {x0 : Nat → Nat → Prop} (L : zLow S S' (zsz S) x0) (hx : ∀ x y, 19 ≤ x → ¬ x0 x y) (hz : 117 ≤ zsz S) (h : zSp S nr) : zSp S' nr := fun k h1 h2 =>
  ⟨(L.2 _ _ (by omega) (hx _ _ (by omega))).trans (h k h1 h2).1, zRw_low L (by omega) (fun _ => hx _ _ (by omega)) (h k h1 h2).2⟩
theorem I_do_ext {S S' : zH} {f : Nat → Nat → Int32} {nd : Nat} {da : Nat → Nat} (E : zExt S S') (hz : 117 ≤ zsz S) (h : I_do S f nd da) : I_do S' f nd da := by
  obtain ⟨h1, h2, h3, h4, h5, h6⟩ := h
  refine ⟨h1, h2, h3, h4, h5, fun k hk => ?_⟩
  obtain ⟨k1, k2, k3, k4, k5⟩ := h6 k hk
  have := E.2.2
  exact ⟨(E.2.1 _ _ (by omega)).trans k1, (E.1 _ k4).trans k2, k3, by omega, k5⟩
theorem I_rw_ext {S S' : zH} {f : Nat → Nat → Int32} {nr tr : Nat} {ra : Nat → Nat} (E : zExt S S') (hz : 117 ≤ zsz S) (ht : tr + 2 < zsz S) (h : I_rw S f nr ra tr) : I_rw S' f nr ra tr := by
  obtain ⟨⟨h1, h1', h1''⟩, h2, h3, h6⟩ := h
  refine ⟨⟨h1, h1', zSp_low (x0 := fun _ _ => False) (zExt_low E _) (fun _ _ _ q => q) hz h1''⟩, h2, h3, fun k hk => ?_⟩
  obtain ⟨k1, k2, k3, k4, k5⟩ := h6 k hk
  exact ⟨(E.2.1 _ _ (by omega)).trans k1, zRw_low (x0 := fun _ _ => False) (zExt_low E _) (by omega) (fun _ q => q) k2, k3, k4, k5⟩
theorem zI0_ext {S S' : zH} {f f' : Nat → Nat → Int32} {g c c' r r' tr pl nd R H cu nl nr np pt fi : Nat} {da ra : Nat → Nat} (h : zI S f g c c' r r' tr pl nd da R H cu nl nr ra np pt fi) (E : zExt S S') (hf : ∀ a k, a < zsz S → ¬ zScr c' r r' tr a k → ¬ (a = 0 ∧ k = 18) → ¬ (a = 85 ∧ k = 26) → f' a k = f a k) : zI0 S' f' (g + 1) c c' r r' tr pl nd da R H cu nl nr ra np pt := by
  obtain ⟨hS, hpg, hdo, hcu, hg, hlv, hbr, hwa, hrw, hpi, hrv, hfi, him⟩ := h
  have hcc := cl_cc hS
  have hrr := cl_rr hS
  have htt := cl_tt hS
  have hzz := cl_zz hS
  have htz := cl_tz hS
  unfold zScr at hf
  refine ⟨zKl_ext E hS, I_pg_c (fun a k q => hf a k (by omega) (by omega) (by omega) (by omega)) hpg, I_do_ext E hzz (I_do_c (fun a k q => hf a k (by omega) (by omega) (by omega) (by omega)) (fun k hk j => hf _ _ ?_ ?_ ?_ ?_) hdo), I_cu_c (fun a k q => hf a k (by omega) (by omega) (by omega) (by omega)) hcu, by omega, I_lv_c (fun a k q => hf a k (by omega) (by omega) (by omega) (by omega)) hlv, I_br_c (fun a k q => hf a k (by omega) (by omega) (by omega) (by omega)) hbr, I_wa_c (fun a k q => hf a k (by omega) (by omega) (by omega) (by omega)) hwa, I_rw_ext E hzz htz (I_rw_c (fun a k q => hf a k (by omega) (by omega) (by omega) (by omega)) (fun k hk a j q => hf a j ?_ ?_ ?_ ?_) hrw), I_pi_c (fun a k q => hf a k (by omega) (by omega) (by omega) (by omega)) hpi, I_rv_c (fun a k q => hf a k (by omega) (by omega) (by omega) (by omega)) hrv, I_im_c (fun a k q => hf a k (by omega) (by omega) (by omega) (by omega)) him⟩
  · exact (hdo.2.2.2.2.2 k hk).2.2.2.1
  · obtain ⟨k1, k2, k3, -⟩ := hdo.2.2.2.2.2 k hk
    have := do_off k2 (cl_Rw hS)
    omega
  · obtain ⟨k1, k2, k3, -⟩ := hdo.2.2.2.2.2 k hk
    omega
  · obtain ⟨k1, k2, k3, -⟩ := hdo.2.2.2.2.2 k hk
    omega
  · obtain ⟨k1, k2, k3, k4, -⟩ := hrw.2.2.2 k hk
    omega
  · obtain ⟨k1, k2, k3, k4, -⟩ := hrw.2.2.2 k hk
    omega
  · obtain ⟨k1, k2, k3, k4, -⟩ := hrw.2.2.2 k hk
    omega
  · obtain ⟨k1, k2, k3, k4, -⟩ := hrw.2.2.2 k hk
    omega
theorem e_no {β : Type} (S : zH) (f : Nat → Nat → Int32) (ci n : Nat) (k : Nat → zH → Option β) : zno (zwi S f) ci n k = k (zsz S) (zwi (znew S ci n) (fun x y => if x = zsz S then nI 0 else f x y)) := rfl
