theorem dX10_want_0 : decode cX10_want 0 = .ok (.aload_n 0, 1) := by decide +kernel
theorem dX10_want_1 : decode cX10_want 1 = .ok (.getfield 36, 3) := by decide +kernel
theorem dX10_want_4 : decode cX10_want 4 = .ok (.iload_n 1, 1) := by decide +kernel
theorem dX10_want_5 : decode cX10_want 5 = .ok (.invokevirtual 170, 3) := by decide +kernel
theorem dX10_want_8 : decode cX10_want 8 = .ok (.ifCond .ne 6, 3) := by decide +kernel
theorem dX10_want_11 : decode cX10_want 11 = .ok (.bipush (-101), 2) := by decide +kernel
theorem dX10_want_13 : decode cX10_want 13 = .ok (.ireturn, 1) := by decide +kernel
theorem dX10_want_14 : decode cX10_want 14 = .ok (.iload_n 2, 1) := by decide +kernel
theorem dX10_want_15 : decode cX10_want 15 = .ok (.iconst 0, 1) := by decide +kernel
theorem dX10_want_16 : decode cX10_want 16 = .ok (.bipush 8, 2) := by decide +kernel
theorem dX10_want_18 : decode cX10_want 18 = .ok (.invokestatic 148, 3) := by decide +kernel
theorem dX10_want_21 : decode cX10_want 21 = .ok (.ifCond .ne 6, 3) := by decide +kernel
theorem dX10_want_24 : decode cX10_want 24 = .ok (.bipush (-102), 2) := by decide +kernel
theorem dX10_want_26 : decode cX10_want 26 = .ok (.ireturn, 1) := by decide +kernel
theorem dX10_want_27 : decode cX10_want 27 = .ok (.aload_n 0, 1) := by decide +kernel
theorem dX10_want_28 : decode cX10_want 28 = .ok (.getfield 99, 3) := by decide +kernel
theorem dX10_want_31 : decode cX10_want 31 = .ok (.iload_n 1, 1) := by decide +kernel
theorem dX10_want_32 : decode cX10_want 32 = .ok (.iaload, 1) := by decide +kernel
theorem dX10_want_33 : decode cX10_want 33 = .ok (.istore_n 3, 1) := by decide +kernel
theorem dX10_want_34 : decode cX10_want 34 = .ok (.aload_n 0, 1) := by decide +kernel
theorem dX10_want_35 : decode cX10_want 35 = .ok (.getfield 99, 3) := by decide +kernel
theorem dX10_want_38 : decode cX10_want 38 = .ok (.iload_n 1, 1) := by decide +kernel
theorem dX10_want_39 : decode cX10_want 39 = .ok (.iload_n 2, 1) := by decide +kernel
theorem dX10_want_40 : decode cX10_want 40 = .ok (.iastore, 1) := by decide +kernel
theorem dX10_want_41 : decode cX10_want 41 = .ok (.iload_n 3, 1) := by decide +kernel
theorem dX10_want_42 : decode cX10_want 42 = .ok (.ireturn, 1) := by decide +kernel
set_option maxHeartbeats 4000000 in
set_option maxRecDepth 100000 in
theorem c_X10_want (l : Launch) (E : zE) (n : Nat) (h : zH) (a0 : Nat) (p0 : Int32) (p1 : Int32) (res : Int32 × zH) (hf : F_X10_want n h a0 p0 p1 = some res) : Met l yX10_want (zw yX10_want cX10_want 4 (some .int)) ({ frames := 1, cells := 0, slots := 0, locals := 22 } : Room) (zPc E h [.ref (zB E + a0), .int p0, .int p1]) (zQc E res.2 (some (.int res.1))) 0 0 (zfr E) := by
  refine zmet (lo := [(0, .ref (zB E + a0)), (1, .int p0), (2, .int p1)]) (by decide +kernel) (Nat.le_of_ble_eq_true rfl) rfl ?_
  intro p e s m args below meth c C hr hin
  unfold F_X10_want at hf
  refine zr_aload_n C dX10_want_0 rfl 0 rfl ?_
  refine zr_gr C hf kg_X10_36 (fun _ _ _ => rfl) dX10_want_1 (fun w1 hf => ?_)
  refine zr_iload_n C dX10_want_4 rfl 1 rfl ?_
  refine zr_callVi (As := [.int p0]) (rest := []) C hf (fun x hx => c_X1_hasRing l E n h w1 p0 x hx) kv_X10_170 rfl rfl (Nat.le_of_ble_eq_true rfl) ⟨rfl, rfl⟩ ⟨Nat.le_of_ble_eq_true rfl, Nat.le_of_ble_eq_true rfl⟩ ⟨Nat.le_of_ble_eq_true rfl, Nat.le_of_ble_eq_true rfl⟩ dX10_want_5 (fun x3 h2 hf => ?_)
  refine zr_if_ne (tgt := 14) C hf dX10_want_8 (by decide) (fun hf => ?_) (fun hf => ?_)
  · refine zr_iload_n C dX10_want_14 rfl 2 rfl ?_
    refine zr_iconst (v := 0) C dX10_want_15 (by decide) ?_
    refine zr_bipush (v := 8) C dX10_want_16 (by decide) ?_
    refine zr_callSi (As := [.int p1, .int (0 : Int32), .int (8 : Int32)]) (rest := []) C hf (fun x hx => c_X10_isWithin l E n h2 p1 (0 : Int32) (8 : Int32) x hx) ks_X10_148 rfl rfl (Nat.le_of_ble_eq_true rfl) ⟨rfl, rfl⟩ ⟨Nat.le_of_ble_eq_true rfl, Nat.le_of_ble_eq_true rfl⟩ ⟨Nat.le_of_ble_eq_true rfl, Nat.le_of_ble_eq_true rfl⟩ dX10_want_18 (fun x5 h4 hf => ?_)
    refine zr_if_ne (tgt := 27) C hf dX10_want_21 (by decide) (fun hf => ?_) (fun hf => ?_)
    · refine zr_aload_n C dX10_want_27 rfl 0 rfl ?_
      refine zr_gr C hf kg_X10_99 (fun _ _ _ => rfl) dX10_want_28 (fun w6 hf => ?_)
      refine zr_iload_n C dX10_want_31 rfl 1 rfl ?_
      refine zr_iaload C hf dX10_want_32 (fun x7 hf => ?_)
      refine zr_istore_n (lo2 := [(3, .int x7), (0, .ref (zB E + a0)), (1, .int p0), (2, .int p1)]) C dX10_want_33 rfl (by decide) rfl ?_
      refine zr_aload_n C dX10_want_34 rfl 1 rfl ?_
      refine zr_gr C hf kg_X10_99 (fun _ _ _ => rfl) dX10_want_35 (fun w8 hf => ?_)
      refine zr_iload_n C dX10_want_38 rfl 2 rfl ?_
      refine zr_iload_n C dX10_want_39 rfl 3 rfl ?_
      refine zr_iastore C hf dX10_want_40 (fun h9 hf => ?_)
      refine zr_iload_n C dX10_want_41 rfl 0 rfl ?_
      exact zr_ireturn C hf hr (Nat.le_of_ble_eq_true rfl) (Nat.le_of_ble_eq_true rfl) dX10_want_42
    · refine zr_bipush (v := -102) C dX10_want_24 (by decide) ?_
      exact zr_ireturn C hf hr (Nat.le_of_ble_eq_true rfl) (Nat.le_of_ble_eq_true rfl) dX10_want_26
  · refine zr_bipush (v := -101) C dX10_want_11 (by decide) ?_
    exact zr_ireturn C hf hr (Nat.le_of_ble_eq_true rfl) (Nat.le_of_ble_eq_true rfl) dX10_want_13
theorem dX0_lyingIn_0 : decode cX0_lyingIn 0 = .ok (.iconst 0, 1) := by decide +kernel
theorem dX0_lyingIn_1 : decode cX0_lyingIn 1 = .ok (.istore_n 3, 1) := by decide +kernel
theorem dX0_lyingIn_2 : decode cX0_lyingIn 2 = .ok (.iconst 0, 1) := by decide +kernel
theorem dX0_lyingIn_3 : decode cX0_lyingIn 3 = .ok (.istore 4, 2) := by decide +kernel
theorem dX0_lyingIn_5 : decode cX0_lyingIn 5 = .ok (.iload 4, 2) := by decide +kernel
theorem dX0_lyingIn_7 : decode cX0_lyingIn 7 = .ok (.aload_n 2, 1) := by decide +kernel
theorem dX0_lyingIn_8 : decode cX0_lyingIn 8 = .ok (.getfield 20, 3) := by decide +kernel
theorem dX0_lyingIn_11 : decode cX0_lyingIn 11 = .ok (.if_icmp .ge 28, 3) := by decide +kernel
theorem dX0_lyingIn_14 : decode cX0_lyingIn 14 = .ok (.iload_n 3, 1) := by decide +kernel
theorem dX0_lyingIn_15 : decode cX0_lyingIn 15 = .ok (.aload_n 0, 1) := by decide +kernel
theorem dX0_lyingIn_16 : decode cX0_lyingIn 16 = .ok (.getfield 16, 3) := by decide +kernel
theorem dX0_lyingIn_19 : decode cX0_lyingIn 19 = .ok (.iload 4, 2) := by decide +kernel
theorem dX0_lyingIn_21 : decode cX0_lyingIn 21 = .ok (.iaload, 1) := by decide +kernel
theorem dX0_lyingIn_22 : decode cX0_lyingIn 22 = .ok (.iload_n 1, 1) := by decide +kernel
theorem dX0_lyingIn_23 : decode cX0_lyingIn 23 = .ok (.if_icmp .ne 7, 3) := by decide +kernel
theorem dX0_lyingIn_26 : decode cX0_lyingIn 26 = .ok (.iconst 1, 1) := by decide +kernel
theorem dX0_lyingIn_27 : decode cX0_lyingIn 27 = .ok (.goto 4, 3) := by decide +kernel
theorem dX0_lyingIn_30 : decode cX0_lyingIn 30 = .ok (.iconst 0, 1) := by decide +kernel
theorem dX0_lyingIn_31 : decode cX0_lyingIn 31 = .ok (.iadd, 1) := by decide +kernel
theorem dX0_lyingIn_32 : decode cX0_lyingIn 32 = .ok (.istore_n 3, 1) := by decide +kernel
theorem dX0_lyingIn_33 : decode cX0_lyingIn 33 = .ok (.iinc 4 1, 3) := by decide +kernel
theorem dX0_lyingIn_36 : decode cX0_lyingIn 36 = .ok (.goto (-31), 3) := by decide +kernel
theorem dX0_lyingIn_39 : decode cX0_lyingIn 39 = .ok (.iload_n 3, 1) := by decide +kernel
theorem dX0_lyingIn_40 : decode cX0_lyingIn 40 = .ok (.ireturn, 1) := by decide +kernel
set_option maxHeartbeats 4000000 in
set_option maxRecDepth 100000 in
theorem c_X0_lyingIn (l : Launch) (E : zE) (n : Nat) (h : zH) (a0 : Nat) (p0 : Int32) (p1 : Nat) (res : Int32 × zH) (hf : F_X0_lyingIn n h a0 p0 p1 = some res) : Met l yX0_lyingIn (zw yX0_lyingIn cX0_lyingIn 5 (some .int)) ({ frames := 0, cells := 0, slots := 0, locals := 0 } : Room) (zPc E h [.ref (zB E + a0), .int p0, .ref (zB E + p1)]) (zQc E res.2 (some (.int res.1))) 0 0 (zfr E) := by
  refine zmet (lo := [(0, .ref (zB E + a0)), (1, .int p0), (2, .ref (zB E + p1))]) (by decide +kernel) (Nat.le_of_ble_eq_true rfl) rfl ?_
  intro p e s m args below meth c C hr hin
  unfold F_X0_lyingIn at hf
  refine zr_iconst (v := 0) C dX0_lyingIn_0 (by decide) ?_
  refine zr_istore_n (lo2 := [(3, .int (0 : Int32)), (0, .ref (zB E + a0)), (1, .int p0), (2, .ref (zB E + p1))]) C dX0_lyingIn_1 rfl (by decide) rfl ?_
  refine zr_iconst (v := 0) C dX0_lyingIn_2 (by decide) ?_
  refine zr_istore (lo2 := [(4, .int (0 : Int32)), (3, .int (0 : Int32)), (0, .ref (zB E + a0)), (1, .int p0), (2, .ref (zB E + p1))]) C dX0_lyingIn_3 (by decide) rfl ?_
  have L5 : ∀ (fu : Nat) (x : zH × Int32 × Int32), zloop (fun kc x => F_X0_lyingIn_B5 n kc x.1 a0 p0 p1 x.2.1 x.2.2) fu x = some res → zW p l e (headSpec (zw yX0_lyingIn cX0_lyingIn 5 (some .int)) ({ frames := 0, cells := 0, slots := 0, locals := 0 } : Room)).room s m args below meth c E 5 (MQ below (zQc E res.2 (some (.int res.1))) args s 0 0 (zfr E)) 0 0 5 [(0, .ref (zB E + a0)), (1, .int p0), (2, .ref (zB E + p1)), (3, .int x.2.1), (4, .int x.2.2)] [] x.1 := by
    refine z_loop _ ?_
    intro kc5 hk5 x hf
    obtain ⟨h21, x19, x20⟩ := x
    dsimp only at hf ⊢
    unfold F_X0_lyingIn_B5 at hf
    have J31 : ∀ (h25 : zH) (x22 : Int32) (x23 : Int32) (x24 : Int32), F_X0_lyingIn_J31 n kc5 h25 a0 p0 p1 x22 x23 x24 = some res → zW p l e (headSpec (zw yX0_lyingIn cX0_lyingIn 5 (some .int)) ({ frames := 0, cells := 0, slots := 0, locals := 0 } : Room)).room s m args below meth c E 5 (MQ below (zQc E res.2 (some (.int res.1))) args s 0 0 (zfr E)) 0 0 31 [(0, .ref (zB E + a0)), (1, .int p0), (2, .ref (zB E + p1)), (4, .int x22)] [.int x24, .int x23] h25 := by
      intro h25 x22 x23 x24 hf
      unfold F_X0_lyingIn_J31 at hf
      refine zr_iadd C hf dX0_lyingIn_31 (fun x26 hf => ?_)
      refine zr_istore_n (lo2 := [(3, .int x26), (0, .ref (zB E + a0)), (1, .int p0), (2, .ref (zB E + p1)), (4, .int x22)]) C dX0_lyingIn_32 rfl (by decide) rfl ?_
      refine zr_iinc (v0 := 1) (k := 4) (f := fun v => [(4, .int v), (3, .int x26), (0, .ref (zB E + a0)), (1, .int p0), (2, .ref (zB E + p1))]) C hf (by decide) dX0_lyingIn_33 rfl (by decide) (fun v => rfl) (fun x27 hf => ?_)
      refine zr_goto (tgt := 5) C dX0_lyingIn_36 (by decide) ?_
      refine zsub [2, 3, 4, 1, 0] rfl ?_
      exact hk5 (h25, x26, x27) hf
    refine zr_iload C dX0_lyingIn_5 4 rfl ?_
    refine zr_aload_n C dX0_lyingIn_7 rfl 2 rfl ?_
    refine zr_gi C hf kg_X0_20 (fun _ _ _ => rfl) dX0_lyingIn_8 (fun x28 hf => ?_)
    refine zr_icmp_ge (tgt := 39) C hf dX0_lyingIn_11 (by decide) (fun hf => ?_) (fun hf => ?_)
    · refine zr_iload_n C dX0_lyingIn_39 rfl 3 rfl ?_
      exact zr_ireturn C hf hr (Nat.le_of_ble_eq_true rfl) (Nat.le_of_ble_eq_true rfl) dX0_lyingIn_40
    · refine zr_iload_n C dX0_lyingIn_14 rfl 3 rfl ?_
      refine zr_aload_n C dX0_lyingIn_15 rfl 0 rfl ?_
      refine zr_gr C hf kg_X0_16 (fun _ _ _ => rfl) dX0_lyingIn_16 (fun w29 hf => ?_)
      refine zr_iload C dX0_lyingIn_19 4 rfl ?_
      refine zr_iaload C hf dX0_lyingIn_21 (fun x30 hf => ?_)
      refine zr_iload_n C dX0_lyingIn_22 rfl 1 rfl ?_
      refine zr_icmp_ne (tgt := 30) C hf dX0_lyingIn_23 (by decide) (fun hf => ?_) (fun hf => ?_)
      · refine zr_iconst (v := 0) C dX0_lyingIn_30 (by decide) ?_
        refine zsub [0, 1, 2, 4] rfl ?_
        exact J31 h21 x20 x19 (0 : Int32) hf
      · refine zr_iconst (v := 1) C dX0_lyingIn_26 (by decide) ?_
        refine zr_goto (tgt := 31) C dX0_lyingIn_27 (by decide) ?_
        refine zsub [0, 1, 2, 4] rfl ?_
        exact J31 h21 x20 x19 (1 : Int32) hf
  refine zsub [2, 3, 4, 1, 0] rfl ?_
  exact L5 n (h, (0 : Int32), (0 : Int32)) hf
theorem dX10_offInTrial_0 : decode cX10_offInTrial 0 = .ok (.iconst 0, 1) := by decide +kernel
theorem dX10_offInTrial_1 : decode cX10_offInTrial 1 = .ok (.istore_n 1, 1) := by decide +kernel
theorem dX10_offInTrial_2 : decode cX10_offInTrial 2 = .ok (.iconst 0, 1) := by decide +kernel
theorem dX10_offInTrial_3 : decode cX10_offInTrial 3 = .ok (.istore_n 2, 1) := by decide +kernel
theorem dX10_offInTrial_4 : decode cX10_offInTrial 4 = .ok (.iload_n 2, 1) := by decide +kernel
theorem dX10_offInTrial_5 : decode cX10_offInTrial 5 = .ok (.aload_n 0, 1) := by decide +kernel
theorem dX10_offInTrial_6 : decode cX10_offInTrial 6 = .ok (.getfield 36, 3) := by decide +kernel
theorem dX10_offInTrial_9 : decode cX10_offInTrial 9 = .ok (.invokevirtual 138, 3) := by decide +kernel
theorem dX10_offInTrial_12 : decode cX10_offInTrial 12 = .ok (.if_icmp .ge 34, 3) := by decide +kernel
theorem dX10_offInTrial_15 : decode cX10_offInTrial 15 = .ok (.iload_n 1, 1) := by decide +kernel
theorem dX10_offInTrial_16 : decode cX10_offInTrial 16 = .ok (.aload_n 0, 1) := by decide +kernel
theorem dX10_offInTrial_17 : decode cX10_offInTrial 17 = .ok (.getfield 89, 3) := by decide +kernel
theorem dX10_offInTrial_20 : decode cX10_offInTrial 20 = .ok (.iload_n 2, 1) := by decide +kernel
theorem dX10_offInTrial_21 : decode cX10_offInTrial 21 = .ok (.aload_n 0, 1) := by decide +kernel
theorem dX10_offInTrial_22 : decode cX10_offInTrial 22 = .ok (.getfield 75, 3) := by decide +kernel
theorem dX10_offInTrial_25 : decode cX10_offInTrial 25 = .ok (.invokevirtual 353, 3) := by decide +kernel
theorem dX10_offInTrial_28 : decode cX10_offInTrial 28 = .ok (.aload_n 0, 1) := by decide +kernel
theorem dX10_offInTrial_29 : decode cX10_offInTrial 29 = .ok (.getfield 99, 3) := by decide +kernel
theorem dX10_offInTrial_32 : decode cX10_offInTrial 32 = .ok (.iload_n 2, 1) := by decide +kernel
theorem dX10_offInTrial_33 : decode cX10_offInTrial 33 = .ok (.iaload, 1) := by decide +kernel
theorem dX10_offInTrial_34 : decode cX10_offInTrial 34 = .ok (.isub, 1) := by decide +kernel
theorem dX10_offInTrial_35 : decode cX10_offInTrial 35 = .ok (.invokestatic 243, 3) := by decide +kernel
theorem dX10_offInTrial_38 : decode cX10_offInTrial 38 = .ok (.iadd, 1) := by decide +kernel
theorem dX10_offInTrial_39 : decode cX10_offInTrial 39 = .ok (.istore_n 1, 1) := by decide +kernel
theorem dX10_offInTrial_40 : decode cX10_offInTrial 40 = .ok (.iinc 2 1, 3) := by decide +kernel
theorem dX10_offInTrial_43 : decode cX10_offInTrial 43 = .ok (.goto (-39), 3) := by decide +kernel
theorem dX10_offInTrial_46 : decode cX10_offInTrial 46 = .ok (.iload_n 1, 1) := by decide +kernel
theorem dX10_offInTrial_47 : decode cX10_offInTrial 47 = .ok (.ireturn, 1) := by decide +kernel
set_option maxHeartbeats 4000000 in
set_option maxRecDepth 100000 in
theorem c_X10_offInTrial (l : Launch) (E : zE) (n : Nat) (h : zH) (a0 : Nat) (res : Int32 × zH) (hf : F_X10_offInTrial n h a0 = some res) : Met l yX10_offInTrial (zw yX10_offInTrial cX10_offInTrial 3 (some .int)) ({ frames := 1, cells := 0, slots := 0, locals := 24 } : Room) (zPc E h [.ref (zB E + a0)]) (zQc E res.2 (some (.int res.1))) 0 0 (zfr E) := by
  refine zmet (lo := [(0, .ref (zB E + a0))]) (by decide +kernel) (Nat.le_of_ble_eq_true rfl) rfl ?_
  intro p e s m args below meth c C hr hin
  unfold F_X10_offInTrial at hf
  refine zr_iconst (v := 0) C dX10_offInTrial_0 (by decide) ?_
  refine zr_istore_n (lo2 := [(1, .int (0 : Int32)), (0, .ref (zB E + a0))]) C dX10_offInTrial_1 rfl (by decide) rfl ?_
  refine zr_iconst (v := 0) C dX10_offInTrial_2 (by decide) ?_
  refine zr_istore_n (lo2 := [(2, .int (0 : Int32)), (1, .int (0 : Int32)), (0, .ref (zB E + a0))]) C dX10_offInTrial_3 rfl (by decide) rfl ?_
  have L4 : ∀ (fu : Nat) (x : zH × Int32 × Int32), zloop (fun kc x => F_X10_offInTrial_B4 n kc x.1 a0 x.2.1 x.2.2) fu x = some res → zW p l e (headSpec (zw yX10_offInTrial cX10_offInTrial 3 (some .int)) ({ frames := 1, cells := 0, slots := 0, locals := 24 } : Room)).room s m args below meth c E 3 (MQ below (zQc E res.2 (some (.int res.1))) args s 0 0 (zfr E)) 0 0 4 [(0, .ref (zB E + a0)), (1, .int x.2.1), (2, .int x.2.2)] [] x.1 := by
    refine z_loop _ ?_
    intro kc4 hk4 x hf
    obtain ⟨h20, x18, x19⟩ := x
    dsimp only at hf ⊢
    unfold F_X10_offInTrial_B4 at hf
    refine zr_iload_n C dX10_offInTrial_4 rfl 2 rfl ?_
    refine zr_aload_n C dX10_offInTrial_5 rfl 0 rfl ?_
    refine zr_gr C hf kg_X10_36 (fun _ _ _ => rfl) dX10_offInTrial_6 (fun w21 hf => ?_)
    refine zr_callVi (As := []) (rest := [.int x19]) C hf (fun x hx => c_X1_rings l E n h20 w21 x hx) kv_X10_138 rfl rfl (Nat.le_of_ble_eq_true rfl) ⟨rfl, rfl⟩ ⟨Nat.le_of_ble_eq_true rfl, Nat.le_of_ble_eq_true rfl⟩ ⟨Nat.le_of_ble_eq_true rfl, Nat.le_of_ble_eq_true rfl⟩ dX10_offInTrial_9 (fun x23 h22 hf => ?_)
    refine zr_icmp_ge (tgt := 46) C hf dX10_offInTrial_12 (by decide) (fun hf => ?_) (fun hf => ?_)
    · refine zr_iload_n C dX10_offInTrial_46 rfl 1 rfl ?_
      exact zr_ireturn C hf hr (Nat.le_of_ble_eq_true rfl) (Nat.le_of_ble_eq_true rfl) dX10_offInTrial_47
    · refine zr_iload_n C dX10_offInTrial_15 rfl 1 rfl ?_
      refine zr_aload_n C dX10_offInTrial_16 rfl 0 rfl ?_
      refine zr_gr C hf kg_X10_89 (fun _ _ _ => rfl) dX10_offInTrial_17 (fun w24 hf => ?_)
      refine zr_iload_n C dX10_offInTrial_20 rfl 2 rfl ?_
      refine zr_aload_n C dX10_offInTrial_21 rfl 0 rfl ?_
      refine zr_gr C hf kg_X10_75 (fun _ _ _ => rfl) dX10_offInTrial_22 (fun w25 hf => ?_)
      refine zr_callVi (As := [.int x19, .ref (zB E + w25)]) (rest := [.int x18]) C hf (fun x hx => c_X0_lyingIn l E n h22 w24 x19 w25 x hx) kv_X10_353 rfl rfl (Nat.le_of_ble_eq_true rfl) ⟨rfl, rfl⟩ ⟨Nat.le_of_ble_eq_true rfl, Nat.le_of_ble_eq_true rfl⟩ ⟨Nat.le_of_ble_eq_true rfl, Nat.le_of_ble_eq_true rfl⟩ dX10_offInTrial_25 (fun x27 h26 hf => ?_)
      refine zr_aload_n C dX10_offInTrial_28 rfl 0 rfl ?_
      refine zr_gr C hf kg_X10_99 (fun _ _ _ => rfl) dX10_offInTrial_29 (fun w28 hf => ?_)
      refine zr_iload_n C dX10_offInTrial_32 rfl 2 rfl ?_
      refine zr_iaload C hf dX10_offInTrial_33 (fun x29 hf => ?_)
      refine zr_isub C hf dX10_offInTrial_34 (fun x30 hf => ?_)
      refine zr_abs C hf zt706 zt707 zt77 zt708 ⟨Nat.le_of_ble_eq_true rfl, Nat.le_of_ble_eq_true rfl⟩ ⟨Nat.le_of_ble_eq_true rfl, Nat.le_of_ble_eq_true rfl⟩ dX10_offInTrial_35 (fun x31 hf => ?_)
      refine zr_iadd C hf dX10_offInTrial_38 (fun x32 hf => ?_)
      refine zr_istore_n (lo2 := [(1, .int x32), (0, .ref (zB E + a0)), (2, .int x19)]) C dX10_offInTrial_39 rfl (by decide) rfl ?_
      refine zr_iinc (v0 := 1) (k := 2) (f := fun v => [(2, .int v), (1, .int x32), (0, .ref (zB E + a0))]) C hf (by decide) dX10_offInTrial_40 rfl (by decide) (fun v => rfl) (fun x33 hf => ?_)
      refine zr_goto (tgt := 4) C dX10_offInTrial_43 (by decide) ?_
      refine zsub [2, 1, 0] rfl ?_
      exact hk4 (h26, x32, x33) hf
  refine zsub [2, 1, 0] rfl ?_
  exact L4 n (h, (0 : Int32), (0 : Int32)) hf
theorem dX10_off_0 : decode cX10_off 0 = .ok (.aload_n 0, 1) := by decide +kernel
theorem dX10_off_1 : decode cX10_off 1 = .ok (.iload_n 1, 1) := by decide +kernel
theorem dX10_off_2 : decode cX10_off 2 = .ok (.invokevirtual 222, 3) := by decide +kernel
theorem dX10_off_5 : decode cX10_off 5 = .ok (.ifCond .ne 6, 3) := by decide +kernel
theorem dX10_off_8 : decode cX10_off 8 = .ok (.bipush (-101), 2) := by decide +kernel
theorem dX10_off_10 : decode cX10_off 10 = .ok (.ireturn, 1) := by decide +kernel
theorem dX10_off_11 : decode cX10_off 11 = .ok (.aload_n 0, 1) := by decide +kernel
theorem dX10_off_12 : decode cX10_off 12 = .ok (.invokevirtual 144, 3) := by decide +kernel
theorem dX10_off_15 : decode cX10_off 15 = .ok (.ifCond .ne 6, 3) := by decide +kernel
theorem dX10_off_18 : decode cX10_off 18 = .ok (.bipush (-103), 2) := by decide +kernel
theorem dX10_off_20 : decode cX10_off 20 = .ok (.ireturn, 1) := by decide +kernel
theorem dX10_off_21 : decode cX10_off 21 = .ok (.aload_n 0, 1) := by decide +kernel
theorem dX10_off_22 : decode cX10_off 22 = .ok (.aload_n 0, 1) := by decide +kernel
theorem dX10_off_23 : decode cX10_off 23 = .ok (.getfield 58, 3) := by decide +kernel
theorem dX10_off_26 : decode cX10_off 26 = .ok (.iload_n 1, 1) := by decide +kernel
theorem dX10_off_27 : decode cX10_off 27 = .ok (.aaload, 1) := by decide +kernel
theorem dX10_off_28 : decode cX10_off 28 = .ok (.aload_n 0, 1) := by decide +kernel
theorem dX10_off_29 : decode cX10_off 29 = .ok (.getfield 75, 3) := by decide +kernel
theorem dX10_off_32 : decode cX10_off 32 = .ok (.invokevirtual 225, 3) := by decide +kernel
theorem dX10_off_35 : decode cX10_off 35 = .ok (.aload_n 0, 1) := by decide +kernel
theorem dX10_off_36 : decode cX10_off 36 = .ok (.invokevirtual 229, 3) := by decide +kernel
theorem dX10_off_39 : decode cX10_off 39 = .ok (.ireturn, 1) := by decide +kernel
set_option maxHeartbeats 4000000 in
set_option maxRecDepth 100000 in
theorem c_X10_off (l : Launch) (E : zE) (n : Nat) (h : zH) (a0 : Nat) (p0 : Int32) (res : Int32 × zH) (hf : F_X10_off n h a0 p0 = some res) : Met l yX10_off (zw yX10_off cX10_off 2 (some .int)) ({ frames := 5, cells := 0, slots := 0, locals := 122 } : Room) (zPc E h [.ref (zB E + a0), .int p0]) (zQc E res.2 (some (.int res.1))) 0 0 (zfr E) := by
  refine zmet (lo := [(0, .ref (zB E + a0)), (1, .int p0)]) (by decide +kernel) (Nat.le_of_ble_eq_true rfl) rfl ?_
  intro p e s m args below meth c C hr hin
  unfold F_X10_off at hf
  refine zr_aload_n C dX10_off_0 rfl 0 rfl ?_
  refine zr_iload_n C dX10_off_1 rfl 1 rfl ?_
  refine zr_callVi (As := [.int p0]) (rest := []) C hf (fun x hx => c_X10_hasRow l E n h a0 p0 x hx) kv_X10_222 rfl rfl (Nat.le_of_ble_eq_true rfl) ⟨rfl, rfl⟩ ⟨Nat.le_of_ble_eq_true rfl, Nat.le_of_ble_eq_true rfl⟩ ⟨Nat.le_of_ble_eq_true rfl, Nat.le_of_ble_eq_true rfl⟩ dX10_off_2 (fun x2 h1 hf => ?_)
  refine zr_if_ne (tgt := 11) C hf dX10_off_5 (by decide) (fun hf => ?_) (fun hf => ?_)
  · refine zr_aload_n C dX10_off_11 rfl 0 rfl ?_
    refine zr_callVi (As := []) (rest := []) C hf (fun x hx => c_X10_hasCup l E n h1 a0 x hx) kv_X10_144 rfl rfl (Nat.le_of_ble_eq_true rfl) ⟨rfl, rfl⟩ ⟨Nat.le_of_ble_eq_true rfl, Nat.le_of_ble_eq_true rfl⟩ ⟨Nat.le_of_ble_eq_true rfl, Nat.le_of_ble_eq_true rfl⟩ dX10_off_12 (fun x4 h3 hf => ?_)
    refine zr_if_ne (tgt := 21) C hf dX10_off_15 (by decide) (fun hf => ?_) (fun hf => ?_)
    · refine zr_aload_n C dX10_off_21 rfl 0 rfl ?_
      refine zr_aload_n C dX10_off_22 rfl 0 rfl ?_
      refine zr_gr C hf kg_X10_58 (fun _ _ _ => rfl) dX10_off_23 (fun w5 hf => ?_)
      refine zr_iload_n C dX10_off_26 rfl 1 rfl ?_
      refine zr_aaload (t0 := 5) C hf (by decide) rfl rfl dX10_off_27 (fun w6 hf => ?_)
      refine zr_aload_n C dX10_off_28 rfl 0 rfl ?_
      refine zr_gr C hf kg_X10_75 (fun _ _ _ => rfl) dX10_off_29 (fun w7 hf => ?_)
      refine zr_callVv (As := [.ref (zB E + w6), .ref (zB E + w7)]) (rest := []) C hf (fun x hx => c_X10_tryRow l E n h3 a0 w6 w7 x hx) kv_X10_225 rfl rfl (Nat.le_of_ble_eq_true rfl) ⟨rfl, rfl⟩ ⟨Nat.le_of_ble_eq_true rfl, Nat.le_of_ble_eq_true rfl⟩ ⟨Nat.le_of_ble_eq_true rfl, Nat.le_of_ble_eq_true rfl⟩ dX10_off_32 (fun _ h8 hf => ?_)
      refine zr_aload_n C dX10_off_35 rfl 0 rfl ?_
      refine zr_callVi (As := []) (rest := []) C hf (fun x hx => c_X10_offInTrial l E n h8 a0 x hx) kv_X10_229 rfl rfl (Nat.le_of_ble_eq_true rfl) ⟨rfl, rfl⟩ ⟨Nat.le_of_ble_eq_true rfl, Nat.le_of_ble_eq_true rfl⟩ ⟨Nat.le_of_ble_eq_true rfl, Nat.le_of_ble_eq_true rfl⟩ dX10_off_36 (fun x10 h9 hf => ?_)
      exact zr_ireturn C hf hr (Nat.le_of_ble_eq_true rfl) (Nat.le_of_ble_eq_true rfl) dX10_off_39
    · refine zr_bipush (v := -103) C dX10_off_18 (by decide) ?_
      exact zr_ireturn C hf hr (Nat.le_of_ble_eq_true rfl) (Nat.le_of_ble_eq_true rfl) dX10_off_20
  · refine zr_bipush (v := -101) C dX10_off_8 (by decide) ?_
    exact zr_ireturn C hf hr (Nat.le_of_ble_eq_true rfl) (Nat.le_of_ble_eq_true rfl) dX10_off_10
theorem dX10_offOfStirring_0 : decode cX10_offOfStirring 0 = .ok (.aload_n 0, 1) := by decide +kernel
theorem dX10_offOfStirring_1 : decode cX10_offOfStirring 1 = .ok (.getfield 89, 3) := by decide +kernel
theorem dX10_offOfStirring_4 : decode cX10_offOfStirring 4 = .ok (.aload_n 0, 1) := by decide +kernel
theorem dX10_offOfStirring_5 : decode cX10_offOfStirring 5 = .ok (.getfield 75, 3) := by decide +kernel
theorem dX10_offOfStirring_8 : decode cX10_offOfStirring 8 = .ok (.invokevirtual 131, 3) := by decide +kernel
theorem dX10_offOfStirring_11 : decode cX10_offOfStirring 11 = .ok (.aload_n 0, 1) := by decide +kernel
theorem dX10_offOfStirring_12 : decode cX10_offOfStirring 12 = .ok (.getfield 89, 3) := by decide +kernel
theorem dX10_offOfStirring_15 : decode cX10_offOfStirring 15 = .ok (.aload_n 0, 1) := by decide +kernel
theorem dX10_offOfStirring_16 : decode cX10_offOfStirring 16 = .ok (.getfield 36, 3) := by decide +kernel
theorem dX10_offOfStirring_19 : decode cX10_offOfStirring 19 = .ok (.aload_n 0, 1) := by decide +kernel
theorem dX10_offOfStirring_20 : decode cX10_offOfStirring 20 = .ok (.getfield 75, 3) := by decide +kernel
theorem dX10_offOfStirring_23 : decode cX10_offOfStirring 23 = .ok (.aload_n 1, 1) := by decide +kernel
theorem dX10_offOfStirring_24 : decode cX10_offOfStirring 24 = .ok (.iload_n 2, 1) := by decide +kernel
theorem dX10_offOfStirring_25 : decode cX10_offOfStirring 25 = .ok (.invokevirtual 204, 3) := by decide +kernel
theorem dX10_offOfStirring_28 : decode cX10_offOfStirring 28 = .ok (.aload_n 0, 1) := by decide +kernel
theorem dX10_offOfStirring_29 : decode cX10_offOfStirring 29 = .ok (.getfield 89, 3) := by decide +kernel
theorem dX10_offOfStirring_32 : decode cX10_offOfStirring 32 = .ok (.aload_n 0, 1) := by decide +kernel
theorem dX10_offOfStirring_33 : decode cX10_offOfStirring 33 = .ok (.getfield 36, 3) := by decide +kernel
theorem dX10_offOfStirring_36 : decode cX10_offOfStirring 36 = .ok (.aload_n 0, 1) := by decide +kernel
theorem dX10_offOfStirring_37 : decode cX10_offOfStirring 37 = .ok (.getfield 75, 3) := by decide +kernel
theorem dX10_offOfStirring_40 : decode cX10_offOfStirring 40 = .ok (.aload_n 0, 1) := by decide +kernel
theorem dX10_offOfStirring_41 : decode cX10_offOfStirring 41 = .ok (.getfield 21, 3) := by decide +kernel
theorem dX10_offOfStirring_44 : decode cX10_offOfStirring 44 = .ok (.bipush 60, 2) := by decide +kernel
theorem dX10_offOfStirring_46 : decode cX10_offOfStirring 46 = .ok (.invokevirtual 204, 3) := by decide +kernel
theorem dX10_offOfStirring_49 : decode cX10_offOfStirring 49 = .ok (.aload_n 0, 1) := by decide +kernel
theorem dX10_offOfStirring_50 : decode cX10_offOfStirring 50 = .ok (.invokevirtual 229, 3) := by decide +kernel
theorem dX10_offOfStirring_53 : decode cX10_offOfStirring 53 = .ok (.ireturn, 1) := by decide +kernel
set_option maxHeartbeats 4000000 in
set_option maxRecDepth 100000 in
theorem c_X10_offOfStirring (l : Launch) (E : zE) (n : Nat) (h : zH) (a0 : Nat) (p0 : Nat) (p1 : Int32) (res : Int32 × zH) (hf : F_X10_offOfStirring n h a0 p0 p1 = some res) : Met l yX10_offOfStirring (zw yX10_offOfStirring cX10_offOfStirring 3 (some .int)) ({ frames := 4, cells := 0, slots := 0, locals := 99 } : Room) (zPc E h [.ref (zB E + a0), .ref (zB E + p0), .int p1]) (zQc E res.2 (some (.int res.1))) 0 0 (zfr E) := by
  refine zmet (lo := [(0, .ref (zB E + a0)), (1, .ref (zB E + p0)), (2, .int p1)]) (by decide +kernel) (Nat.le_of_ble_eq_true rfl) rfl ?_
  intro p e s m args below meth c C hr hin
  unfold F_X10_offOfStirring at hf
  refine zr_aload_n C dX10_offOfStirring_0 rfl 0 rfl ?_
  refine zr_gr C hf kg_X10_89 (fun _ _ _ => rfl) dX10_offOfStirring_1 (fun w1 hf => ?_)
  refine zr_aload_n C dX10_offOfStirring_4 rfl 0 rfl ?_
  refine zr_gr C hf kg_X10_75 (fun _ _ _ => rfl) dX10_offOfStirring_5 (fun w2 hf => ?_)
  refine zr_callVv (As := [.ref (zB E + w2)]) (rest := []) C hf (fun x hx => c_X0_calm l E n h w1 w2 x hx) kv_X10_131 rfl rfl (Nat.le_of_ble_eq_true rfl) ⟨rfl, rfl⟩ ⟨Nat.le_of_ble_eq_true rfl, Nat.le_of_ble_eq_true rfl⟩ ⟨Nat.le_of_ble_eq_true rfl, Nat.le_of_ble_eq_true rfl⟩ dX10_offOfStirring_8 (fun _ h3 hf => ?_)
  refine zr_aload_n C dX10_offOfStirring_11 rfl 0 rfl ?_
  refine zr_gr C hf kg_X10_89 (fun _ _ _ => rfl) dX10_offOfStirring_12 (fun w4 hf => ?_)
  refine zr_aload_n C dX10_offOfStirring_15 rfl 0 rfl ?_
  refine zr_gr C hf kg_X10_36 (fun _ _ _ => rfl) dX10_offOfStirring_16 (fun w5 hf => ?_)
  refine zr_aload_n C dX10_offOfStirring_19 rfl 0 rfl ?_
  refine zr_gr C hf kg_X10_75 (fun _ _ _ => rfl) dX10_offOfStirring_20 (fun w6 hf => ?_)
  refine zr_aload_n C dX10_offOfStirring_23 rfl 1 rfl ?_
  refine zr_iload_n C dX10_offOfStirring_24 rfl 2 rfl ?_
  refine zr_callVv (As := [.ref (zB E + w5), .ref (zB E + w6), .ref (zB E + p0), .int p1]) (rest := []) C hf (fun x hx => c_X0_doTicks l E n h3 w4 w5 w6 p0 p1 x hx) kv_X10_204 rfl rfl (Nat.le_of_ble_eq_true rfl) ⟨rfl, rfl⟩ ⟨Nat.le_of_ble_eq_true rfl, Nat.le_of_ble_eq_true rfl⟩ ⟨Nat.le_of_ble_eq_true rfl, Nat.le_of_ble_eq_true rfl⟩ dX10_offOfStirring_25 (fun _ h7 hf => ?_)
  refine zr_aload_n C dX10_offOfStirring_28 rfl 0 rfl ?_
  refine zr_gr C hf kg_X10_89 (fun _ _ _ => rfl) dX10_offOfStirring_29 (fun w8 hf => ?_)
  refine zr_aload_n C dX10_offOfStirring_32 rfl 0 rfl ?_
  refine zr_gr C hf kg_X10_36 (fun _ _ _ => rfl) dX10_offOfStirring_33 (fun w9 hf => ?_)
  refine zr_aload_n C dX10_offOfStirring_36 rfl 0 rfl ?_
  refine zr_gr C hf kg_X10_75 (fun _ _ _ => rfl) dX10_offOfStirring_37 (fun w10 hf => ?_)
  refine zr_aload_n C dX10_offOfStirring_40 rfl 0 rfl ?_
  refine zr_gr C hf kg_X10_21 (fun _ _ _ => rfl) dX10_offOfStirring_41 (fun w11 hf => ?_)
  refine zr_bipush (v := 60) C dX10_offOfStirring_44 (by decide) ?_
  refine zr_callVv (As := [.ref (zB E + w9), .ref (zB E + w10), .ref (zB E + w11), .int (60 : Int32)]) (rest := []) C hf (fun x hx => c_X0_doTicks l E n h7 w8 w9 w10 w11 (60 : Int32) x hx) kv_X10_204 rfl rfl (Nat.le_of_ble_eq_true rfl) ⟨rfl, rfl⟩ ⟨Nat.le_of_ble_eq_true rfl, Nat.le_of_ble_eq_true rfl⟩ ⟨Nat.le_of_ble_eq_true rfl, Nat.le_of_ble_eq_true rfl⟩ dX10_offOfStirring_46 (fun _ h12 hf => ?_)
  refine zr_aload_n C dX10_offOfStirring_49 rfl 0 rfl ?_
  refine zr_callVi (As := []) (rest := []) C hf (fun x hx => c_X10_offInTrial l E n h12 a0 x hx) kv_X10_229 rfl rfl (Nat.le_of_ble_eq_true rfl) ⟨rfl, rfl⟩ ⟨Nat.le_of_ble_eq_true rfl, Nat.le_of_ble_eq_true rfl⟩ ⟨Nat.le_of_ble_eq_true rfl, Nat.le_of_ble_eq_true rfl⟩ dX10_offOfStirring_50 (fun x14 h13 hf => ?_)
  exact zr_ireturn C hf hr (Nat.le_of_ble_eq_true rfl) (Nat.le_of_ble_eq_true rfl) dX10_offOfStirring_53
theorem dX10_found_0 : decode cX10_found 0 = .ok (.aload_n 0, 1) := by decide +kernel
theorem dX10_found_1 : decode cX10_found 1 = .ok (.invokevirtual 144, 3) := by decide +kernel
theorem dX10_found_4 : decode cX10_found 4 = .ok (.ifCond .ne 6, 3) := by decide +kernel
theorem dX10_found_7 : decode cX10_found 7 = .ok (.bipush (-103), 2) := by decide +kernel
theorem dX10_found_9 : decode cX10_found 9 = .ok (.ireturn, 1) := by decide +kernel
theorem dX10_found_10 : decode cX10_found 10 = .ok (.iload_n 1, 1) := by decide +kernel
theorem dX10_found_11 : decode cX10_found 11 = .ok (.iconst 0, 1) := by decide +kernel
theorem dX10_found_12 : decode cX10_found 12 = .ok (.iconst 2, 1) := by decide +kernel
theorem dX10_found_13 : decode cX10_found 13 = .ok (.invokestatic 148, 3) := by decide +kernel
theorem dX10_found_16 : decode cX10_found 16 = .ok (.ifCond .ne 6, 3) := by decide +kernel
theorem dX10_found_19 : decode cX10_found 19 = .ok (.bipush (-102), 2) := by decide +kernel
theorem dX10_found_21 : decode cX10_found 21 = .ok (.ireturn, 1) := by decide +kernel
theorem dX10_found_22 : decode cX10_found 22 = .ok (.aload_n 0, 1) := by decide +kernel
theorem dX10_found_23 : decode cX10_found 23 = .ok (.getfield 103, 3) := by decide +kernel
theorem dX10_found_26 : decode cX10_found 26 = .ok (.bipush 12, 2) := by decide +kernel
theorem dX10_found_28 : decode cX10_found 28 = .ok (.if_icmp .lt 6, 3) := by decide +kernel
theorem dX10_found_31 : decode cX10_found 31 = .ok (.bipush (-103), 2) := by decide +kernel
theorem dX10_found_33 : decode cX10_found 33 = .ok (.ireturn, 1) := by decide +kernel
theorem dX10_found_34 : decode cX10_found 34 = .ok (.aload_n 0, 1) := by decide +kernel
theorem dX10_found_35 : decode cX10_found 35 = .ok (.dup, 1) := by decide +kernel
theorem dX10_found_36 : decode cX10_found 36 = .ok (.getfield 103, 3) := by decide +kernel
theorem dX10_found_39 : decode cX10_found 39 = .ok (.iconst 1, 1) := by decide +kernel
theorem dX10_found_40 : decode cX10_found 40 = .ok (.iadd, 1) := by decide +kernel
theorem dX10_found_41 : decode cX10_found 41 = .ok (.putfield 103, 3) := by decide +kernel
theorem dX10_found_44 : decode cX10_found 44 = .ok (.iconst 0, 1) := by decide +kernel
theorem dX10_found_45 : decode cX10_found 45 = .ok (.istore_n 2, 1) := by decide +kernel
theorem dX10_found_46 : decode cX10_found 46 = .ok (.iconst 0, 1) := by decide +kernel
theorem dX10_found_47 : decode cX10_found 47 = .ok (.istore_n 3, 1) := by decide +kernel
theorem dX10_found_48 : decode cX10_found 48 = .ok (.ldc 232, 2) := by decide +kernel
theorem dX10_found_50 : decode cX10_found 50 = .ok (.istore 4, 2) := by decide +kernel
theorem dX10_found_52 : decode cX10_found 52 = .ok (.iconst 1, 1) := by decide +kernel
theorem dX10_found_53 : decode cX10_found 53 = .ok (.istore 5, 2) := by decide +kernel
theorem dX10_found_55 : decode cX10_found 55 = .ok (.iload 5, 2) := by decide +kernel
theorem dX10_found_57 : decode cX10_found 57 = .ok (.bipush 20, 2) := by decide +kernel
theorem dX10_found_59 : decode cX10_found 59 = .ok (.if_icmp .gt 64, 3) := by decide +kernel
theorem dX10_found_62 : decode cX10_found 62 = .ok (.new 16, 3) := by decide +kernel
theorem dX10_found_65 : decode cX10_found 65 = .ok (.dup, 1) := by decide +kernel
theorem dX10_found_66 : decode cX10_found 66 = .ok (.iconst 1, 1) := by decide +kernel
theorem dX10_found_67 : decode cX10_found 67 = .ok (.iload 5, 2) := by decide +kernel
theorem dX10_found_69 : decode cX10_found 69 = .ok (.invokespecial 18, 3) := by decide +kernel
theorem dX10_found_72 : decode cX10_found 72 = .ok (.astore 6, 2) := by decide +kernel
theorem dX10_found_74 : decode cX10_found 74 = .ok (.iconst 1, 1) := by decide +kernel
theorem dX10_found_75 : decode cX10_found 75 = .ok (.istore 7, 2) := by decide +kernel
theorem dX10_found_77 : decode cX10_found 77 = .ok (.iload 7, 2) := by decide +kernel
theorem dX10_found_79 : decode cX10_found 79 = .ok (.bipush 20, 2) := by decide +kernel
theorem dX10_found_81 : decode cX10_found 81 = .ok (.if_icmp .gt 36, 3) := by decide +kernel
theorem dX10_found_84 : decode cX10_found 84 = .ok (.aload_n 0, 1) := by decide +kernel
theorem dX10_found_85 : decode cX10_found 85 = .ok (.aload 6, 2) := by decide +kernel
theorem dX10_found_87 : decode cX10_found 87 = .ok (.iload 7, 2) := by decide +kernel
theorem dX10_found_89 : decode cX10_found 89 = .ok (.invokevirtual 233, 3) := by decide +kernel
theorem dX10_found_92 : decode cX10_found 92 = .ok (.istore 8, 2) := by decide +kernel
theorem dX10_found_94 : decode cX10_found 94 = .ok (.iload 8, 2) := by decide +kernel
theorem dX10_found_96 : decode cX10_found 96 = .ok (.iload 4, 2) := by decide +kernel
theorem dX10_found_98 : decode cX10_found 98 = .ok (.if_icmp .ge 13, 3) := by decide +kernel
theorem dX10_found_101 : decode cX10_found 101 = .ok (.iload 8, 2) := by decide +kernel
theorem dX10_found_103 : decode cX10_found 103 = .ok (.istore 4, 2) := by decide +kernel
theorem dX10_found_105 : decode cX10_found 105 = .ok (.iload 5, 2) := by decide +kernel
theorem dX10_found_107 : decode cX10_found 107 = .ok (.istore_n 2, 1) := by decide +kernel
theorem dX10_found_108 : decode cX10_found 108 = .ok (.iload 7, 2) := by decide +kernel
theorem dX10_found_110 : decode cX10_found 110 = .ok (.istore_n 3, 1) := by decide +kernel
theorem dX10_found_111 : decode cX10_found 111 = .ok (.iinc 7 1, 3) := by decide +kernel
theorem dX10_found_114 : decode cX10_found 114 = .ok (.goto (-37), 3) := by decide +kernel
theorem dX10_found_117 : decode cX10_found 117 = .ok (.iinc 5 1, 3) := by decide +kernel
theorem dX10_found_120 : decode cX10_found 120 = .ok (.goto (-65), 3) := by decide +kernel
theorem dX10_found_123 : decode cX10_found 123 = .ok (.iload_n 1, 1) := by decide +kernel
theorem dX10_found_124 : decode cX10_found 124 = .ok (.ifCond .ne 7, 3) := by decide +kernel
theorem dX10_found_127 : decode cX10_found 127 = .ok (.iload_n 2, 1) := by decide +kernel
theorem dX10_found_128 : decode cX10_found 128 = .ok (.goto 14, 3) := by decide +kernel
theorem dX10_found_131 : decode cX10_found 131 = .ok (.iload_n 1, 1) := by decide +kernel
theorem dX10_found_132 : decode cX10_found 132 = .ok (.iconst 1, 1) := by decide +kernel
theorem dX10_found_133 : decode cX10_found 133 = .ok (.if_icmp .ne 7, 3) := by decide +kernel
theorem dX10_found_136 : decode cX10_found 136 = .ok (.iload_n 3, 1) := by decide +kernel
theorem dX10_found_137 : decode cX10_found 137 = .ok (.goto 5, 3) := by decide +kernel
theorem dX10_found_140 : decode cX10_found 140 = .ok (.iload 4, 2) := by decide +kernel
theorem dX10_found_142 : decode cX10_found 142 = .ok (.ireturn, 1) := by decide +kernel
set_option maxHeartbeats 4000000 in
set_option maxRecDepth 100000 in
theorem c_X10_found (l : Launch) (E : zE) (n : Nat) (h : zH) (a0 : Nat) (p0 : Int32) (res : Int32 × zH) (hf : F_X10_found n h a0 p0 = some res) : Met l yX10_found (zw yX10_found cX10_found 9 (some .int)) ({ frames := 5, cells := 20, slots := 40, locals := 121 } : Room) (zPc E h [.ref (zB E + a0), .int p0]) (zQc E res.2 (some (.int res.1))) 20 40 (zfr E) := by
  refine zmet (lo := [(0, .ref (zB E + a0)), (1, .int p0)]) (by decide +kernel) (Nat.le_of_ble_eq_true rfl) rfl ?_
  intro p e s m args below meth c C hr hin
  unfold F_X10_found at hf
  have J142 : ∀ (h4 : zH) (x3 : Int32), F_X10_found_J142 n h4 x3 = some res → zW p l e (headSpec (zw yX10_found cX10_found 9 (some .int)) ({ frames := 5, cells := 20, slots := 40, locals := 121 } : Room)).room s m args below meth c E 9 (MQ below (zQc E res.2 (some (.int res.1))) args s 20 40 (zfr E)) 20 40 142 [] [.int x3] h4 := by
    intro h4 x3 hf
    unfold F_X10_found_J142 at hf
    exact zr_ireturn C hf hr (by omega) (by omega) dX10_found_142
  refine zr_aload_n C dX10_found_0 rfl 0 rfl ?_
  refine zr_callVi (As := []) (rest := []) C hf (fun x hx => c_X10_hasCup l E n h a0 x hx) kv_X10_144 rfl rfl (Nat.le_of_ble_eq_true rfl) ⟨rfl, rfl⟩ ⟨Nat.le_of_ble_eq_true rfl, Nat.le_of_ble_eq_true rfl⟩ ⟨Nat.le_of_ble_eq_true rfl, Nat.le_of_ble_eq_true rfl⟩ dX10_found_1 (fun x6 h5 hf => ?_)
  refine zr_if_ne (tgt := 10) C hf dX10_found_4 (by decide) (fun hf => ?_) (fun hf => ?_)
  · refine zr_iload_n C dX10_found_10 rfl 1 rfl ?_
    refine zr_iconst (v := 0) C dX10_found_11 (by decide) ?_
    refine zr_iconst (v := 2) C dX10_found_12 (by decide) ?_
    refine zr_callSi (As := [.int p0, .int (0 : Int32), .int (2 : Int32)]) (rest := []) C hf (fun x hx => c_X10_isWithin l E n h5 p0 (0 : Int32) (2 : Int32) x hx) ks_X10_148 rfl rfl (Nat.le_of_ble_eq_true rfl) ⟨rfl, rfl⟩ ⟨Nat.le_of_ble_eq_true rfl, Nat.le_of_ble_eq_true rfl⟩ ⟨Nat.le_of_ble_eq_true rfl, Nat.le_of_ble_eq_true rfl⟩ dX10_found_13 (fun x8 h7 hf => ?_)
    refine zr_if_ne (tgt := 22) C hf dX10_found_16 (by decide) (fun hf => ?_) (fun hf => ?_)
    · refine zr_aload_n C dX10_found_22 rfl 0 rfl ?_
      refine zr_gi C hf kg_X10_103 (fun _ _ _ => rfl) dX10_found_23 (fun x9 hf => ?_)
      refine zr_bipush (v := 12) C dX10_found_26 (by decide) ?_
      refine zr_icmp_lt (tgt := 34) C hf dX10_found_28 (by decide) (fun hf => ?_) (fun hf => ?_)
      · refine zr_aload_n C dX10_found_34 rfl 0 rfl ?_
        refine zr_dup C dX10_found_35 rfl ?_
        refine zr_gi C hf kg_X10_103 (fun _ _ _ => rfl) dX10_found_36 (fun x10 hf => ?_)
        refine zr_iconst (v := 1) C dX10_found_39 (by decide) ?_
        refine zr_iadd C hf dX10_found_40 (fun x11 hf => ?_)
        refine zr_si C hf kp_X10_103 (fun _ _ _ => rfl) rfl dX10_found_41 (fun h12 hf => ?_)
        refine zr_iconst (v := 0) C dX10_found_44 (by decide) ?_
        refine zr_istore_n (lo2 := [(2, .int (0 : Int32)), (0, .ref (zB E + a0)), (1, .int p0)]) C dX10_found_45 rfl (by decide) rfl ?_
        refine zr_iconst (v := 0) C dX10_found_46 (by decide) ?_
        refine zr_istore_n (lo2 := [(3, .int (0 : Int32)), (2, .int (0 : Int32)), (0, .ref (zB E + a0)), (1, .int p0)]) C dX10_found_47 rfl (by decide) rfl ?_
        refine zr_ldc (v := 1000000) C zt713 dX10_found_48 ?_
        refine zr_istore (lo2 := [(4, .int (1000000 : Int32)), (3, .int (0 : Int32)), (2, .int (0 : Int32)), (0, .ref (zB E + a0)), (1, .int p0)]) C dX10_found_50 (by decide) rfl ?_
        refine zr_iconst (v := 1) C dX10_found_52 (by decide) ?_
        refine zr_istore (lo2 := [(5, .int (1 : Int32)), (4, .int (1000000 : Int32)), (3, .int (0 : Int32)), (2, .int (0 : Int32)), (0, .ref (zB E + a0)), (1, .int p0)]) C dX10_found_53 (by decide) rfl ?_
        have L55 : ∀ (fu : Nat) (x : zH × Int32 × Int32 × Int32 × Int32 × Nat), zloop (fun kc x => F_X10_found_B55 n kc x.2.2.2.2.2 x.1 a0 p0 x.2.1 x.2.2.1 x.2.2.2.1 x.2.2.2.2.1) fu x = some res → zW p l e (headSpec (zw yX10_found cX10_found 9 (some .int)) ({ frames := 5, cells := 20, slots := 40, locals := 121 } : Room)).room s m args below meth c E 9 (MQ below (zQc E res.2 (some (.int res.1))) args s 20 40 (zfr E)) x.2.2.2.2.2 (2 * x.2.2.2.2.2) 55 [(0, .ref (zB E + a0)), (1, .int p0), (2, .int x.2.1), (3, .int x.2.2.1), (4, .int x.2.2.2.1), (5, .int x.2.2.2.2.1)] [] x.1 := by
          refine z_loop _ ?_
          intro kc55 hk55 x hf
          obtain ⟨h63, x59, x60, x61, x62, gn⟩ := x
          dsimp only at hf ⊢
          unfold F_X10_found_B55 at hf
          obtain ⟨hg20, hf⟩ := zif hf
          refine zr_iload C dX10_found_55 5 rfl ?_
          refine zr_bipush (v := 20) C dX10_found_57 (by decide) ?_
          refine zr_icmp_gt (tgt := 123) C hf dX10_found_59 (by decide) (fun hf => ?_) (fun hf => ?_)
          · refine zwiden (k := 20) (n := 40) (by omega) (by omega) ?_
            refine zr_iload_n C dX10_found_123 rfl 1 rfl ?_
            refine zr_if_ne (tgt := 131) C hf dX10_found_124 (by decide) (fun hf => ?_) (fun hf => ?_)
            · refine zr_iload_n C dX10_found_131 rfl 1 rfl ?_
              refine zr_iconst (v := 1) C dX10_found_132 (by decide) ?_
              refine zr_icmp_ne (tgt := 140) C hf dX10_found_133 (by decide) (fun hf => ?_) (fun hf => ?_)
              · refine zr_iload C dX10_found_140 4 rfl ?_
                refine zsub [] rfl ?_
                exact J142 h63 x61 hf
              · refine zr_iload_n C dX10_found_136 rfl 3 rfl ?_
                refine zr_goto (tgt := 142) C dX10_found_137 (by decide) ?_
                refine zsub [] rfl ?_
                exact J142 h63 x60 hf
            · refine zr_iload_n C dX10_found_127 rfl 2 rfl ?_
              refine zr_goto (tgt := 142) C dX10_found_128 (by decide) ?_
              refine zsub [] rfl ?_
              exact J142 h63 x59 hf
          · obtain ⟨hgn, hf⟩ := zif hf
            refine zr_new C hf kw_X10_16 (by show _ ≤ 20; omega) (by show _ ≤ 40; omega) dX10_found_62 (fun w64 h65 hf => ?_)
            refine zwiden (k := gn + 1) (n := 2 * gn + 2) (by omega) (by omega) ?_
            refine zr_dup C dX10_found_65 rfl ?_
            refine zr_iconst (v := 1) C dX10_found_66 (by decide) ?_
            refine zr_iload C dX10_found_67 5 rfl ?_
            refine zr_callI (As := [.int (1 : Int32), .int x62]) (rest := [.ref (zB E + w64)]) C hf (fun x hx => c_X2_init l E n h65 w64 (1 : Int32) x62 x hx) ki_X10_18 rfl rfl (Nat.le_of_ble_eq_true rfl) ⟨rfl, rfl⟩ ⟨Nat.le_of_ble_eq_true rfl, Nat.le_of_ble_eq_true rfl⟩ ⟨by show _ ≤ 20; omega, by show _ ≤ 40; omega⟩ dX10_found_69 (fun _ h66 hf => ?_)
            refine zr_astore (lo2 := [(6, .ref (zB E + w64)), (0, .ref (zB E + a0)), (1, .int p0), (2, .int x59), (3, .int x60), (4, .int x61), (5, .int x62)]) C dX10_found_72 (by decide) rfl ?_
            refine zr_iconst (v := 1) C dX10_found_74 (by decide) ?_
            refine zr_istore (lo2 := [(7, .int (1 : Int32)), (6, .ref (zB E + w64)), (0, .ref (zB E + a0)), (1, .int p0), (2, .int x59), (3, .int x60), (4, .int x61), (5, .int x62)]) C dX10_found_75 (by decide) rfl ?_
            have L77 : ∀ (fu : Nat) (x : zH × Int32 × Int32 × Int32 × Int32), zloop (fun kc x => F_X10_found_B77 n kc55 kc gn x.1 a0 p0 x.2.1 x.2.2.1 x.2.2.2.1 x62 w64 x.2.2.2.2) fu x = some res → zW p l e (headSpec (zw yX10_found cX10_found 9 (some .int)) ({ frames := 5, cells := 20, slots := 40, locals := 121 } : Room)).room s m args below meth c E 9 (MQ below (zQc E res.2 (some (.int res.1))) args s 20 40 (zfr E)) (gn + 1) (2 * gn + 2) 77 [(0, .ref (zB E + a0)), (1, .int p0), (2, .int x.2.1), (3, .int x.2.2.1), (4, .int x.2.2.2.1), (5, .int x62), (6, .ref (zB E + w64)), (7, .int x.2.2.2.2)] [] x.1 := by
              refine z_loop _ ?_
              intro kc77 hk77 x hf
              obtain ⟨h71, x67, x68, x69, x70⟩ := x
              dsimp only at hf ⊢
              unfold F_X10_found_B77 at hf
              have J111 : ∀ (h76 : zH) (x72 : Int32) (x73 : Int32) (x74 : Int32) (x75 : Int32), F_X10_found_J111 n kc55 kc77 gn h76 a0 p0 x72 x73 x74 x62 w64 x75 = some res → zW p l e (headSpec (zw yX10_found cX10_found 9 (some .int)) ({ frames := 5, cells := 20, slots := 40, locals := 121 } : Room)).room s m args below meth c E 9 (MQ below (zQc E res.2 (some (.int res.1))) args s 20 40 (zfr E)) (gn + 1) (2 * gn + 2) 111 [(0, .ref (zB E + a0)), (1, .int p0), (2, .int x72), (3, .int x73), (4, .int x74), (5, .int x62), (6, .ref (zB E + w64)), (7, .int x75)] [] h76 := by
                intro h76 x72 x73 x74 x75 hf
                unfold F_X10_found_J111 at hf
                refine zr_iinc (v0 := 1) (k := 7) (f := fun v => [(7, .int v), (0, .ref (zB E + a0)), (1, .int p0), (2, .int x72), (3, .int x73), (4, .int x74), (5, .int x62), (6, .ref (zB E + w64))]) C hf (by decide) dX10_found_111 rfl (by decide) (fun v => rfl) (fun x77 hf => ?_)
                refine zr_goto (tgt := 77) C dX10_found_114 (by decide) ?_
                refine zsub [1, 2, 3, 4, 5, 6, 7, 0] rfl ?_
                exact hk77 (h76, x72, x73, x74, x77) hf
              refine zr_iload C dX10_found_77 7 rfl ?_
              refine zr_bipush (v := 20) C dX10_found_79 (by decide) ?_
              refine zr_icmp_gt (tgt := 117) C hf dX10_found_81 (by decide) (fun hf => ?_) (fun hf => ?_)
              · refine zr_iinc (v0 := 1) (k := 5) (f := fun v => [(5, .int v), (0, .ref (zB E + a0)), (1, .int p0), (2, .int x67), (3, .int x68), (4, .int x69), (6, .ref (zB E + w64)), (7, .int x70)]) C hf (by decide) dX10_found_117 rfl (by decide) (fun v => rfl) (fun x78 hf => ?_)
                refine zr_goto (tgt := 55) C dX10_found_120 (by decide) ?_
                refine zsub [1, 2, 3, 4, 5, 0] rfl ?_
                refine zwiden (k := gn + 1) (n := 2 * (gn + 1)) (by omega) (by omega) ?_
                exact hk55 (h71, x67, x68, x69, x78, gn + 1) hf
              · refine zr_aload_n C dX10_found_84 rfl 0 rfl ?_
                refine zr_aload C dX10_found_85 6 rfl ?_
                refine zr_iload C dX10_found_87 7 rfl ?_
                refine zr_callVi (As := [.ref (zB E + w64), .int x70]) (rest := []) C hf (fun x hx => c_X10_offOfStirring l E n h71 a0 w64 x70 x hx) kv_X10_233 rfl rfl (Nat.le_of_ble_eq_true rfl) ⟨rfl, rfl⟩ ⟨Nat.le_of_ble_eq_true rfl, Nat.le_of_ble_eq_true rfl⟩ ⟨by show _ ≤ 20; omega, by show _ ≤ 40; omega⟩ dX10_found_89 (fun x80 h79 hf => ?_)
                refine zr_istore (lo2 := [(8, .int x80), (0, .ref (zB E + a0)), (1, .int p0), (2, .int x67), (3, .int x68), (4, .int x69), (5, .int x62), (6, .ref (zB E + w64)), (7, .int x70)]) C dX10_found_92 (by decide) rfl ?_
                refine zr_iload C dX10_found_94 0 rfl ?_
                refine zr_iload C dX10_found_96 5 rfl ?_
                refine zr_icmp_ge (tgt := 111) C hf dX10_found_98 (by decide) (fun hf => ?_) (fun hf => ?_)
                · refine zsub [1, 2, 3, 4, 5, 6, 7, 8] rfl ?_
                  exact J111 h79 x67 x68 x69 x70 hf
                · refine zr_iload C dX10_found_101 0 rfl ?_
                  refine zr_istore (lo2 := [(4, .int x80), (8, .int x80), (0, .ref (zB E + a0)), (1, .int p0), (2, .int x67), (3, .int x68), (5, .int x62), (6, .ref (zB E + w64)), (7, .int x70)]) C dX10_found_103 (by decide) rfl ?_
                  refine zr_iload C dX10_found_105 6 rfl ?_
                  refine zr_istore_n (lo2 := [(2, .int x62), (4, .int x80), (8, .int x80), (0, .ref (zB E + a0)), (1, .int p0), (3, .int x68), (5, .int x62), (6, .ref (zB E + w64)), (7, .int x70)]) C dX10_found_107 rfl (by decide) rfl ?_
                  refine zr_iload C dX10_found_108 8 rfl ?_
                  refine zr_istore_n (lo2 := [(3, .int x70), (2, .int x62), (4, .int x80), (8, .int x80), (0, .ref (zB E + a0)), (1, .int p0), (5, .int x62), (6, .ref (zB E + w64)), (7, .int x70)]) C dX10_found_110 rfl (by decide) rfl ?_
                  refine zsub [4, 5, 1, 0, 2, 6, 7, 8] rfl ?_
                  exact J111 h79 x62 x70 x80 x70 hf
            refine zsub [2, 3, 4, 5, 6, 7, 1, 0] rfl ?_
            exact L77 n (h66, x59, x60, x61, (1 : Int32)) hf
        refine zsub [4, 5, 3, 2, 1, 0] rfl ?_
        exact L55 n (h12, (0 : Int32), (0 : Int32), (1000000 : Int32), (1 : Int32), 0) hf
      · refine zr_bipush (v := -103) C dX10_found_31 (by decide) ?_
        exact zr_ireturn C hf hr (by omega) (by omega) dX10_found_33
    · refine zr_bipush (v := -102) C dX10_found_19 (by decide) ?_
      exact zr_ireturn C hf hr (by omega) (by omega) dX10_found_21
  · refine zr_bipush (v := -103) C dX10_found_7 (by decide) ?_
    exact zr_ireturn C hf hr (by omega) (by omega) dX10_found_9
theorem dX10_seen_0 : decode cX10_seen 0 = .ok (.aload_n 0, 1) := by decide +kernel
theorem dX10_seen_1 : decode cX10_seen 1 = .ok (.getfield 75, 3) := by decide +kernel
theorem dX10_seen_4 : decode cX10_seen 4 = .ok (.iload_n 1, 1) := by decide +kernel
theorem dX10_seen_5 : decode cX10_seen 5 = .ok (.invokevirtual 177, 3) := by decide +kernel
theorem dX10_seen_8 : decode cX10_seen 8 = .ok (.ifCond .eq 19, 3) := by decide +kernel
theorem dX10_seen_11 : decode cX10_seen 11 = .ok (.iload_n 2, 1) := by decide +kernel
theorem dX10_seen_12 : decode cX10_seen 12 = .ok (.iconst (-1), 1) := by decide +kernel
theorem dX10_seen_13 : decode cX10_seen 13 = .ok (.if_icmp .eq 17, 3) := by decide +kernel
theorem dX10_seen_16 : decode cX10_seen 16 = .ok (.aload_n 0, 1) := by decide +kernel
theorem dX10_seen_17 : decode cX10_seen 17 = .ok (.getfield 36, 3) := by decide +kernel
theorem dX10_seen_20 : decode cX10_seen 20 = .ok (.iload_n 2, 1) := by decide +kernel
theorem dX10_seen_21 : decode cX10_seen 21 = .ok (.invokevirtual 170, 3) := by decide +kernel
theorem dX10_seen_24 : decode cX10_seen 24 = .ok (.ifCond .ne 6, 3) := by decide +kernel
theorem dX10_seen_27 : decode cX10_seen 27 = .ok (.bipush (-101), 2) := by decide +kernel
theorem dX10_seen_29 : decode cX10_seen 29 = .ok (.ireturn, 1) := by decide +kernel
theorem dX10_seen_30 : decode cX10_seen 30 = .ok (.aload_n 0, 1) := by decide +kernel
theorem dX10_seen_31 : decode cX10_seen 31 = .ok (.getfield 75, 3) := by decide +kernel
theorem dX10_seen_34 : decode cX10_seen 34 = .ok (.getfield 194, 3) := by decide +kernel
theorem dX10_seen_37 : decode cX10_seen 37 = .ok (.iload_n 1, 1) := by decide +kernel
theorem dX10_seen_38 : decode cX10_seen 38 = .ok (.iaload, 1) := by decide +kernel
theorem dX10_seen_39 : decode cX10_seen 39 = .ok (.istore_n 3, 1) := by decide +kernel
theorem dX10_seen_40 : decode cX10_seen 40 = .ok (.aload_n 0, 1) := by decide +kernel
theorem dX10_seen_41 : decode cX10_seen 41 = .ok (.getfield 75, 3) := by decide +kernel
theorem dX10_seen_44 : decode cX10_seen 44 = .ok (.getfield 194, 3) := by decide +kernel
theorem dX10_seen_47 : decode cX10_seen 47 = .ok (.iload_n 1, 1) := by decide +kernel
theorem dX10_seen_48 : decode cX10_seen 48 = .ok (.iload_n 2, 1) := by decide +kernel
theorem dX10_seen_49 : decode cX10_seen 49 = .ok (.iastore, 1) := by decide +kernel
theorem dX10_seen_50 : decode cX10_seen 50 = .ok (.iload_n 3, 1) := by decide +kernel
theorem dX10_seen_51 : decode cX10_seen 51 = .ok (.ireturn, 1) := by decide +kernel
set_option maxHeartbeats 4000000 in
set_option maxRecDepth 100000 in
theorem c_X10_seen (l : Launch) (E : zE) (n : Nat) (h : zH) (a0 : Nat) (p0 : Int32) (p1 : Int32) (res : Int32 × zH) (hf : F_X10_seen n h a0 p0 p1 = some res) : Met l yX10_seen (zw yX10_seen cX10_seen 4 (some .int)) ({ frames := 1, cells := 0, slots := 0, locals := 21 } : Room) (zPc E h [.ref (zB E + a0), .int p0, .int p1]) (zQc E res.2 (some (.int res.1))) 0 0 (zfr E) := by
  refine zmet (lo := [(0, .ref (zB E + a0)), (1, .int p0), (2, .int p1)]) (by decide +kernel) (Nat.le_of_ble_eq_true rfl) rfl ?_
  intro p e s m args below meth c C hr hin
  unfold F_X10_seen at hf
  have J30 : ∀ (h14 : zH) (w11 : Nat) (x12 : Int32) (x13 : Int32), F_X10_seen_J30 n h14 w11 x12 x13 = some res → zW p l e (headSpec (zw yX10_seen cX10_seen 4 (some .int)) ({ frames := 1, cells := 0, slots := 0, locals := 21 } : Room)).room s m args below meth c E 4 (MQ below (zQc E res.2 (some (.int res.1))) args s 0 0 (zfr E)) 0 0 30 [(0, .ref (zB E + w11)), (1, .int x12), (2, .int x13)] [] h14 := by
    intro h14 w11 x12 x13 hf
    unfold F_X10_seen_J30 at hf
    refine zr_aload_n C dX10_seen_30 rfl 0 rfl ?_
    refine zr_gr C hf kg_X10_75 (fun _ _ _ => rfl) dX10_seen_31 (fun w15 hf => ?_)
    refine zr_gr C hf kg_X10_194 (fun _ _ _ => rfl) dX10_seen_34 (fun w16 hf => ?_)
    refine zr_iload_n C dX10_seen_37 rfl 1 rfl ?_
    refine zr_iaload C hf dX10_seen_38 (fun x17 hf => ?_)
    refine zr_istore_n (lo2 := [(3, .int x17), (0, .ref (zB E + w11)), (1, .int x12), (2, .int x13)]) C dX10_seen_39 rfl (by decide) rfl ?_
    refine zr_aload_n C dX10_seen_40 rfl 1 rfl ?_
    refine zr_gr C hf kg_X10_75 (fun _ _ _ => rfl) dX10_seen_41 (fun w18 hf => ?_)
    refine zr_gr C hf kg_X10_194 (fun _ _ _ => rfl) dX10_seen_44 (fun w19 hf => ?_)
    refine zr_iload_n C dX10_seen_47 rfl 2 rfl ?_
    refine zr_iload_n C dX10_seen_48 rfl 3 rfl ?_
    refine zr_iastore C hf dX10_seen_49 (fun h20 hf => ?_)
    refine zr_iload_n C dX10_seen_50 rfl 0 rfl ?_
    exact zr_ireturn C hf hr (Nat.le_of_ble_eq_true rfl) (Nat.le_of_ble_eq_true rfl) dX10_seen_51
  have J27 : ∀ (h22 : zH), F_X10_seen_J27 n h22 = some res → zW p l e (headSpec (zw yX10_seen cX10_seen 4 (some .int)) ({ frames := 1, cells := 0, slots := 0, locals := 21 } : Room)).room s m args below meth c E 4 (MQ below (zQc E res.2 (some (.int res.1))) args s 0 0 (zfr E)) 0 0 27 [] [] h22 := by
    intro h22 hf
    unfold F_X10_seen_J27 at hf
    refine zr_bipush (v := -101) C dX10_seen_27 (by decide) ?_
    exact zr_ireturn C hf hr (Nat.le_of_ble_eq_true rfl) (Nat.le_of_ble_eq_true rfl) dX10_seen_29
  refine zr_aload_n C dX10_seen_0 rfl 0 rfl ?_
  refine zr_gr C hf kg_X10_75 (fun _ _ _ => rfl) dX10_seen_1 (fun w23 hf => ?_)
  refine zr_iload_n C dX10_seen_4 rfl 1 rfl ?_
  refine zr_callVi (As := [.int p0]) (rest := []) C hf (fun x hx => c_X4_has l E n h w23 p0 x hx) kv_X10_177 rfl rfl (Nat.le_of_ble_eq_true rfl) ⟨rfl, rfl⟩ ⟨Nat.le_of_ble_eq_true rfl, Nat.le_of_ble_eq_true rfl⟩ ⟨Nat.le_of_ble_eq_true rfl, Nat.le_of_ble_eq_true rfl⟩ dX10_seen_5 (fun x25 h24 hf => ?_)
  refine zr_if_eq (tgt := 27) C hf dX10_seen_8 (by decide) (fun hf => ?_) (fun hf => ?_)
  · refine zsub [] rfl ?_
    exact J27 h24 hf
  · refine zr_iload_n C dX10_seen_11 rfl 2 rfl ?_
    refine zr_iconst (v := -1) C dX10_seen_12 (by decide) ?_
    refine zr_icmp_eq (tgt := 30) C hf dX10_seen_13 (by decide) (fun hf => ?_) (fun hf => ?_)
    · exact J30 h24 a0 p0 p1 hf
    · refine zr_aload_n C dX10_seen_16 rfl 0 rfl ?_
      refine zr_gr C hf kg_X10_36 (fun _ _ _ => rfl) dX10_seen_17 (fun w26 hf => ?_)
      refine zr_iload_n C dX10_seen_20 rfl 2 rfl ?_
      refine zr_callVi (As := [.int p1]) (rest := []) C hf (fun x hx => c_X1_hasRing l E n h24 w26 p1 x hx) kv_X10_170 rfl rfl (Nat.le_of_ble_eq_true rfl) ⟨rfl, rfl⟩ ⟨Nat.le_of_ble_eq_true rfl, Nat.le_of_ble_eq_true rfl⟩ ⟨Nat.le_of_ble_eq_true rfl, Nat.le_of_ble_eq_true rfl⟩ dX10_seen_21 (fun x28 h27 hf => ?_)
      refine zr_if_ne (tgt := 30) C hf dX10_seen_24 (by decide) (fun hf => ?_) (fun hf => ?_)
      · exact J30 h27 a0 p0 p1 hf
      · refine zsub [] rfl ?_
        exact J27 h27 hf
theorem dX10_isTrialAsSeen_0 : decode cX10_isTrialAsSeen 0 = .ok (.iconst 0, 1) := by decide +kernel
theorem dX10_isTrialAsSeen_1 : decode cX10_isTrialAsSeen 1 = .ok (.istore_n 1, 1) := by decide +kernel
theorem dX10_isTrialAsSeen_2 : decode cX10_isTrialAsSeen 2 = .ok (.iload_n 1, 1) := by decide +kernel
theorem dX10_isTrialAsSeen_3 : decode cX10_isTrialAsSeen 3 = .ok (.aload_n 0, 1) := by decide +kernel
theorem dX10_isTrialAsSeen_4 : decode cX10_isTrialAsSeen 4 = .ok (.getfield 75, 3) := by decide +kernel
theorem dX10_isTrialAsSeen_7 : decode cX10_isTrialAsSeen 7 = .ok (.getfield 197, 3) := by decide +kernel
theorem dX10_isTrialAsSeen_10 : decode cX10_isTrialAsSeen 10 = .ok (.if_icmp .ge 45, 3) := by decide +kernel
theorem dX10_isTrialAsSeen_13 : decode cX10_isTrialAsSeen 13 = .ok (.aload_n 0, 1) := by decide +kernel
theorem dX10_isTrialAsSeen_14 : decode cX10_isTrialAsSeen 14 = .ok (.getfield 75, 3) := by decide +kernel
theorem dX10_isTrialAsSeen_17 : decode cX10_isTrialAsSeen 17 = .ok (.getfield 194, 3) := by decide +kernel
theorem dX10_isTrialAsSeen_20 : decode cX10_isTrialAsSeen 20 = .ok (.iload_n 1, 1) := by decide +kernel
theorem dX10_isTrialAsSeen_21 : decode cX10_isTrialAsSeen 21 = .ok (.iaload, 1) := by decide +kernel
theorem dX10_isTrialAsSeen_22 : decode cX10_isTrialAsSeen 22 = .ok (.iconst (-1), 1) := by decide +kernel
theorem dX10_isTrialAsSeen_23 : decode cX10_isTrialAsSeen 23 = .ok (.if_icmp .eq 26, 3) := by decide +kernel
theorem dX10_isTrialAsSeen_26 : decode cX10_isTrialAsSeen 26 = .ok (.aload_n 0, 1) := by decide +kernel
theorem dX10_isTrialAsSeen_27 : decode cX10_isTrialAsSeen 27 = .ok (.getfield 75, 3) := by decide +kernel
theorem dX10_isTrialAsSeen_30 : decode cX10_isTrialAsSeen 30 = .ok (.getfield 194, 3) := by decide +kernel
theorem dX10_isTrialAsSeen_33 : decode cX10_isTrialAsSeen 33 = .ok (.iload_n 1, 1) := by decide +kernel
theorem dX10_isTrialAsSeen_34 : decode cX10_isTrialAsSeen 34 = .ok (.iaload, 1) := by decide +kernel
theorem dX10_isTrialAsSeen_35 : decode cX10_isTrialAsSeen 35 = .ok (.aload_n 0, 1) := by decide +kernel
theorem dX10_isTrialAsSeen_36 : decode cX10_isTrialAsSeen 36 = .ok (.getfield 89, 3) := by decide +kernel
theorem dX10_isTrialAsSeen_39 : decode cX10_isTrialAsSeen 39 = .ok (.getfield 180, 3) := by decide +kernel
theorem dX10_isTrialAsSeen_42 : decode cX10_isTrialAsSeen 42 = .ok (.iload_n 1, 1) := by decide +kernel
theorem dX10_isTrialAsSeen_43 : decode cX10_isTrialAsSeen 43 = .ok (.iaload, 1) := by decide +kernel
theorem dX10_isTrialAsSeen_44 : decode cX10_isTrialAsSeen 44 = .ok (.if_icmp .eq 5, 3) := by decide +kernel
theorem dX10_isTrialAsSeen_47 : decode cX10_isTrialAsSeen 47 = .ok (.iconst 0, 1) := by decide +kernel
theorem dX10_isTrialAsSeen_48 : decode cX10_isTrialAsSeen 48 = .ok (.ireturn, 1) := by decide +kernel
theorem dX10_isTrialAsSeen_49 : decode cX10_isTrialAsSeen 49 = .ok (.iinc 1 1, 3) := by decide +kernel
theorem dX10_isTrialAsSeen_52 : decode cX10_isTrialAsSeen 52 = .ok (.goto (-50), 3) := by decide +kernel
theorem dX10_isTrialAsSeen_55 : decode cX10_isTrialAsSeen 55 = .ok (.iconst 1, 1) := by decide +kernel
theorem dX10_isTrialAsSeen_56 : decode cX10_isTrialAsSeen 56 = .ok (.ireturn, 1) := by decide +kernel
set_option maxHeartbeats 4000000 in
set_option maxRecDepth 100000 in
theorem c_X10_isTrialAsSeen (l : Launch) (E : zE) (n : Nat) (h : zH) (a0 : Nat) (res : Int32 × zH) (hf : F_X10_isTrialAsSeen n h a0 = some res) : Met l yX10_isTrialAsSeen (zw yX10_isTrialAsSeen cX10_isTrialAsSeen 2 (some .boolean)) ({ frames := 0, cells := 0, slots := 0, locals := 0 } : Room) (zPc E h [.ref (zB E + a0)]) (zQc E res.2 (some (.int res.1))) 0 0 (zfr E) := by
  refine zmet (lo := [(0, .ref (zB E + a0))]) (by decide +kernel) (Nat.le_of_ble_eq_true rfl) rfl ?_
  intro p e s m args below meth c C hr hin
  unfold F_X10_isTrialAsSeen at hf
  refine zr_iconst (v := 0) C dX10_isTrialAsSeen_0 (by decide) ?_
  refine zr_istore_n (lo2 := [(1, .int (0 : Int32)), (0, .ref (zB E + a0))]) C dX10_isTrialAsSeen_1 rfl (by decide) rfl ?_
  have L2 : ∀ (fu : Nat) (x : zH × Int32), zloop (fun kc x => F_X10_isTrialAsSeen_B2 n kc x.1 a0 x.2) fu x = some res → zW p l e (headSpec (zw yX10_isTrialAsSeen cX10_isTrialAsSeen 2 (some .boolean)) ({ frames := 0, cells := 0, slots := 0, locals := 0 } : Room)).room s m args below meth c E 2 (MQ below (zQc E res.2 (some (.int res.1))) args s 0 0 (zfr E)) 0 0 2 [(0, .ref (zB E + a0)), (1, .int x.2)] [] x.1 := by
    refine z_loop _ ?_
    intro kc2 hk2 x hf
    obtain ⟨h20, x19⟩ := x
    dsimp only at hf ⊢
    unfold F_X10_isTrialAsSeen_B2 at hf
    have J49 : ∀ (h22 : zH) (x21 : Int32), F_X10_isTrialAsSeen_J49 n kc2 h22 a0 x21 = some res → zW p l e (headSpec (zw yX10_isTrialAsSeen cX10_isTrialAsSeen 2 (some .boolean)) ({ frames := 0, cells := 0, slots := 0, locals := 0 } : Room)).room s m args below meth c E 2 (MQ below (zQc E res.2 (some (.int res.1))) args s 0 0 (zfr E)) 0 0 49 [(0, .ref (zB E + a0)), (1, .int x21)] [] h22 := by
      intro h22 x21 hf
      unfold F_X10_isTrialAsSeen_J49 at hf
      refine zr_iinc (v0 := 1) (k := 1) (f := fun v => [(1, .int v), (0, .ref (zB E + a0))]) C hf (by decide) dX10_isTrialAsSeen_49 rfl (by decide) (fun v => rfl) (fun x23 hf => ?_)
      refine zr_goto (tgt := 2) C dX10_isTrialAsSeen_52 (by decide) ?_
      refine zsub [1, 0] rfl ?_
      exact hk2 (h22, x23) hf
    refine zr_iload_n C dX10_isTrialAsSeen_2 rfl 1 rfl ?_
    refine zr_aload_n C dX10_isTrialAsSeen_3 rfl 0 rfl ?_
    refine zr_gr C hf kg_X10_75 (fun _ _ _ => rfl) dX10_isTrialAsSeen_4 (fun w24 hf => ?_)
    refine zr_gi C hf kg_X10_197 (fun _ _ _ => rfl) dX10_isTrialAsSeen_7 (fun x25 hf => ?_)
    refine zr_icmp_ge (tgt := 55) C hf dX10_isTrialAsSeen_10 (by decide) (fun hf => ?_) (fun hf => ?_)
    · refine zr_iconst (v := 1) C dX10_isTrialAsSeen_55 (by decide) ?_
      exact zr_zreturn C hf hr (Nat.le_of_ble_eq_true rfl) (Nat.le_of_ble_eq_true rfl) dX10_isTrialAsSeen_56
    · refine zr_aload_n C dX10_isTrialAsSeen_13 rfl 0 rfl ?_
      refine zr_gr C hf kg_X10_75 (fun _ _ _ => rfl) dX10_isTrialAsSeen_14 (fun w26 hf => ?_)
      refine zr_gr C hf kg_X10_194 (fun _ _ _ => rfl) dX10_isTrialAsSeen_17 (fun w27 hf => ?_)
      refine zr_iload_n C dX10_isTrialAsSeen_20 rfl 1 rfl ?_
      refine zr_iaload C hf dX10_isTrialAsSeen_21 (fun x28 hf => ?_)
      refine zr_iconst (v := -1) C dX10_isTrialAsSeen_22 (by decide) ?_
      refine zr_icmp_eq (tgt := 49) C hf dX10_isTrialAsSeen_23 (by decide) (fun hf => ?_) (fun hf => ?_)
      · exact J49 h20 x19 hf
      · refine zr_aload_n C dX10_isTrialAsSeen_26 rfl 0 rfl ?_
        refine zr_gr C hf kg_X10_75 (fun _ _ _ => rfl) dX10_isTrialAsSeen_27 (fun w29 hf => ?_)
        refine zr_gr C hf kg_X10_194 (fun _ _ _ => rfl) dX10_isTrialAsSeen_30 (fun w30 hf => ?_)
        refine zr_iload_n C dX10_isTrialAsSeen_33 rfl 1 rfl ?_
        refine zr_iaload C hf dX10_isTrialAsSeen_34 (fun x31 hf => ?_)
        refine zr_aload_n C dX10_isTrialAsSeen_35 rfl 0 rfl ?_
        refine zr_gr C hf kg_X10_89 (fun _ _ _ => rfl) dX10_isTrialAsSeen_36 (fun w32 hf => ?_)
        refine zr_gr C hf kg_X10_180 (fun _ _ _ => rfl) dX10_isTrialAsSeen_39 (fun w33 hf => ?_)
        refine zr_iload_n C dX10_isTrialAsSeen_42 rfl 1 rfl ?_
        refine zr_iaload C hf dX10_isTrialAsSeen_43 (fun x34 hf => ?_)
        refine zr_icmp_eq (tgt := 49) C hf dX10_isTrialAsSeen_44 (by decide) (fun hf => ?_) (fun hf => ?_)
        · exact J49 h20 x19 hf
        · refine zr_iconst (v := 0) C dX10_isTrialAsSeen_47 (by decide) ?_
          exact zr_zreturn C hf hr (Nat.le_of_ble_eq_true rfl) (Nat.le_of_ble_eq_true rfl) dX10_isTrialAsSeen_48
  refine zsub [1, 0] rfl ?_
  exact L2 n (h, (0 : Int32)) hf
theorem dX10_read_0 : decode cX10_read 0 = .ok (.aload_n 0, 1) := by decide +kernel
theorem dX10_read_1 : decode cX10_read 1 = .ok (.invokevirtual 144, 3) := by decide +kernel
theorem dX10_read_4 : decode cX10_read 4 = .ok (.ifCond .ne 6, 3) := by decide +kernel
theorem dX10_read_7 : decode cX10_read 7 = .ok (.bipush (-103), 2) := by decide +kernel
theorem dX10_read_9 : decode cX10_read 9 = .ok (.ireturn, 1) := by decide +kernel
theorem dX10_read_10 : decode cX10_read 10 = .ok (.iconst 0, 1) := by decide +kernel
theorem dX10_read_11 : decode cX10_read 11 = .ok (.istore_n 1, 1) := by decide +kernel
theorem dX10_read_12 : decode cX10_read 12 = .ok (.iconst 0, 1) := by decide +kernel
theorem dX10_read_13 : decode cX10_read 13 = .ok (.istore_n 2, 1) := by decide +kernel
theorem dX10_read_14 : decode cX10_read 14 = .ok (.iload_n 2, 1) := by decide +kernel
theorem dX10_read_15 : decode cX10_read 15 = .ok (.aload_n 0, 1) := by decide +kernel
theorem dX10_read_16 : decode cX10_read 16 = .ok (.getfield 67, 3) := by decide +kernel
theorem dX10_read_19 : decode cX10_read 19 = .ok (.if_icmp .ge 40, 3) := by decide +kernel
theorem dX10_read_22 : decode cX10_read 22 = .ok (.aload_n 0, 1) := by decide +kernel
theorem dX10_read_23 : decode cX10_read 23 = .ok (.aload_n 0, 1) := by decide +kernel
theorem dX10_read_24 : decode cX10_read 24 = .ok (.getfield 58, 3) := by decide +kernel
theorem dX10_read_27 : decode cX10_read 27 = .ok (.iload_n 2, 1) := by decide +kernel
theorem dX10_read_28 : decode cX10_read 28 = .ok (.aaload, 1) := by decide +kernel
theorem dX10_read_29 : decode cX10_read 29 = .ok (.aload_n 0, 1) := by decide +kernel
theorem dX10_read_30 : decode cX10_read 30 = .ok (.getfield 75, 3) := by decide +kernel
theorem dX10_read_33 : decode cX10_read 33 = .ok (.invokevirtual 225, 3) := by decide +kernel
theorem dX10_read_36 : decode cX10_read 36 = .ok (.iload_n 1, 1) := by decide +kernel
theorem dX10_read_37 : decode cX10_read 37 = .ok (.aload_n 0, 1) := by decide +kernel
theorem dX10_read_38 : decode cX10_read 38 = .ok (.invokevirtual 237, 3) := by decide +kernel
theorem dX10_read_41 : decode cX10_read 41 = .ok (.ifCond .eq 9, 3) := by decide +kernel
theorem dX10_read_44 : decode cX10_read 44 = .ok (.iconst 1, 1) := by decide +kernel
theorem dX10_read_45 : decode cX10_read 45 = .ok (.iload_n 2, 1) := by decide +kernel
theorem dX10_read_46 : decode cX10_read 46 = .ok (.ishl, 1) := by decide +kernel
theorem dX10_read_47 : decode cX10_read 47 = .ok (.goto 4, 3) := by decide +kernel
theorem dX10_read_50 : decode cX10_read 50 = .ok (.iconst 0, 1) := by decide +kernel
theorem dX10_read_51 : decode cX10_read 51 = .ok (.ior, 1) := by decide +kernel
theorem dX10_read_52 : decode cX10_read 52 = .ok (.istore_n 1, 1) := by decide +kernel
theorem dX10_read_53 : decode cX10_read 53 = .ok (.iinc 2 1, 3) := by decide +kernel
theorem dX10_read_56 : decode cX10_read 56 = .ok (.goto (-42), 3) := by decide +kernel
theorem dX10_read_59 : decode cX10_read 59 = .ok (.iload_n 1, 1) := by decide +kernel
theorem dX10_read_60 : decode cX10_read 60 = .ok (.ireturn, 1) := by decide +kernel
set_option maxHeartbeats 4000000 in
set_option maxRecDepth 100000 in
theorem c_X10_read (l : Launch) (E : zE) (n : Nat) (h : zH) (a0 : Nat) (res : Int32 × zH) (hf : F_X10_read n h a0 = some res) : Met l yX10_read (zw yX10_read cX10_read 3 (some .int)) ({ frames := 5, cells := 0, slots := 0, locals := 122 } : Room) (zPc E h [.ref (zB E + a0)]) (zQc E res.2 (some (.int res.1))) 0 0 (zfr E) := by
  refine zmet (lo := [(0, .ref (zB E + a0))]) (by decide +kernel) (Nat.le_of_ble_eq_true rfl) rfl ?_
  intro p e s m args below meth c C hr hin
  unfold F_X10_read at hf
  refine zr_aload_n C dX10_read_0 rfl 0 rfl ?_
  refine zr_callVi (As := []) (rest := []) C hf (fun x hx => c_X10_hasCup l E n h a0 x hx) kv_X10_144 rfl rfl (Nat.le_of_ble_eq_true rfl) ⟨rfl, rfl⟩ ⟨Nat.le_of_ble_eq_true rfl, Nat.le_of_ble_eq_true rfl⟩ ⟨Nat.le_of_ble_eq_true rfl, Nat.le_of_ble_eq_true rfl⟩ dX10_read_1 (fun x2 h1 hf => ?_)
  refine zr_if_ne (tgt := 10) C hf dX10_read_4 (by decide) (fun hf => ?_) (fun hf => ?_)
  · refine zr_iconst (v := 0) C dX10_read_10 (by decide) ?_
    refine zr_istore_n (lo2 := [(1, .int (0 : Int32)), (0, .ref (zB E + a0))]) C dX10_read_11 rfl (by decide) rfl ?_
    refine zr_iconst (v := 0) C dX10_read_12 (by decide) ?_
    refine zr_istore_n (lo2 := [(2, .int (0 : Int32)), (1, .int (0 : Int32)), (0, .ref (zB E + a0))]) C dX10_read_13 rfl (by decide) rfl ?_
    have L14 : ∀ (fu : Nat) (x : zH × Int32 × Int32), zloop (fun kc x => F_X10_read_B14 n kc x.1 a0 x.2.1 x.2.2) fu x = some res → zW p l e (headSpec (zw yX10_read cX10_read 3 (some .int)) ({ frames := 5, cells := 0, slots := 0, locals := 122 } : Room)).room s m args below meth c E 3 (MQ below (zQc E res.2 (some (.int res.1))) args s 0 0 (zfr E)) 0 0 14 [(0, .ref (zB E + a0)), (1, .int x.2.1), (2, .int x.2.2)] [] x.1 := by
      refine z_loop _ ?_
      intro kc14 hk14 x hf
      obtain ⟨h24, x22, x23⟩ := x
      dsimp only at hf ⊢
      unfold F_X10_read_B14 at hf
      have J51 : ∀ (h28 : zH) (x25 : Int32) (x26 : Int32) (x27 : Int32), F_X10_read_J51 n kc14 h28 a0 x25 x26 x27 = some res → zW p l e (headSpec (zw yX10_read cX10_read 3 (some .int)) ({ frames := 5, cells := 0, slots := 0, locals := 122 } : Room)).room s m args below meth c E 3 (MQ below (zQc E res.2 (some (.int res.1))) args s 0 0 (zfr E)) 0 0 51 [(0, .ref (zB E + a0)), (2, .int x25)] [.int x27, .int x26] h28 := by
        intro h28 x25 x26 x27 hf
        unfold F_X10_read_J51 at hf
        refine zr_ior C hf dX10_read_51 (fun x29 hf => ?_)
        refine zr_istore_n (lo2 := [(1, .int x29), (0, .ref (zB E + a0)), (2, .int x25)]) C dX10_read_52 rfl (by decide) rfl ?_
        refine zr_iinc (v0 := 1) (k := 2) (f := fun v => [(2, .int v), (1, .int x29), (0, .ref (zB E + a0))]) C hf (by decide) dX10_read_53 rfl (by decide) (fun v => rfl) (fun x30 hf => ?_)
        refine zr_goto (tgt := 14) C dX10_read_56 (by decide) ?_
        refine zsub [2, 1, 0] rfl ?_
        exact hk14 (h28, x29, x30) hf
      refine zr_iload_n C dX10_read_14 rfl 2 rfl ?_
      refine zr_aload_n C dX10_read_15 rfl 0 rfl ?_
      refine zr_gi C hf kg_X10_67 (fun _ _ _ => rfl) dX10_read_16 (fun x31 hf => ?_)
      refine zr_icmp_ge (tgt := 59) C hf dX10_read_19 (by decide) (fun hf => ?_) (fun hf => ?_)
      · refine zr_iload_n C dX10_read_59 rfl 1 rfl ?_
        exact zr_ireturn C hf hr (Nat.le_of_ble_eq_true rfl) (Nat.le_of_ble_eq_true rfl) dX10_read_60
      · refine zr_aload_n C dX10_read_22 rfl 0 rfl ?_
        refine zr_aload_n C dX10_read_23 rfl 0 rfl ?_
        refine zr_gr C hf kg_X10_58 (fun _ _ _ => rfl) dX10_read_24 (fun w32 hf => ?_)
        refine zr_iload_n C dX10_read_27 rfl 2 rfl ?_
        refine zr_aaload (t0 := 5) C hf (by decide) rfl rfl dX10_read_28 (fun w33 hf => ?_)
        refine zr_aload_n C dX10_read_29 rfl 0 rfl ?_
        refine zr_gr C hf kg_X10_75 (fun _ _ _ => rfl) dX10_read_30 (fun w34 hf => ?_)
        refine zr_callVv (As := [.ref (zB E + w33), .ref (zB E + w34)]) (rest := []) C hf (fun x hx => c_X10_tryRow l E n h24 a0 w33 w34 x hx) kv_X10_225 rfl rfl (Nat.le_of_ble_eq_true rfl) ⟨rfl, rfl⟩ ⟨Nat.le_of_ble_eq_true rfl, Nat.le_of_ble_eq_true rfl⟩ ⟨Nat.le_of_ble_eq_true rfl, Nat.le_of_ble_eq_true rfl⟩ dX10_read_33 (fun _ h35 hf => ?_)
        refine zr_iload_n C dX10_read_36 rfl 1 rfl ?_
        refine zr_aload_n C dX10_read_37 rfl 0 rfl ?_
        refine zr_callVi (As := []) (rest := [.int x22]) C hf (fun x hx => c_X10_isTrialAsSeen l E n h35 a0 x hx) kv_X10_237 rfl rfl (Nat.le_of_ble_eq_true rfl) ⟨rfl, rfl⟩ ⟨Nat.le_of_ble_eq_true rfl, Nat.le_of_ble_eq_true rfl⟩ ⟨Nat.le_of_ble_eq_true rfl, Nat.le_of_ble_eq_true rfl⟩ dX10_read_38 (fun x37 h36 hf => ?_)
        refine zr_if_eq (tgt := 50) C hf dX10_read_41 (by decide) (fun hf => ?_) (fun hf => ?_)
        · refine zr_iconst (v := 0) C dX10_read_50 (by decide) ?_
          refine zsub [0, 2] rfl ?_
          exact J51 h36 x23 x22 (0 : Int32) hf
        · refine zr_iconst (v := 1) C dX10_read_44 (by decide) ?_
          refine zr_iload_n C dX10_read_45 rfl 2 rfl ?_
          refine zr_ishl C hf dX10_read_46 (fun x38 hf => ?_)
          refine zr_goto (tgt := 51) C dX10_read_47 (by decide) ?_
          refine zsub [0, 2] rfl ?_
          exact J51 h36 x23 x22 x38 hf
    refine zsub [2, 1, 0] rfl ?_
    exact L14 n (h1, (0 : Int32), (0 : Int32)) hf
  · refine zr_bipush (v := -103) C dX10_read_7 (by decide) ?_
    exact zr_ireturn C hf hr (Nat.le_of_ble_eq_true rfl) (Nat.le_of_ble_eq_true rfl) dX10_read_9
theorem dX10_ringsInTrial_0 : decode cX10_ringsInTrial 0 = .ok (.iconst 0, 1) := by decide +kernel
theorem dX10_ringsInTrial_1 : decode cX10_ringsInTrial 1 = .ok (.istore_n 1, 1) := by decide +kernel
theorem dX10_ringsInTrial_2 : decode cX10_ringsInTrial 2 = .ok (.iconst 0, 1) := by decide +kernel
theorem dX10_ringsInTrial_3 : decode cX10_ringsInTrial 3 = .ok (.istore_n 2, 1) := by decide +kernel
theorem dX10_ringsInTrial_4 : decode cX10_ringsInTrial 4 = .ok (.iload_n 2, 1) := by decide +kernel
theorem dX10_ringsInTrial_5 : decode cX10_ringsInTrial 5 = .ok (.aload_n 0, 1) := by decide +kernel
theorem dX10_ringsInTrial_6 : decode cX10_ringsInTrial 6 = .ok (.getfield 36, 3) := by decide +kernel
theorem dX10_ringsInTrial_9 : decode cX10_ringsInTrial 9 = .ok (.invokevirtual 138, 3) := by decide +kernel
theorem dX10_ringsInTrial_12 : decode cX10_ringsInTrial 12 = .ok (.if_icmp .ge 32, 3) := by decide +kernel
theorem dX10_ringsInTrial_15 : decode cX10_ringsInTrial 15 = .ok (.iload_n 1, 1) := by decide +kernel
theorem dX10_ringsInTrial_16 : decode cX10_ringsInTrial 16 = .ok (.aload_n 0, 1) := by decide +kernel
theorem dX10_ringsInTrial_17 : decode cX10_ringsInTrial 17 = .ok (.getfield 89, 3) := by decide +kernel
theorem dX10_ringsInTrial_20 : decode cX10_ringsInTrial 20 = .ok (.iload_n 2, 1) := by decide +kernel
theorem dX10_ringsInTrial_21 : decode cX10_ringsInTrial 21 = .ok (.aload_n 0, 1) := by decide +kernel
theorem dX10_ringsInTrial_22 : decode cX10_ringsInTrial 22 = .ok (.getfield 75, 3) := by decide +kernel
theorem dX10_ringsInTrial_25 : decode cX10_ringsInTrial 25 = .ok (.invokevirtual 353, 3) := by decide +kernel
theorem dX10_ringsInTrial_28 : decode cX10_ringsInTrial 28 = .ok (.ifCond .le 7, 3) := by decide +kernel
theorem dX10_ringsInTrial_31 : decode cX10_ringsInTrial 31 = .ok (.iconst 1, 1) := by decide +kernel
theorem dX10_ringsInTrial_32 : decode cX10_ringsInTrial 32 = .ok (.goto 4, 3) := by decide +kernel
theorem dX10_ringsInTrial_35 : decode cX10_ringsInTrial 35 = .ok (.iconst 0, 1) := by decide +kernel
theorem dX10_ringsInTrial_36 : decode cX10_ringsInTrial 36 = .ok (.iadd, 1) := by decide +kernel
theorem dX10_ringsInTrial_37 : decode cX10_ringsInTrial 37 = .ok (.istore_n 1, 1) := by decide +kernel
theorem dX10_ringsInTrial_38 : decode cX10_ringsInTrial 38 = .ok (.iinc 2 1, 3) := by decide +kernel
theorem dX10_ringsInTrial_41 : decode cX10_ringsInTrial 41 = .ok (.goto (-37), 3) := by decide +kernel
theorem dX10_ringsInTrial_44 : decode cX10_ringsInTrial 44 = .ok (.iload_n 1, 1) := by decide +kernel
theorem dX10_ringsInTrial_45 : decode cX10_ringsInTrial 45 = .ok (.ireturn, 1) := by decide +kernel
set_option maxHeartbeats 4000000 in
set_option maxRecDepth 100000 in
theorem c_X10_ringsInTrial (l : Launch) (E : zE) (n : Nat) (h : zH) (a0 : Nat) (res : Int32 × zH) (hf : F_X10_ringsInTrial n h a0 = some res) : Met l yX10_ringsInTrial (zw yX10_ringsInTrial cX10_ringsInTrial 3 (some .int)) ({ frames := 1, cells := 0, slots := 0, locals := 24 } : Room) (zPc E h [.ref (zB E + a0)]) (zQc E res.2 (some (.int res.1))) 0 0 (zfr E) := by
  refine zmet (lo := [(0, .ref (zB E + a0))]) (by decide +kernel) (Nat.le_of_ble_eq_true rfl) rfl ?_
  intro p e s m args below meth c C hr hin
  unfold F_X10_ringsInTrial at hf
  refine zr_iconst (v := 0) C dX10_ringsInTrial_0 (by decide) ?_
  refine zr_istore_n (lo2 := [(1, .int (0 : Int32)), (0, .ref (zB E + a0))]) C dX10_ringsInTrial_1 rfl (by decide) rfl ?_
  refine zr_iconst (v := 0) C dX10_ringsInTrial_2 (by decide) ?_
  refine zr_istore_n (lo2 := [(2, .int (0 : Int32)), (1, .int (0 : Int32)), (0, .ref (zB E + a0))]) C dX10_ringsInTrial_3 rfl (by decide) rfl ?_
  have L4 : ∀ (fu : Nat) (x : zH × Int32 × Int32), zloop (fun kc x => F_X10_ringsInTrial_B4 n kc x.1 a0 x.2.1 x.2.2) fu x = some res → zW p l e (headSpec (zw yX10_ringsInTrial cX10_ringsInTrial 3 (some .int)) ({ frames := 1, cells := 0, slots := 0, locals := 24 } : Room)).room s m args below meth c E 3 (MQ below (zQc E res.2 (some (.int res.1))) args s 0 0 (zfr E)) 0 0 4 [(0, .ref (zB E + a0)), (1, .int x.2.1), (2, .int x.2.2)] [] x.1 := by
    refine z_loop _ ?_
    intro kc4 hk4 x hf
    obtain ⟨h21, x19, x20⟩ := x
    dsimp only at hf ⊢
    unfold F_X10_ringsInTrial_B4 at hf
    have J36 : ∀ (h25 : zH) (x22 : Int32) (x23 : Int32) (x24 : Int32), F_X10_ringsInTrial_J36 n kc4 h25 a0 x22 x23 x24 = some res → zW p l e (headSpec (zw yX10_ringsInTrial cX10_ringsInTrial 3 (some .int)) ({ frames := 1, cells := 0, slots := 0, locals := 24 } : Room)).room s m args below meth c E 3 (MQ below (zQc E res.2 (some (.int res.1))) args s 0 0 (zfr E)) 0 0 36 [(0, .ref (zB E + a0)), (2, .int x22)] [.int x24, .int x23] h25 := by
      intro h25 x22 x23 x24 hf
      unfold F_X10_ringsInTrial_J36 at hf
      refine zr_iadd C hf dX10_ringsInTrial_36 (fun x26 hf => ?_)
      refine zr_istore_n (lo2 := [(1, .int x26), (0, .ref (zB E + a0)), (2, .int x22)]) C dX10_ringsInTrial_37 rfl (by decide) rfl ?_
      refine zr_iinc (v0 := 1) (k := 2) (f := fun v => [(2, .int v), (1, .int x26), (0, .ref (zB E + a0))]) C hf (by decide) dX10_ringsInTrial_38 rfl (by decide) (fun v => rfl) (fun x27 hf => ?_)
      refine zr_goto (tgt := 4) C dX10_ringsInTrial_41 (by decide) ?_
      refine zsub [2, 1, 0] rfl ?_
      exact hk4 (h25, x26, x27) hf
    refine zr_iload_n C dX10_ringsInTrial_4 rfl 2 rfl ?_
    refine zr_aload_n C dX10_ringsInTrial_5 rfl 0 rfl ?_
    refine zr_gr C hf kg_X10_36 (fun _ _ _ => rfl) dX10_ringsInTrial_6 (fun w28 hf => ?_)
    refine zr_callVi (As := []) (rest := [.int x20]) C hf (fun x hx => c_X1_rings l E n h21 w28 x hx) kv_X10_138 rfl rfl (Nat.le_of_ble_eq_true rfl) ⟨rfl, rfl⟩ ⟨Nat.le_of_ble_eq_true rfl, Nat.le_of_ble_eq_true rfl⟩ ⟨Nat.le_of_ble_eq_true rfl, Nat.le_of_ble_eq_true rfl⟩ dX10_ringsInTrial_9 (fun x30 h29 hf => ?_)
    refine zr_icmp_ge (tgt := 44) C hf dX10_ringsInTrial_12 (by decide) (fun hf => ?_) (fun hf => ?_)
    · refine zr_iload_n C dX10_ringsInTrial_44 rfl 1 rfl ?_
      exact zr_ireturn C hf hr (Nat.le_of_ble_eq_true rfl) (Nat.le_of_ble_eq_true rfl) dX10_ringsInTrial_45
    · refine zr_iload_n C dX10_ringsInTrial_15 rfl 1 rfl ?_
      refine zr_aload_n C dX10_ringsInTrial_16 rfl 0 rfl ?_
      refine zr_gr C hf kg_X10_89 (fun _ _ _ => rfl) dX10_ringsInTrial_17 (fun w31 hf => ?_)
      refine zr_iload_n C dX10_ringsInTrial_20 rfl 2 rfl ?_
      refine zr_aload_n C dX10_ringsInTrial_21 rfl 0 rfl ?_
      refine zr_gr C hf kg_X10_75 (fun _ _ _ => rfl) dX10_ringsInTrial_22 (fun w32 hf => ?_)
      refine zr_callVi (As := [.int x20, .ref (zB E + w32)]) (rest := [.int x19]) C hf (fun x hx => c_X0_lyingIn l E n h29 w31 x20 w32 x hx) kv_X10_353 rfl rfl (Nat.le_of_ble_eq_true rfl) ⟨rfl, rfl⟩ ⟨Nat.le_of_ble_eq_true rfl, Nat.le_of_ble_eq_true rfl⟩ ⟨Nat.le_of_ble_eq_true rfl, Nat.le_of_ble_eq_true rfl⟩ dX10_ringsInTrial_25 (fun x34 h33 hf => ?_)
      refine zr_if_le (tgt := 35) C hf dX10_ringsInTrial_28 (by decide) (fun hf => ?_) (fun hf => ?_)
      · refine zr_iconst (v := 0) C dX10_ringsInTrial_35 (by decide) ?_
        refine zsub [0, 2] rfl ?_
        exact J36 h33 x20 x19 (0 : Int32) hf
      · refine zr_iconst (v := 1) C dX10_ringsInTrial_31 (by decide) ?_
        refine zr_goto (tgt := 36) C dX10_ringsInTrial_32 (by decide) ?_
        refine zsub [0, 2] rfl ?_
        exact J36 h33 x20 x19 (1 : Int32) hf
  refine zsub [2, 1, 0] rfl ?_
  exact L4 n (h, (0 : Int32), (0 : Int32)) hf
theorem dX10_tells_0 : decode cX10_tells 0 = .ok (.aload_n 0, 1) := by decide +kernel
theorem dX10_tells_1 : decode cX10_tells 1 = .ok (.invokevirtual 144, 3) := by decide +kernel
theorem dX10_tells_4 : decode cX10_tells 4 = .ok (.ifCond .ne 6, 3) := by decide +kernel
theorem dX10_tells_7 : decode cX10_tells 7 = .ok (.bipush (-103), 2) := by decide +kernel
theorem dX10_tells_9 : decode cX10_tells 9 = .ok (.ireturn, 1) := by decide +kernel
theorem dX10_tells_10 : decode cX10_tells 10 = .ok (.iconst (-1), 1) := by decide +kernel
theorem dX10_tells_11 : decode cX10_tells 11 = .ok (.istore_n 1, 1) := by decide +kernel
theorem dX10_tells_12 : decode cX10_tells 12 = .ok (.iconst (-1), 1) := by decide +kernel
theorem dX10_tells_13 : decode cX10_tells 13 = .ok (.istore_n 2, 1) := by decide +kernel
theorem dX10_tells_14 : decode cX10_tells 14 = .ok (.iconst 0, 1) := by decide +kernel
theorem dX10_tells_15 : decode cX10_tells 15 = .ok (.istore_n 3, 1) := by decide +kernel
theorem dX10_tells_16 : decode cX10_tells 16 = .ok (.iload_n 3, 1) := by decide +kernel
theorem dX10_tells_17 : decode cX10_tells 17 = .ok (.aload_n 0, 1) := by decide +kernel
theorem dX10_tells_18 : decode cX10_tells 18 = .ok (.getfield 67, 3) := by decide +kernel
theorem dX10_tells_21 : decode cX10_tells 21 = .ok (.if_icmp .ge 40, 3) := by decide +kernel
theorem dX10_tells_24 : decode cX10_tells 24 = .ok (.aload_n 0, 1) := by decide +kernel
theorem dX10_tells_25 : decode cX10_tells 25 = .ok (.aload_n 0, 1) := by decide +kernel
theorem dX10_tells_26 : decode cX10_tells 26 = .ok (.getfield 58, 3) := by decide +kernel
theorem dX10_tells_29 : decode cX10_tells 29 = .ok (.iload_n 3, 1) := by decide +kernel
theorem dX10_tells_30 : decode cX10_tells 30 = .ok (.aaload, 1) := by decide +kernel
theorem dX10_tells_31 : decode cX10_tells 31 = .ok (.aload_n 0, 1) := by decide +kernel
theorem dX10_tells_32 : decode cX10_tells 32 = .ok (.getfield 75, 3) := by decide +kernel
theorem dX10_tells_35 : decode cX10_tells 35 = .ok (.invokevirtual 225, 3) := by decide +kernel
theorem dX10_tells_38 : decode cX10_tells 38 = .ok (.aload_n 0, 1) := by decide +kernel
theorem dX10_tells_39 : decode cX10_tells 39 = .ok (.invokevirtual 240, 3) := by decide +kernel
theorem dX10_tells_42 : decode cX10_tells 42 = .ok (.istore 4, 2) := by decide +kernel
theorem dX10_tells_44 : decode cX10_tells 44 = .ok (.iload 4, 2) := by decide +kernel
theorem dX10_tells_46 : decode cX10_tells 46 = .ok (.iload_n 2, 1) := by decide +kernel
theorem dX10_tells_47 : decode cX10_tells 47 = .ok (.if_icmp .le 8, 3) := by decide +kernel
theorem dX10_tells_50 : decode cX10_tells 50 = .ok (.iload 4, 2) := by decide +kernel
theorem dX10_tells_52 : decode cX10_tells 52 = .ok (.istore_n 2, 1) := by decide +kernel
theorem dX10_tells_53 : decode cX10_tells 53 = .ok (.iload_n 3, 1) := by decide +kernel
theorem dX10_tells_54 : decode cX10_tells 54 = .ok (.istore_n 1, 1) := by decide +kernel
theorem dX10_tells_55 : decode cX10_tells 55 = .ok (.iinc 3 1, 3) := by decide +kernel
theorem dX10_tells_58 : decode cX10_tells 58 = .ok (.goto (-42), 3) := by decide +kernel
theorem dX10_tells_61 : decode cX10_tells 61 = .ok (.iload_n 1, 1) := by decide +kernel
theorem dX10_tells_62 : decode cX10_tells 62 = .ok (.ireturn, 1) := by decide +kernel
set_option maxHeartbeats 4000000 in
set_option maxRecDepth 100000 in
theorem c_X10_tells (l : Launch) (E : zE) (n : Nat) (h : zH) (a0 : Nat) (res : Int32 × zH) (hf : F_X10_tells n h a0 = some res) : Met l yX10_tells (zw yX10_tells cX10_tells 5 (some .int)) ({ frames := 5, cells := 0, slots := 0, locals := 122 } : Room) (zPc E h [.ref (zB E + a0)]) (zQc E res.2 (some (.int res.1))) 0 0 (zfr E) := by
  refine zmet (lo := [(0, .ref (zB E + a0))]) (by decide +kernel) (Nat.le_of_ble_eq_true rfl) rfl ?_
  intro p e s m args below meth c C hr hin
  unfold F_X10_tells at hf
  refine zr_aload_n C dX10_tells_0 rfl 0 rfl ?_
  refine zr_callVi (As := []) (rest := []) C hf (fun x hx => c_X10_hasCup l E n h a0 x hx) kv_X10_144 rfl rfl (Nat.le_of_ble_eq_true rfl) ⟨rfl, rfl⟩ ⟨Nat.le_of_ble_eq_true rfl, Nat.le_of_ble_eq_true rfl⟩ ⟨Nat.le_of_ble_eq_true rfl, Nat.le_of_ble_eq_true rfl⟩ dX10_tells_1 (fun x2 h1 hf => ?_)
  refine zr_if_ne (tgt := 10) C hf dX10_tells_4 (by decide) (fun hf => ?_) (fun hf => ?_)
  · refine zr_iconst (v := -1) C dX10_tells_10 (by decide) ?_
    refine zr_istore_n (lo2 := [(1, .int (-1 : Int32)), (0, .ref (zB E + a0))]) C dX10_tells_11 rfl (by decide) rfl ?_
    refine zr_iconst (v := -1) C dX10_tells_12 (by decide) ?_
    refine zr_istore_n (lo2 := [(2, .int (-1 : Int32)), (1, .int (-1 : Int32)), (0, .ref (zB E + a0))]) C dX10_tells_13 rfl (by decide) rfl ?_
    refine zr_iconst (v := 0) C dX10_tells_14 (by decide) ?_
    refine zr_istore_n (lo2 := [(3, .int (0 : Int32)), (2, .int (-1 : Int32)), (1, .int (-1 : Int32)), (0, .ref (zB E + a0))]) C dX10_tells_15 rfl (by decide) rfl ?_
    have L16 : ∀ (fu : Nat) (x : zH × Int32 × Int32 × Int32), zloop (fun kc x => F_X10_tells_B16 n kc x.1 a0 x.2.1 x.2.2.1 x.2.2.2) fu x = some res → zW p l e (headSpec (zw yX10_tells cX10_tells 5 (some .int)) ({ frames := 5, cells := 0, slots := 0, locals := 122 } : Room)).room s m args below meth c E 5 (MQ below (zQc E res.2 (some (.int res.1))) args s 0 0 (zfr E)) 0 0 16 [(0, .ref (zB E + a0)), (1, .int x.2.1), (2, .int x.2.2.1), (3, .int x.2.2.2)] [] x.1 := by
      refine z_loop _ ?_
      intro kc16 hk16 x hf
      obtain ⟨h24, x21, x22, x23⟩ := x
      dsimp only at hf ⊢
      unfold F_X10_tells_B16 at hf
      have J55 : ∀ (h28 : zH) (x25 : Int32) (x26 : Int32) (x27 : Int32), F_X10_tells_J55 n kc16 h28 a0 x25 x26 x27 = some res → zW p l e (headSpec (zw yX10_tells cX10_tells 5 (some .int)) ({ frames := 5, cells := 0, slots := 0, locals := 122 } : Room)).room s m args below meth c E 5 (MQ below (zQc E res.2 (some (.int res.1))) args s 0 0 (zfr E)) 0 0 55 [(0, .ref (zB E + a0)), (1, .int x25), (2, .int x26), (3, .int x27)] [] h28 := by
        intro h28 x25 x26 x27 hf
        unfold F_X10_tells_J55 at hf
        refine zr_iinc (v0 := 1) (k := 3) (f := fun v => [(3, .int v), (0, .ref (zB E + a0)), (1, .int x25), (2, .int x26)]) C hf (by decide) dX10_tells_55 rfl (by decide) (fun v => rfl) (fun x29 hf => ?_)
        refine zr_goto (tgt := 16) C dX10_tells_58 (by decide) ?_
        refine zsub [1, 2, 3, 0] rfl ?_
        exact hk16 (h28, x25, x26, x29) hf
      refine zr_iload_n C dX10_tells_16 rfl 3 rfl ?_
      refine zr_aload_n C dX10_tells_17 rfl 0 rfl ?_
      refine zr_gi C hf kg_X10_67 (fun _ _ _ => rfl) dX10_tells_18 (fun x30 hf => ?_)
      refine zr_icmp_ge (tgt := 61) C hf dX10_tells_21 (by decide) (fun hf => ?_) (fun hf => ?_)
      · refine zr_iload_n C dX10_tells_61 rfl 1 rfl ?_
        exact zr_ireturn C hf hr (Nat.le_of_ble_eq_true rfl) (Nat.le_of_ble_eq_true rfl) dX10_tells_62
      · refine zr_aload_n C dX10_tells_24 rfl 0 rfl ?_
        refine zr_aload_n C dX10_tells_25 rfl 0 rfl ?_
        refine zr_gr C hf kg_X10_58 (fun _ _ _ => rfl) dX10_tells_26 (fun w31 hf => ?_)
        refine zr_iload_n C dX10_tells_29 rfl 3 rfl ?_
        refine zr_aaload (t0 := 5) C hf (by decide) rfl rfl dX10_tells_30 (fun w32 hf => ?_)
        refine zr_aload_n C dX10_tells_31 rfl 0 rfl ?_
        refine zr_gr C hf kg_X10_75 (fun _ _ _ => rfl) dX10_tells_32 (fun w33 hf => ?_)
        refine zr_callVv (As := [.ref (zB E + w32), .ref (zB E + w33)]) (rest := []) C hf (fun x hx => c_X10_tryRow l E n h24 a0 w32 w33 x hx) kv_X10_225 rfl rfl (Nat.le_of_ble_eq_true rfl) ⟨rfl, rfl⟩ ⟨Nat.le_of_ble_eq_true rfl, Nat.le_of_ble_eq_true rfl⟩ ⟨Nat.le_of_ble_eq_true rfl, Nat.le_of_ble_eq_true rfl⟩ dX10_tells_35 (fun _ h34 hf => ?_)
        refine zr_aload_n C dX10_tells_38 rfl 0 rfl ?_
        refine zr_callVi (As := []) (rest := []) C hf (fun x hx => c_X10_ringsInTrial l E n h34 a0 x hx) kv_X10_240 rfl rfl (Nat.le_of_ble_eq_true rfl) ⟨rfl, rfl⟩ ⟨Nat.le_of_ble_eq_true rfl, Nat.le_of_ble_eq_true rfl⟩ ⟨Nat.le_of_ble_eq_true rfl, Nat.le_of_ble_eq_true rfl⟩ dX10_tells_39 (fun x36 h35 hf => ?_)
        refine zr_istore (lo2 := [(4, .int x36), (0, .ref (zB E + a0)), (1, .int x21), (2, .int x22), (3, .int x23)]) C dX10_tells_42 (by decide) rfl ?_
        refine zr_iload C dX10_tells_44 0 rfl ?_
        refine zr_iload_n C dX10_tells_46 rfl 3 rfl ?_
        refine zr_icmp_le (tgt := 55) C hf dX10_tells_47 (by decide) (fun hf => ?_) (fun hf => ?_)
        · refine zsub [1, 2, 3, 4] rfl ?_
          exact J55 h35 x21 x22 x23 hf
        · refine zr_iload C dX10_tells_50 0 rfl ?_
          refine zr_istore_n (lo2 := [(2, .int x36), (4, .int x36), (0, .ref (zB E + a0)), (1, .int x21), (3, .int x23)]) C dX10_tells_52 rfl (by decide) rfl ?_
          refine zr_iload_n C dX10_tells_53 rfl 4 rfl ?_
          refine zr_istore_n (lo2 := [(1, .int x23), (2, .int x36), (4, .int x36), (0, .ref (zB E + a0)), (3, .int x23)]) C dX10_tells_54 rfl (by decide) rfl ?_
          refine zsub [3, 0, 1, 4] rfl ?_
          exact J55 h35 x23 x36 x23 hf
    refine zsub [3, 2, 1, 0] rfl ?_
    exact L16 n (h1, (-1 : Int32), (-1 : Int32), (0 : Int32)) hf
  · refine zr_bipush (v := -103) C dX10_tells_7 (by decide) ?_
    exact zr_ireturn C hf hr (Nat.le_of_ble_eq_true rfl) (Nat.le_of_ble_eq_true rfl) dX10_tells_9
theorem dX10_apart_0 : decode cX10_apart 0 = .ok (.aload_n 0, 1) := by decide +kernel
theorem dX10_apart_1 : decode cX10_apart 1 = .ok (.iload_n 1, 1) := by decide +kernel
theorem dX10_apart_2 : decode cX10_apart 2 = .ok (.invokevirtual 222, 3) := by decide +kernel
theorem dX10_apart_5 : decode cX10_apart 5 = .ok (.ifCond .eq 25, 3) := by decide +kernel
theorem dX10_apart_8 : decode cX10_apart 8 = .ok (.aload_n 0, 1) := by decide +kernel
theorem dX10_apart_9 : decode cX10_apart 9 = .ok (.getfield 75, 3) := by decide +kernel
theorem dX10_apart_12 : decode cX10_apart 12 = .ok (.iload_n 2, 1) := by decide +kernel
theorem dX10_apart_13 : decode cX10_apart 13 = .ok (.invokevirtual 177, 3) := by decide +kernel
theorem dX10_apart_16 : decode cX10_apart 16 = .ok (.ifCond .eq 14, 3) := by decide +kernel
theorem dX10_apart_19 : decode cX10_apart 19 = .ok (.aload_n 0, 1) := by decide +kernel
theorem dX10_apart_20 : decode cX10_apart 20 = .ok (.getfield 75, 3) := by decide +kernel
theorem dX10_apart_23 : decode cX10_apart 23 = .ok (.iload_n 3, 1) := by decide +kernel
theorem dX10_apart_24 : decode cX10_apart 24 = .ok (.invokevirtual 177, 3) := by decide +kernel
theorem dX10_apart_27 : decode cX10_apart 27 = .ok (.ifCond .ne 6, 3) := by decide +kernel
theorem dX10_apart_30 : decode cX10_apart 30 = .ok (.bipush (-101), 2) := by decide +kernel
theorem dX10_apart_32 : decode cX10_apart 32 = .ok (.ireturn, 1) := by decide +kernel
theorem dX10_apart_33 : decode cX10_apart 33 = .ok (.aload_n 0, 1) := by decide +kernel
theorem dX10_apart_34 : decode cX10_apart 34 = .ok (.aload_n 0, 1) := by decide +kernel
theorem dX10_apart_35 : decode cX10_apart 35 = .ok (.getfield 58, 3) := by decide +kernel
theorem dX10_apart_38 : decode cX10_apart 38 = .ok (.iload_n 1, 1) := by decide +kernel
theorem dX10_apart_39 : decode cX10_apart 39 = .ok (.aaload, 1) := by decide +kernel
theorem dX10_apart_40 : decode cX10_apart 40 = .ok (.aload_n 0, 1) := by decide +kernel
theorem dX10_apart_41 : decode cX10_apart 41 = .ok (.getfield 75, 3) := by decide +kernel
theorem dX10_apart_44 : decode cX10_apart 44 = .ok (.invokevirtual 225, 3) := by decide +kernel
theorem dX10_apart_47 : decode cX10_apart 47 = .ok (.aload_n 0, 1) := by decide +kernel
theorem dX10_apart_48 : decode cX10_apart 48 = .ok (.getfield 89, 3) := by decide +kernel
theorem dX10_apart_51 : decode cX10_apart 51 = .ok (.getfield 180, 3) := by decide +kernel
theorem dX10_apart_54 : decode cX10_apart 54 = .ok (.iload_n 2, 1) := by decide +kernel
theorem dX10_apart_55 : decode cX10_apart 55 = .ok (.iaload, 1) := by decide +kernel
theorem dX10_apart_56 : decode cX10_apart 56 = .ok (.aload_n 0, 1) := by decide +kernel
theorem dX10_apart_57 : decode cX10_apart 57 = .ok (.getfield 89, 3) := by decide +kernel
theorem dX10_apart_60 : decode cX10_apart 60 = .ok (.getfield 180, 3) := by decide +kernel
theorem dX10_apart_63 : decode cX10_apart 63 = .ok (.iload_n 3, 1) := by decide +kernel
theorem dX10_apart_64 : decode cX10_apart 64 = .ok (.iaload, 1) := by decide +kernel
theorem dX10_apart_65 : decode cX10_apart 65 = .ok (.isub, 1) := by decide +kernel
theorem dX10_apart_66 : decode cX10_apart 66 = .ok (.invokestatic 243, 3) := by decide +kernel
theorem dX10_apart_69 : decode cX10_apart 69 = .ok (.ireturn, 1) := by decide +kernel
set_option maxHeartbeats 4000000 in
set_option maxRecDepth 100000 in
theorem c_X10_apart (l : Launch) (E : zE) (n : Nat) (h : zH) (a0 : Nat) (p0 : Int32) (p1 : Int32) (p2 : Int32) (res : Int32 × zH) (hf : F_X10_apart n h a0 p0 p1 p2 = some res) : Met l yX10_apart (zw yX10_apart cX10_apart 4 (some .int)) ({ frames := 5, cells := 0, slots := 0, locals := 122 } : Room) (zPc E h [.ref (zB E + a0), .int p0, .int p1, .int p2]) (zQc E res.2 (some (.int res.1))) 0 0 (zfr E) := by
  refine zmet (lo := [(0, .ref (zB E + a0)), (1, .int p0), (2, .int p1), (3, .int p2)]) (by decide +kernel) (Nat.le_of_ble_eq_true rfl) rfl ?_
  intro p e s m args below meth c C hr hin
  unfold F_X10_apart at hf
  have J30 : ∀ (h2 : zH), F_X10_apart_J30 n h2 = some res → zW p l e (headSpec (zw yX10_apart cX10_apart 4 (some .int)) ({ frames := 5, cells := 0, slots := 0, locals := 122 } : Room)).room s m args below meth c E 4 (MQ below (zQc E res.2 (some (.int res.1))) args s 0 0 (zfr E)) 0 0 30 [] [] h2 := by
    intro h2 hf
    unfold F_X10_apart_J30 at hf
    refine zr_bipush (v := -101) C dX10_apart_30 (by decide) ?_
    exact zr_ireturn C hf hr (Nat.le_of_ble_eq_true rfl) (Nat.le_of_ble_eq_true rfl) dX10_apart_32
  refine zr_aload_n C dX10_apart_0 rfl 0 rfl ?_
  refine zr_iload_n C dX10_apart_1 rfl 1 rfl ?_
  refine zr_callVi (As := [.int p0]) (rest := []) C hf (fun x hx => c_X10_hasRow l E n h a0 p0 x hx) kv_X10_222 rfl rfl (Nat.le_of_ble_eq_true rfl) ⟨rfl, rfl⟩ ⟨Nat.le_of_ble_eq_true rfl, Nat.le_of_ble_eq_true rfl⟩ ⟨Nat.le_of_ble_eq_true rfl, Nat.le_of_ble_eq_true rfl⟩ dX10_apart_2 (fun x4 h3 hf => ?_)
  refine zr_if_eq (tgt := 30) C hf dX10_apart_5 (by decide) (fun hf => ?_) (fun hf => ?_)
  · refine zsub [] rfl ?_
    exact J30 h3 hf
  · refine zr_aload_n C dX10_apart_8 rfl 0 rfl ?_
    refine zr_gr C hf kg_X10_75 (fun _ _ _ => rfl) dX10_apart_9 (fun w5 hf => ?_)
    refine zr_iload_n C dX10_apart_12 rfl 2 rfl ?_
    refine zr_callVi (As := [.int p1]) (rest := []) C hf (fun x hx => c_X4_has l E n h3 w5 p1 x hx) kv_X10_177 rfl rfl (Nat.le_of_ble_eq_true rfl) ⟨rfl, rfl⟩ ⟨Nat.le_of_ble_eq_true rfl, Nat.le_of_ble_eq_true rfl⟩ ⟨Nat.le_of_ble_eq_true rfl, Nat.le_of_ble_eq_true rfl⟩ dX10_apart_13 (fun x7 h6 hf => ?_)
    refine zr_if_eq (tgt := 30) C hf dX10_apart_16 (by decide) (fun hf => ?_) (fun hf => ?_)
    · refine zsub [] rfl ?_
      exact J30 h6 hf
    · refine zr_aload_n C dX10_apart_19 rfl 0 rfl ?_
      refine zr_gr C hf kg_X10_75 (fun _ _ _ => rfl) dX10_apart_20 (fun w8 hf => ?_)
      refine zr_iload_n C dX10_apart_23 rfl 3 rfl ?_
      refine zr_callVi (As := [.int p2]) (rest := []) C hf (fun x hx => c_X4_has l E n h6 w8 p2 x hx) kv_X10_177 rfl rfl (Nat.le_of_ble_eq_true rfl) ⟨rfl, rfl⟩ ⟨Nat.le_of_ble_eq_true rfl, Nat.le_of_ble_eq_true rfl⟩ ⟨Nat.le_of_ble_eq_true rfl, Nat.le_of_ble_eq_true rfl⟩ dX10_apart_24 (fun x10 h9 hf => ?_)
      refine zr_if_ne (tgt := 33) C hf dX10_apart_27 (by decide) (fun hf => ?_) (fun hf => ?_)
      · refine zr_aload_n C dX10_apart_33 rfl 0 rfl ?_
        refine zr_aload_n C dX10_apart_34 rfl 0 rfl ?_
        refine zr_gr C hf kg_X10_58 (fun _ _ _ => rfl) dX10_apart_35 (fun w11 hf => ?_)
        refine zr_iload_n C dX10_apart_38 rfl 1 rfl ?_
        refine zr_aaload (t0 := 5) C hf (by decide) rfl rfl dX10_apart_39 (fun w12 hf => ?_)
        refine zr_aload_n C dX10_apart_40 rfl 0 rfl ?_
        refine zr_gr C hf kg_X10_75 (fun _ _ _ => rfl) dX10_apart_41 (fun w13 hf => ?_)
        refine zr_callVv (As := [.ref (zB E + w12), .ref (zB E + w13)]) (rest := []) C hf (fun x hx => c_X10_tryRow l E n h9 a0 w12 w13 x hx) kv_X10_225 rfl rfl (Nat.le_of_ble_eq_true rfl) ⟨rfl, rfl⟩ ⟨Nat.le_of_ble_eq_true rfl, Nat.le_of_ble_eq_true rfl⟩ ⟨Nat.le_of_ble_eq_true rfl, Nat.le_of_ble_eq_true rfl⟩ dX10_apart_44 (fun _ h14 hf => ?_)
        refine zr_aload_n C dX10_apart_47 rfl 0 rfl ?_
        refine zr_gr C hf kg_X10_89 (fun _ _ _ => rfl) dX10_apart_48 (fun w15 hf => ?_)
        refine zr_gr C hf kg_X10_180 (fun _ _ _ => rfl) dX10_apart_51 (fun w16 hf => ?_)
        refine zr_iload_n C dX10_apart_54 rfl 2 rfl ?_
        refine zr_iaload C hf dX10_apart_55 (fun x17 hf => ?_)
        refine zr_aload_n C dX10_apart_56 rfl 0 rfl ?_
        refine zr_gr C hf kg_X10_89 (fun _ _ _ => rfl) dX10_apart_57 (fun w18 hf => ?_)
        refine zr_gr C hf kg_X10_180 (fun _ _ _ => rfl) dX10_apart_60 (fun w19 hf => ?_)
        refine zr_iload_n C dX10_apart_63 rfl 3 rfl ?_
        refine zr_iaload C hf dX10_apart_64 (fun x20 hf => ?_)
        refine zr_isub C hf dX10_apart_65 (fun x21 hf => ?_)
        refine zr_abs C hf zt706 zt707 zt77 zt708 ⟨Nat.le_of_ble_eq_true rfl, Nat.le_of_ble_eq_true rfl⟩ ⟨Nat.le_of_ble_eq_true rfl, Nat.le_of_ble_eq_true rfl⟩ dX10_apart_66 (fun x22 hf => ?_)
        exact zr_ireturn C hf hr (Nat.le_of_ble_eq_true rfl) (Nat.le_of_ble_eq_true rfl) dX10_apart_69
      · refine zsub [] rfl ?_
        exact J30 h9 hf
theorem dX6_add_0 : decode cX6_add 0 = .ok (.aload_n 0, 1) := by decide +kernel
theorem dX6_add_1 : decode cX6_add 1 = .ok (.getfield 18, 3) := by decide +kernel
theorem dX6_add_4 : decode cX6_add 4 = .ok (.bipush 12, 2) := by decide +kernel
theorem dX6_add_6 : decode cX6_add 6 = .ok (.if_icmp .lt 6, 3) := by decide +kernel
theorem dX6_add_9 : decode cX6_add 9 = .ok (.bipush (-104), 2) := by decide +kernel
theorem dX6_add_11 : decode cX6_add 11 = .ok (.ireturn, 1) := by decide +kernel
theorem dX6_add_12 : decode cX6_add 12 = .ok (.aload_n 0, 1) := by decide +kernel
theorem dX6_add_13 : decode cX6_add 13 = .ok (.getfield 9, 3) := by decide +kernel
theorem dX6_add_16 : decode cX6_add 16 = .ok (.aload_n 0, 1) := by decide +kernel
theorem dX6_add_17 : decode cX6_add 17 = .ok (.getfield 18, 3) := by decide +kernel
theorem dX6_add_20 : decode cX6_add 20 = .ok (.iload_n 1, 1) := by decide +kernel
theorem dX6_add_21 : decode cX6_add 21 = .ok (.iastore, 1) := by decide +kernel
theorem dX6_add_22 : decode cX6_add 22 = .ok (.aload_n 0, 1) := by decide +kernel
theorem dX6_add_23 : decode cX6_add 23 = .ok (.getfield 15, 3) := by decide +kernel
theorem dX6_add_26 : decode cX6_add 26 = .ok (.aload_n 0, 1) := by decide +kernel
theorem dX6_add_27 : decode cX6_add 27 = .ok (.getfield 18, 3) := by decide +kernel
theorem dX6_add_30 : decode cX6_add 30 = .ok (.iload_n 2, 1) := by decide +kernel
theorem dX6_add_31 : decode cX6_add 31 = .ok (.iastore, 1) := by decide +kernel
theorem dX6_add_32 : decode cX6_add 32 = .ok (.aload_n 0, 1) := by decide +kernel
theorem dX6_add_33 : decode cX6_add 33 = .ok (.dup, 1) := by decide +kernel
theorem dX6_add_34 : decode cX6_add 34 = .ok (.getfield 18, 3) := by decide +kernel
theorem dX6_add_37 : decode cX6_add 37 = .ok (.iconst 1, 1) := by decide +kernel
theorem dX6_add_38 : decode cX6_add 38 = .ok (.iadd, 1) := by decide +kernel
theorem dX6_add_39 : decode cX6_add 39 = .ok (.putfield 18, 3) := by decide +kernel
theorem dX6_add_42 : decode cX6_add 42 = .ok (.aload_n 0, 1) := by decide +kernel
theorem dX6_add_43 : decode cX6_add 43 = .ok (.getfield 18, 3) := by decide +kernel
theorem dX6_add_46 : decode cX6_add 46 = .ok (.ireturn, 1) := by decide +kernel
set_option maxHeartbeats 4000000 in
set_option maxRecDepth 100000 in
theorem c_X6_add (l : Launch) (E : zE) (n : Nat) (h : zH) (a0 : Nat) (p0 : Int32) (p1 : Int32) (res : Int32 × zH) (hf : F_X6_add n h a0 p0 p1 = some res) : Met l yX6_add (zw yX6_add cX6_add 3 (some .int)) ({ frames := 0, cells := 0, slots := 0, locals := 0 } : Room) (zPc E h [.ref (zB E + a0), .int p0, .int p1]) (zQc E res.2 (some (.int res.1))) 0 0 (zfr E) := by
  refine zmet (lo := [(0, .ref (zB E + a0)), (1, .int p0), (2, .int p1)]) (by decide +kernel) (Nat.le_of_ble_eq_true rfl) rfl ?_
  intro p e s m args below meth c C hr hin
  unfold F_X6_add at hf
  refine zr_aload_n C dX6_add_0 rfl 0 rfl ?_
  refine zr_gi C hf kg_X6_18 (fun _ _ _ => rfl) dX6_add_1 (fun x1 hf => ?_)
  refine zr_bipush (v := 12) C dX6_add_4 (by decide) ?_
  refine zr_icmp_lt (tgt := 12) C hf dX6_add_6 (by decide) (fun hf => ?_) (fun hf => ?_)
  · refine zr_aload_n C dX6_add_12 rfl 0 rfl ?_
    refine zr_gr C hf kg_X6_9 (fun _ _ _ => rfl) dX6_add_13 (fun w2 hf => ?_)
    refine zr_aload_n C dX6_add_16 rfl 0 rfl ?_
    refine zr_gi C hf kg_X6_18 (fun _ _ _ => rfl) dX6_add_17 (fun x3 hf => ?_)
    refine zr_iload_n C dX6_add_20 rfl 1 rfl ?_
    refine zr_iastore C hf dX6_add_21 (fun h4 hf => ?_)
    refine zr_aload_n C dX6_add_22 rfl 0 rfl ?_
    refine zr_gr C hf kg_X6_15 (fun _ _ _ => rfl) dX6_add_23 (fun w5 hf => ?_)
    refine zr_aload_n C dX6_add_26 rfl 0 rfl ?_
    refine zr_gi C hf kg_X6_18 (fun _ _ _ => rfl) dX6_add_27 (fun x6 hf => ?_)
    refine zr_iload_n C dX6_add_30 rfl 2 rfl ?_
    refine zr_iastore C hf dX6_add_31 (fun h7 hf => ?_)
    refine zr_aload_n C dX6_add_32 rfl 0 rfl ?_
    refine zr_dup C dX6_add_33 rfl ?_
    refine zr_gi C hf kg_X6_18 (fun _ _ _ => rfl) dX6_add_34 (fun x8 hf => ?_)
    refine zr_iconst (v := 1) C dX6_add_37 (by decide) ?_
    refine zr_iadd C hf dX6_add_38 (fun x9 hf => ?_)
    refine zr_si C hf kp_X6_18 (fun _ _ _ => rfl) rfl dX6_add_39 (fun h10 hf => ?_)
    refine zr_aload_n C dX6_add_42 rfl 0 rfl ?_
    refine zr_gi C hf kg_X6_18 (fun _ _ _ => rfl) dX6_add_43 (fun x11 hf => ?_)
    exact zr_ireturn C hf hr (Nat.le_of_ble_eq_true rfl) (Nat.le_of_ble_eq_true rfl) dX6_add_46
  · refine zr_bipush (v := -104) C dX6_add_9 (by decide) ?_
    exact zr_ireturn C hf hr (Nat.le_of_ble_eq_true rfl) (Nat.le_of_ble_eq_true rfl) dX6_add_11
theorem dX10_picture_0 : decode cX10_picture 0 = .ok (.iload_n 1, 1) := by decide +kernel
theorem dX10_picture_1 : decode cX10_picture 1 = .ok (.bipush (-99), 2) := by decide +kernel
theorem dX10_picture_3 : decode cX10_picture 3 = .ok (.bipush 99, 2) := by decide +kernel
theorem dX10_picture_5 : decode cX10_picture 5 = .ok (.invokestatic 148, 3) := by decide +kernel
theorem dX10_picture_8 : decode cX10_picture 8 = .ok (.ifCond .eq 14, 3) := by decide +kernel
theorem dX10_picture_11 : decode cX10_picture 11 = .ok (.iload_n 2, 1) := by decide +kernel
theorem dX10_picture_12 : decode cX10_picture 12 = .ok (.bipush (-99), 2) := by decide +kernel
theorem dX10_picture_14 : decode cX10_picture 14 = .ok (.bipush 99, 2) := by decide +kernel
theorem dX10_picture_16 : decode cX10_picture 16 = .ok (.invokestatic 148, 3) := by decide +kernel
theorem dX10_picture_19 : decode cX10_picture 19 = .ok (.ifCond .ne 6, 3) := by decide +kernel
theorem dX10_picture_22 : decode cX10_picture 22 = .ok (.bipush (-102), 2) := by decide +kernel
theorem dX10_picture_24 : decode cX10_picture 24 = .ok (.ireturn, 1) := by decide +kernel
theorem dX10_picture_25 : decode cX10_picture 25 = .ok (.aload_n 0, 1) := by decide +kernel
theorem dX10_picture_26 : decode cX10_picture 26 = .ok (.getfield 109, 3) := by decide +kernel
theorem dX10_picture_29 : decode cX10_picture 29 = .ok (.iload_n 1, 1) := by decide +kernel
theorem dX10_picture_30 : decode cX10_picture 30 = .ok (.iload_n 2, 1) := by decide +kernel
theorem dX10_picture_31 : decode cX10_picture 31 = .ok (.invokevirtual 249, 3) := by decide +kernel
theorem dX10_picture_34 : decode cX10_picture 34 = .ok (.ireturn, 1) := by decide +kernel
set_option maxHeartbeats 4000000 in
set_option maxRecDepth 100000 in
theorem c_X10_picture (l : Launch) (E : zE) (n : Nat) (h : zH) (a0 : Nat) (p0 : Int32) (p1 : Int32) (res : Int32 × zH) (hf : F_X10_picture n h a0 p0 p1 = some res) : Met l yX10_picture (zw yX10_picture cX10_picture 3 (some .int)) ({ frames := 1, cells := 0, slots := 0, locals := 22 } : Room) (zPc E h [.ref (zB E + a0), .int p0, .int p1]) (zQc E res.2 (some (.int res.1))) 0 0 (zfr E) := by
  refine zmet (lo := [(0, .ref (zB E + a0)), (1, .int p0), (2, .int p1)]) (by decide +kernel) (Nat.le_of_ble_eq_true rfl) rfl ?_
  intro p e s m args below meth c C hr hin
  unfold F_X10_picture at hf
  have J22 : ∀ (h2 : zH), F_X10_picture_J22 n h2 = some res → zW p l e (headSpec (zw yX10_picture cX10_picture 3 (some .int)) ({ frames := 1, cells := 0, slots := 0, locals := 22 } : Room)).room s m args below meth c E 3 (MQ below (zQc E res.2 (some (.int res.1))) args s 0 0 (zfr E)) 0 0 22 [] [] h2 := by
    intro h2 hf
    unfold F_X10_picture_J22 at hf
    refine zr_bipush (v := -102) C dX10_picture_22 (by decide) ?_
    exact zr_ireturn C hf hr (Nat.le_of_ble_eq_true rfl) (Nat.le_of_ble_eq_true rfl) dX10_picture_24
  refine zr_iload_n C dX10_picture_0 rfl 1 rfl ?_
  refine zr_bipush (v := -99) C dX10_picture_1 (by decide) ?_
  refine zr_bipush (v := 99) C dX10_picture_3 (by decide) ?_
  refine zr_callSi (As := [.int p0, .int (-99 : Int32), .int (99 : Int32)]) (rest := []) C hf (fun x hx => c_X10_isWithin l E n h p0 (-99 : Int32) (99 : Int32) x hx) ks_X10_148 rfl rfl (Nat.le_of_ble_eq_true rfl) ⟨rfl, rfl⟩ ⟨Nat.le_of_ble_eq_true rfl, Nat.le_of_ble_eq_true rfl⟩ ⟨Nat.le_of_ble_eq_true rfl, Nat.le_of_ble_eq_true rfl⟩ dX10_picture_5 (fun x4 h3 hf => ?_)
  refine zr_if_eq (tgt := 22) C hf dX10_picture_8 (by decide) (fun hf => ?_) (fun hf => ?_)
  · refine zsub [] rfl ?_
    exact J22 h3 hf
  · refine zr_iload_n C dX10_picture_11 rfl 2 rfl ?_
    refine zr_bipush (v := -99) C dX10_picture_12 (by decide) ?_
    refine zr_bipush (v := 99) C dX10_picture_14 (by decide) ?_
    refine zr_callSi (As := [.int p1, .int (-99 : Int32), .int (99 : Int32)]) (rest := []) C hf (fun x hx => c_X10_isWithin l E n h3 p1 (-99 : Int32) (99 : Int32) x hx) ks_X10_148 rfl rfl (Nat.le_of_ble_eq_true rfl) ⟨rfl, rfl⟩ ⟨Nat.le_of_ble_eq_true rfl, Nat.le_of_ble_eq_true rfl⟩ ⟨Nat.le_of_ble_eq_true rfl, Nat.le_of_ble_eq_true rfl⟩ dX10_picture_16 (fun x6 h5 hf => ?_)
    refine zr_if_ne (tgt := 25) C hf dX10_picture_19 (by decide) (fun hf => ?_) (fun hf => ?_)
    · refine zr_aload_n C dX10_picture_25 rfl 0 rfl ?_
      refine zr_gr C hf kg_X10_109 (fun _ _ _ => rfl) dX10_picture_26 (fun w7 hf => ?_)
      refine zr_iload_n C dX10_picture_29 rfl 1 rfl ?_
      refine zr_iload_n C dX10_picture_30 rfl 2 rfl ?_
      refine zr_callVi (As := [.int p0, .int p1]) (rest := []) C hf (fun x hx => c_X6_add l E n h5 w7 p0 p1 x hx) kv_X10_249 rfl rfl (Nat.le_of_ble_eq_true rfl) ⟨rfl, rfl⟩ ⟨Nat.le_of_ble_eq_true rfl, Nat.le_of_ble_eq_true rfl⟩ ⟨Nat.le_of_ble_eq_true rfl, Nat.le_of_ble_eq_true rfl⟩ dX10_picture_31 (fun x9 h8 hf => ?_)
      exact zr_ireturn C hf hr (Nat.le_of_ble_eq_true rfl) (Nat.le_of_ble_eq_true rfl) dX10_picture_34
    · refine zsub [] rfl ?_
      exact J22 h5 hf
theorem dX6_offBy_0 : decode cX6_offBy 0 = .ok (.iconst 0, 1) := by decide +kernel
theorem dX6_offBy_1 : decode cX6_offBy 1 = .ok (.istore_n 2, 1) := by decide +kernel
theorem dX6_offBy_2 : decode cX6_offBy 2 = .ok (.iconst 0, 1) := by decide +kernel
theorem dX6_offBy_3 : decode cX6_offBy 3 = .ok (.istore_n 3, 1) := by decide +kernel
theorem dX6_offBy_4 : decode cX6_offBy 4 = .ok (.iload_n 3, 1) := by decide +kernel
theorem dX6_offBy_5 : decode cX6_offBy 5 = .ok (.aload_n 0, 1) := by decide +kernel
theorem dX6_offBy_6 : decode cX6_offBy 6 = .ok (.getfield 18, 3) := by decide +kernel
theorem dX6_offBy_9 : decode cX6_offBy 9 = .ok (.if_icmp .ge 32, 3) := by decide +kernel
theorem dX6_offBy_12 : decode cX6_offBy 12 = .ok (.iload_n 2, 1) := by decide +kernel
theorem dX6_offBy_13 : decode cX6_offBy 13 = .ok (.aload_n 0, 1) := by decide +kernel
theorem dX6_offBy_14 : decode cX6_offBy 14 = .ok (.getfield 9, 3) := by decide +kernel
theorem dX6_offBy_17 : decode cX6_offBy 17 = .ok (.iload_n 3, 1) := by decide +kernel
theorem dX6_offBy_18 : decode cX6_offBy 18 = .ok (.iaload, 1) := by decide +kernel
theorem dX6_offBy_19 : decode cX6_offBy 19 = .ok (.iload_n 1, 1) := by decide +kernel
theorem dX6_offBy_20 : decode cX6_offBy 20 = .ok (.invokestatic 22, 3) := by decide +kernel
theorem dX6_offBy_23 : decode cX6_offBy 23 = .ok (.aload_n 0, 1) := by decide +kernel
theorem dX6_offBy_24 : decode cX6_offBy 24 = .ok (.getfield 15, 3) := by decide +kernel
theorem dX6_offBy_27 : decode cX6_offBy 27 = .ok (.iload_n 3, 1) := by decide +kernel
theorem dX6_offBy_28 : decode cX6_offBy 28 = .ok (.iaload, 1) := by decide +kernel
theorem dX6_offBy_29 : decode cX6_offBy 29 = .ok (.isub, 1) := by decide +kernel
theorem dX6_offBy_30 : decode cX6_offBy 30 = .ok (.invokestatic 28, 3) := by decide +kernel
theorem dX6_offBy_33 : decode cX6_offBy 33 = .ok (.iadd, 1) := by decide +kernel
theorem dX6_offBy_34 : decode cX6_offBy 34 = .ok (.istore_n 2, 1) := by decide +kernel
theorem dX6_offBy_35 : decode cX6_offBy 35 = .ok (.iinc 3 1, 3) := by decide +kernel
theorem dX6_offBy_38 : decode cX6_offBy 38 = .ok (.goto (-34), 3) := by decide +kernel
theorem dX6_offBy_41 : decode cX6_offBy 41 = .ok (.iload_n 2, 1) := by decide +kernel
theorem dX6_offBy_42 : decode cX6_offBy 42 = .ok (.ireturn, 1) := by decide +kernel
set_option maxHeartbeats 4000000 in
set_option maxRecDepth 100000 in
theorem c_X6_offBy (l : Launch) (E : zE) (n : Nat) (h : zH) (a0 : Nat) (p0 : Int32) (res : Int32 × zH) (hf : F_X6_offBy n h a0 p0 = some res) : Met l yX6_offBy (zw yX6_offBy cX6_offBy 4 (some .int)) ({ frames := 1, cells := 0, slots := 0, locals := 21 } : Room) (zPc E h [.ref (zB E + a0), .int p0]) (zQc E res.2 (some (.int res.1))) 0 0 (zfr E) := by
  refine zmet (lo := [(0, .ref (zB E + a0)), (1, .int p0)]) (by decide +kernel) (Nat.le_of_ble_eq_true rfl) rfl ?_
  intro p e s m args below meth c C hr hin
  unfold F_X6_offBy at hf
  refine zr_iconst (v := 0) C dX6_offBy_0 (by decide) ?_
  refine zr_istore_n (lo2 := [(2, .int (0 : Int32)), (0, .ref (zB E + a0)), (1, .int p0)]) C dX6_offBy_1 rfl (by decide) rfl ?_
  refine zr_iconst (v := 0) C dX6_offBy_2 (by decide) ?_
  refine zr_istore_n (lo2 := [(3, .int (0 : Int32)), (2, .int (0 : Int32)), (0, .ref (zB E + a0)), (1, .int p0)]) C dX6_offBy_3 rfl (by decide) rfl ?_
  have L4 : ∀ (fu : Nat) (x : zH × Int32 × Int32), zloop (fun kc x => F_X6_offBy_B4 n kc x.1 a0 p0 x.2.1 x.2.2) fu x = some res → zW p l e (headSpec (zw yX6_offBy cX6_offBy 4 (some .int)) ({ frames := 1, cells := 0, slots := 0, locals := 21 } : Room)).room s m args below meth c E 4 (MQ below (zQc E res.2 (some (.int res.1))) args s 0 0 (zfr E)) 0 0 4 [(0, .ref (zB E + a0)), (1, .int p0), (2, .int x.2.1), (3, .int x.2.2)] [] x.1 := by
    refine z_loop _ ?_
    intro kc4 hk4 x hf
    obtain ⟨h19, x17, x18⟩ := x
    dsimp only at hf ⊢
    unfold F_X6_offBy_B4 at hf
    refine zr_iload_n C dX6_offBy_4 rfl 3 rfl ?_
    refine zr_aload_n C dX6_offBy_5 rfl 0 rfl ?_
    refine zr_gi C hf kg_X6_18 (fun _ _ _ => rfl) dX6_offBy_6 (fun x20 hf => ?_)
    refine zr_icmp_ge (tgt := 41) C hf dX6_offBy_9 (by decide) (fun hf => ?_) (fun hf => ?_)
    · refine zr_iload_n C dX6_offBy_41 rfl 2 rfl ?_
      exact zr_ireturn C hf hr (Nat.le_of_ble_eq_true rfl) (Nat.le_of_ble_eq_true rfl) dX6_offBy_42
    · refine zr_iload_n C dX6_offBy_12 rfl 2 rfl ?_
      refine zr_aload_n C dX6_offBy_13 rfl 0 rfl ?_
      refine zr_gr C hf kg_X6_9 (fun _ _ _ => rfl) dX6_offBy_14 (fun w21 hf => ?_)
      refine zr_iload_n C dX6_offBy_17 rfl 3 rfl ?_
      refine zr_iaload C hf dX6_offBy_18 (fun x22 hf => ?_)
      refine zr_iload_n C dX6_offBy_19 rfl 1 rfl ?_
      refine zr_callSi (As := [.int x22, .int p0]) (rest := [.int x17]) C hf (fun x hx => c_X0_left l E n h19 x22 p0 x hx) ks_X6_22 rfl rfl (Nat.le_of_ble_eq_true rfl) ⟨rfl, rfl⟩ ⟨Nat.le_of_ble_eq_true rfl, Nat.le_of_ble_eq_true rfl⟩ ⟨Nat.le_of_ble_eq_true rfl, Nat.le_of_ble_eq_true rfl⟩ dX6_offBy_20 (fun x24 h23 hf => ?_)
      refine zr_aload_n C dX6_offBy_23 rfl 0 rfl ?_
      refine zr_gr C hf kg_X6_15 (fun _ _ _ => rfl) dX6_offBy_24 (fun w25 hf => ?_)
      refine zr_iload_n C dX6_offBy_27 rfl 3 rfl ?_
      refine zr_iaload C hf dX6_offBy_28 (fun x26 hf => ?_)
      refine zr_isub C hf dX6_offBy_29 (fun x27 hf => ?_)
      refine zr_abs C hf zt764 zt707 zt77 zt708 ⟨Nat.le_of_ble_eq_true rfl, Nat.le_of_ble_eq_true rfl⟩ ⟨Nat.le_of_ble_eq_true rfl, Nat.le_of_ble_eq_true rfl⟩ dX6_offBy_30 (fun x28 hf => ?_)
      refine zr_iadd C hf dX6_offBy_33 (fun x29 hf => ?_)
      refine zr_istore_n (lo2 := [(2, .int x29), (0, .ref (zB E + a0)), (1, .int p0), (3, .int x18)]) C dX6_offBy_34 rfl (by decide) rfl ?_
      refine zr_iinc (v0 := 1) (k := 3) (f := fun v => [(3, .int v), (2, .int x29), (0, .ref (zB E + a0)), (1, .int p0)]) C hf (by decide) dX6_offBy_35 rfl (by decide) (fun v => rfl) (fun x30 hf => ?_)
      refine zr_goto (tgt := 4) C dX6_offBy_38 (by decide) ?_
      refine zsub [2, 3, 1, 0] rfl ?_
      exact hk4 (h23, x29, x30) hf
  refine zsub [2, 3, 1, 0] rfl ?_
  exact L4 n (h, (0 : Int32), (0 : Int32)) hf
theorem dX6_bestFloor_0 : decode cX6_bestFloor 0 = .ok (.iconst 0, 1) := by decide +kernel
theorem dX6_bestFloor_1 : decode cX6_bestFloor 1 = .ok (.istore_n 1, 1) := by decide +kernel
theorem dX6_bestFloor_2 : decode cX6_bestFloor 2 = .ok (.ldc 34, 2) := by decide +kernel
theorem dX6_bestFloor_4 : decode cX6_bestFloor 4 = .ok (.istore_n 2, 1) := by decide +kernel
theorem dX6_bestFloor_5 : decode cX6_bestFloor 5 = .ok (.iconst 0, 1) := by decide +kernel
theorem dX6_bestFloor_6 : decode cX6_bestFloor 6 = .ok (.istore_n 3, 1) := by decide +kernel
theorem dX6_bestFloor_7 : decode cX6_bestFloor 7 = .ok (.iload_n 3, 1) := by decide +kernel
theorem dX6_bestFloor_8 : decode cX6_bestFloor 8 = .ok (.bipush 9, 2) := by decide +kernel
theorem dX6_bestFloor_10 : decode cX6_bestFloor 10 = .ok (.if_icmp .gt 27, 3) := by decide +kernel
theorem dX6_bestFloor_13 : decode cX6_bestFloor 13 = .ok (.aload_n 0, 1) := by decide +kernel
theorem dX6_bestFloor_14 : decode cX6_bestFloor 14 = .ok (.iload_n 3, 1) := by decide +kernel
theorem dX6_bestFloor_15 : decode cX6_bestFloor 15 = .ok (.invokevirtual 35, 3) := by decide +kernel
theorem dX6_bestFloor_18 : decode cX6_bestFloor 18 = .ok (.istore 4, 2) := by decide +kernel
theorem dX6_bestFloor_20 : decode cX6_bestFloor 20 = .ok (.iload 4, 2) := by decide +kernel
theorem dX6_bestFloor_22 : decode cX6_bestFloor 22 = .ok (.iload_n 2, 1) := by decide +kernel
theorem dX6_bestFloor_23 : decode cX6_bestFloor 23 = .ok (.if_icmp .ge 8, 3) := by decide +kernel
theorem dX6_bestFloor_26 : decode cX6_bestFloor 26 = .ok (.iload 4, 2) := by decide +kernel
theorem dX6_bestFloor_28 : decode cX6_bestFloor 28 = .ok (.istore_n 2, 1) := by decide +kernel
theorem dX6_bestFloor_29 : decode cX6_bestFloor 29 = .ok (.iload_n 3, 1) := by decide +kernel
theorem dX6_bestFloor_30 : decode cX6_bestFloor 30 = .ok (.istore_n 1, 1) := by decide +kernel
theorem dX6_bestFloor_31 : decode cX6_bestFloor 31 = .ok (.iinc 3 1, 3) := by decide +kernel
theorem dX6_bestFloor_34 : decode cX6_bestFloor 34 = .ok (.goto (-27), 3) := by decide +kernel
theorem dX6_bestFloor_37 : decode cX6_bestFloor 37 = .ok (.iload_n 1, 1) := by decide +kernel
theorem dX6_bestFloor_38 : decode cX6_bestFloor 38 = .ok (.ireturn, 1) := by decide +kernel
set_option maxHeartbeats 4000000 in
set_option maxRecDepth 100000 in
theorem c_X6_bestFloor (l : Launch) (E : zE) (n : Nat) (h : zH) (a0 : Nat) (res : Int32 × zH) (hf : F_X6_bestFloor n h a0 = some res) : Met l yX6_bestFloor (zw yX6_bestFloor cX6_bestFloor 5 (some .int)) ({ frames := 2, cells := 0, slots := 0, locals := 44 } : Room) (zPc E h [.ref (zB E + a0)]) (zQc E res.2 (some (.int res.1))) 0 0 (zfr E) := by
  refine zmet (lo := [(0, .ref (zB E + a0))]) (by decide +kernel) (Nat.le_of_ble_eq_true rfl) rfl ?_
  intro p e s m args below meth c C hr hin
  unfold F_X6_bestFloor at hf
  refine zr_iconst (v := 0) C dX6_bestFloor_0 (by decide) ?_
  refine zr_istore_n (lo2 := [(1, .int (0 : Int32)), (0, .ref (zB E + a0))]) C dX6_bestFloor_1 rfl (by decide) rfl ?_
  refine zr_ldc (v := 1000000) C zt758 dX6_bestFloor_2 ?_
  refine zr_istore_n (lo2 := [(2, .int (1000000 : Int32)), (1, .int (0 : Int32)), (0, .ref (zB E + a0))]) C dX6_bestFloor_4 rfl (by decide) rfl ?_
  refine zr_iconst (v := 0) C dX6_bestFloor_5 (by decide) ?_
  refine zr_istore_n (lo2 := [(3, .int (0 : Int32)), (2, .int (1000000 : Int32)), (1, .int (0 : Int32)), (0, .ref (zB E + a0))]) C dX6_bestFloor_6 rfl (by decide) rfl ?_
  have L7 : ∀ (fu : Nat) (x : zH × Int32 × Int32 × Int32), zloop (fun kc x => F_X6_bestFloor_B7 n kc x.1 a0 x.2.1 x.2.2.1 x.2.2.2) fu x = some res → zW p l e (headSpec (zw yX6_bestFloor cX6_bestFloor 5 (some .int)) ({ frames := 2, cells := 0, slots := 0, locals := 44 } : Room)).room s m args below meth c E 5 (MQ below (zQc E res.2 (some (.int res.1))) args s 0 0 (zfr E)) 0 0 7 [(0, .ref (zB E + a0)), (1, .int x.2.1), (2, .int x.2.2.1), (3, .int x.2.2.2)] [] x.1 := by
    refine z_loop _ ?_
    intro kc7 hk7 x hf
    obtain ⟨h17, x14, x15, x16⟩ := x
    dsimp only at hf ⊢
    unfold F_X6_bestFloor_B7 at hf
    have J31 : ∀ (h21 : zH) (x18 : Int32) (x19 : Int32) (x20 : Int32), F_X6_bestFloor_J31 n kc7 h21 a0 x18 x19 x20 = some res → zW p l e (headSpec (zw yX6_bestFloor cX6_bestFloor 5 (some .int)) ({ frames := 2, cells := 0, slots := 0, locals := 44 } : Room)).room s m args below meth c E 5 (MQ below (zQc E res.2 (some (.int res.1))) args s 0 0 (zfr E)) 0 0 31 [(0, .ref (zB E + a0)), (1, .int x18), (2, .int x19), (3, .int x20)] [] h21 := by
      intro h21 x18 x19 x20 hf
      unfold F_X6_bestFloor_J31 at hf
      refine zr_iinc (v0 := 1) (k := 3) (f := fun v => [(3, .int v), (0, .ref (zB E + a0)), (1, .int x18), (2, .int x19)]) C hf (by decide) dX6_bestFloor_31 rfl (by decide) (fun v => rfl) (fun x22 hf => ?_)
      refine zr_goto (tgt := 7) C dX6_bestFloor_34 (by decide) ?_
      refine zsub [1, 2, 3, 0] rfl ?_
      exact hk7 (h21, x18, x19, x22) hf
    refine zr_iload_n C dX6_bestFloor_7 rfl 3 rfl ?_
    refine zr_bipush (v := 9) C dX6_bestFloor_8 (by decide) ?_
    refine zr_icmp_gt (tgt := 37) C hf dX6_bestFloor_10 (by decide) (fun hf => ?_) (fun hf => ?_)
    · refine zr_iload_n C dX6_bestFloor_37 rfl 1 rfl ?_
      exact zr_ireturn C hf hr (Nat.le_of_ble_eq_true rfl) (Nat.le_of_ble_eq_true rfl) dX6_bestFloor_38
    · refine zr_aload_n C dX6_bestFloor_13 rfl 0 rfl ?_
      refine zr_iload_n C dX6_bestFloor_14 rfl 3 rfl ?_
      refine zr_callVi (As := [.int x16]) (rest := []) C hf (fun x hx => c_X6_offBy l E n h17 a0 x16 x hx) kv_X6_35 rfl rfl (Nat.le_of_ble_eq_true rfl) ⟨rfl, rfl⟩ ⟨Nat.le_of_ble_eq_true rfl, Nat.le_of_ble_eq_true rfl⟩ ⟨Nat.le_of_ble_eq_true rfl, Nat.le_of_ble_eq_true rfl⟩ dX6_bestFloor_15 (fun x24 h23 hf => ?_)
      refine zr_istore (lo2 := [(4, .int x24), (0, .ref (zB E + a0)), (1, .int x14), (2, .int x15), (3, .int x16)]) C dX6_bestFloor_18 (by decide) rfl ?_
      refine zr_iload C dX6_bestFloor_20 0 rfl ?_
      refine zr_iload_n C dX6_bestFloor_22 rfl 3 rfl ?_
      refine zr_icmp_ge (tgt := 31) C hf dX6_bestFloor_23 (by decide) (fun hf => ?_) (fun hf => ?_)
      · refine zsub [1, 2, 3, 4] rfl ?_
        exact J31 h23 x14 x15 x16 hf
      · refine zr_iload C dX6_bestFloor_26 0 rfl ?_
        refine zr_istore_n (lo2 := [(2, .int x24), (4, .int x24), (0, .ref (zB E + a0)), (1, .int x14), (3, .int x16)]) C dX6_bestFloor_28 rfl (by decide) rfl ?_
        refine zr_iload_n C dX6_bestFloor_29 rfl 4 rfl ?_
        refine zr_istore_n (lo2 := [(1, .int x16), (2, .int x24), (4, .int x24), (0, .ref (zB E + a0)), (3, .int x16)]) C dX6_bestFloor_30 rfl (by decide) rfl ?_
        refine zsub [3, 0, 1, 4] rfl ?_
        exact J31 h23 x16 x24 x16 hf
  refine zsub [3, 2, 1, 0] rfl ?_
  exact L7 n (h, (0 : Int32), (1000000 : Int32), (0 : Int32)) hf
theorem dX10_drag_0 : decode cX10_drag 0 = .ok (.aload_n 0, 1) := by decide +kernel
theorem dX10_drag_1 : decode cX10_drag 1 = .ok (.getfield 109, 3) := by decide +kernel
theorem dX10_drag_4 : decode cX10_drag 4 = .ok (.invokevirtual 251, 3) := by decide +kernel
theorem dX10_drag_7 : decode cX10_drag 7 = .ok (.ireturn, 1) := by decide +kernel
set_option maxHeartbeats 4000000 in
set_option maxRecDepth 100000 in
theorem c_X10_drag (l : Launch) (E : zE) (n : Nat) (h : zH) (a0 : Nat) (res : Int32 × zH) (hf : F_X10_drag n h a0 = some res) : Met l yX10_drag (zw yX10_drag cX10_drag 1 (some .int)) ({ frames := 3, cells := 0, slots := 0, locals := 68 } : Room) (zPc E h [.ref (zB E + a0)]) (zQc E res.2 (some (.int res.1))) 0 0 (zfr E) := by
  refine zmet (lo := [(0, .ref (zB E + a0))]) (by decide +kernel) (Nat.le_of_ble_eq_true rfl) rfl ?_
  intro p e s m args below meth c C hr hin
  unfold F_X10_drag at hf
  refine zr_aload_n C dX10_drag_0 rfl 0 rfl ?_
  refine zr_gr C hf kg_X10_109 (fun _ _ _ => rfl) dX10_drag_1 (fun w1 hf => ?_)
  refine zr_callVi (As := []) (rest := []) C hf (fun x hx => c_X6_bestFloor l E n h w1 x hx) kv_X10_251 rfl rfl (Nat.le_of_ble_eq_true rfl) ⟨rfl, rfl⟩ ⟨Nat.le_of_ble_eq_true rfl, Nat.le_of_ble_eq_true rfl⟩ ⟨Nat.le_of_ble_eq_true rfl, Nat.le_of_ble_eq_true rfl⟩ dX10_drag_4 (fun x3 h2 hf => ?_)
  exact zr_ireturn C hf hr (Nat.le_of_ble_eq_true rfl) (Nat.le_of_ble_eq_true rfl) dX10_drag_7
theorem dX7_has_0 : decode cX7_has 0 = .ok (.iload_n 1, 1) := by decide +kernel
theorem dX7_has_1 : decode cX7_has 1 = .ok (.ifCond .lt 15, 3) := by decide +kernel
theorem dX7_has_4 : decode cX7_has 4 = .ok (.iload_n 1, 1) := by decide +kernel
theorem dX7_has_5 : decode cX7_has 5 = .ok (.aload_n 0, 1) := by decide +kernel
theorem dX7_has_6 : decode cX7_has 6 = .ok (.getfield 25, 3) := by decide +kernel
theorem dX7_has_9 : decode cX7_has 9 = .ok (.if_icmp .ge 7, 3) := by decide +kernel
theorem dX7_has_12 : decode cX7_has 12 = .ok (.iconst 1, 1) := by decide +kernel
theorem dX7_has_13 : decode cX7_has 13 = .ok (.goto 4, 3) := by decide +kernel
theorem dX7_has_16 : decode cX7_has 16 = .ok (.iconst 0, 1) := by decide +kernel
theorem dX7_has_17 : decode cX7_has 17 = .ok (.ireturn, 1) := by decide +kernel
set_option maxHeartbeats 4000000 in
set_option maxRecDepth 100000 in
theorem c_X7_has (l : Launch) (E : zE) (n : Nat) (h : zH) (a0 : Nat) (p0 : Int32) (res : Int32 × zH) (hf : F_X7_has n h a0 p0 = some res) : Met l yX7_has (zw yX7_has cX7_has 2 (some .boolean)) ({ frames := 0, cells := 0, slots := 0, locals := 0 } : Room) (zPc E h [.ref (zB E + a0), .int p0]) (zQc E res.2 (some (.int res.1))) 0 0 (zfr E) := by
  refine zmet (lo := [(0, .ref (zB E + a0)), (1, .int p0)]) (by decide +kernel) (Nat.le_of_ble_eq_true rfl) rfl ?_
  intro p e s m args below meth c C hr hin
  unfold F_X7_has at hf
  have J17 : ∀ (h4 : zH) (x3 : Int32), F_X7_has_J17 n h4 x3 = some res → zW p l e (headSpec (zw yX7_has cX7_has 2 (some .boolean)) ({ frames := 0, cells := 0, slots := 0, locals := 0 } : Room)).room s m args below meth c E 2 (MQ below (zQc E res.2 (some (.int res.1))) args s 0 0 (zfr E)) 0 0 17 [] [.int x3] h4 := by
    intro h4 x3 hf
    unfold F_X7_has_J17 at hf
    exact zr_zreturn C hf hr (Nat.le_of_ble_eq_true rfl) (Nat.le_of_ble_eq_true rfl) dX7_has_17
  have J16 : ∀ (h6 : zH), F_X7_has_J16 n h6 = some res → zW p l e (headSpec (zw yX7_has cX7_has 2 (some .boolean)) ({ frames := 0, cells := 0, slots := 0, locals := 0 } : Room)).room s m args below meth c E 2 (MQ below (zQc E res.2 (some (.int res.1))) args s 0 0 (zfr E)) 0 0 16 [] [] h6 := by
    intro h6 hf
    unfold F_X7_has_J16 at hf
    refine zr_iconst (v := 0) C dX7_has_16 (by decide) ?_
    exact J17 h6 (0 : Int32) hf
  refine zr_iload_n C dX7_has_0 rfl 1 rfl ?_
  refine zr_if_lt (tgt := 16) C hf dX7_has_1 (by decide) (fun hf => ?_) (fun hf => ?_)
  · refine zsub [] rfl ?_
    exact J16 h hf
  · refine zr_iload_n C dX7_has_4 rfl 1 rfl ?_
    refine zr_aload_n C dX7_has_5 rfl 0 rfl ?_
    refine zr_gi C hf kg_X7_25 (fun _ _ _ => rfl) dX7_has_6 (fun x7 hf => ?_)
    refine zr_icmp_ge (tgt := 16) C hf dX7_has_9 (by decide) (fun hf => ?_) (fun hf => ?_)
    · refine zsub [] rfl ?_
      exact J16 h hf
    · refine zr_iconst (v := 1) C dX7_has_12 (by decide) ?_
      refine zr_goto (tgt := 17) C dX7_has_13 (by decide) ?_
      refine zsub [] rfl ?_
      exact J17 h (1 : Int32) hf
theorem dX10_isYears_0 : decode cX10_isYears 0 = .ok (.iload_n 0, 1) := by decide +kernel
theorem dX10_isYears_1 : decode cX10_isYears 1 = .ok (.iconst 0, 1) := by decide +kernel
theorem dX10_isYears_2 : decode cX10_isYears 2 = .ok (.bipush 99, 2) := by decide +kernel
theorem dX10_isYears_4 : decode cX10_isYears 4 = .ok (.invokestatic 148, 3) := by decide +kernel
theorem dX10_isYears_7 : decode cX10_isYears 7 = .ok (.ireturn, 1) := by decide +kernel
set_option maxHeartbeats 4000000 in
set_option maxRecDepth 100000 in
theorem c_X10_isYears (l : Launch) (E : zE) (n : Nat) (h : zH) (p0 : Int32) (res : Int32 × zH) (hf : F_X10_isYears n h p0 = some res) : Met l yX10_isYears (zw yX10_isYears cX10_isYears 1 (some .boolean)) ({ frames := 1, cells := 0, slots := 0, locals := 22 } : Room) (zPc E h [.int p0]) (zQc E res.2 (some (.int res.1))) 0 0 (zfr E) := by
  refine zmet (lo := [(0, .int p0)]) (by decide +kernel) (Nat.le_of_ble_eq_true rfl) rfl ?_
  intro p e s m args below meth c C hr hin
  unfold F_X10_isYears at hf
  refine zr_iload_n C dX10_isYears_0 rfl 0 rfl ?_
  refine zr_iconst (v := 0) C dX10_isYears_1 (by decide) ?_
  refine zr_bipush (v := 99) C dX10_isYears_2 (by decide) ?_
  refine zr_callSi (As := [.int p0, .int (0 : Int32), .int (99 : Int32)]) (rest := []) C hf (fun x hx => c_X10_isWithin l E n h p0 (0 : Int32) (99 : Int32) x hx) ks_X10_148 rfl rfl (Nat.le_of_ble_eq_true rfl) ⟨rfl, rfl⟩ ⟨Nat.le_of_ble_eq_true rfl, Nat.le_of_ble_eq_true rfl⟩ ⟨Nat.le_of_ble_eq_true rfl, Nat.le_of_ble_eq_true rfl⟩ dX10_isYears_4 (fun x2 h1 hf => ?_)
  exact zr_zreturn C hf hr (Nat.le_of_ble_eq_true rfl) (Nat.le_of_ble_eq_true rfl) dX10_isYears_7
theorem dX10_isFlow_0 : decode cX10_isFlow 0 = .ok (.iload_n 0, 1) := by decide +kernel
theorem dX10_isFlow_1 : decode cX10_isFlow 1 = .ok (.iconst 0, 1) := by decide +kernel
theorem dX10_isFlow_2 : decode cX10_isFlow 2 = .ok (.bipush 9, 2) := by decide +kernel
theorem dX10_isFlow_4 : decode cX10_isFlow 4 = .ok (.invokestatic 148, 3) := by decide +kernel
theorem dX10_isFlow_7 : decode cX10_isFlow 7 = .ok (.ifCond .eq 17, 3) := by decide +kernel
theorem dX10_isFlow_10 : decode cX10_isFlow 10 = .ok (.iload_n 1, 1) := by decide +kernel
theorem dX10_isFlow_11 : decode cX10_isFlow 11 = .ok (.iconst 1, 1) := by decide +kernel
theorem dX10_isFlow_12 : decode cX10_isFlow 12 = .ok (.bipush 99, 2) := by decide +kernel
theorem dX10_isFlow_14 : decode cX10_isFlow 14 = .ok (.invokestatic 148, 3) := by decide +kernel
theorem dX10_isFlow_17 : decode cX10_isFlow 17 = .ok (.ifCond .eq 7, 3) := by decide +kernel
theorem dX10_isFlow_20 : decode cX10_isFlow 20 = .ok (.iconst 1, 1) := by decide +kernel
theorem dX10_isFlow_21 : decode cX10_isFlow 21 = .ok (.goto 4, 3) := by decide +kernel
theorem dX10_isFlow_24 : decode cX10_isFlow 24 = .ok (.iconst 0, 1) := by decide +kernel
theorem dX10_isFlow_25 : decode cX10_isFlow 25 = .ok (.ireturn, 1) := by decide +kernel
set_option maxHeartbeats 4000000 in
set_option maxRecDepth 100000 in
theorem c_X10_isFlow (l : Launch) (E : zE) (n : Nat) (h : zH) (p0 : Int32) (p1 : Int32) (res : Int32 × zH) (hf : F_X10_isFlow n h p0 p1 = some res) : Met l yX10_isFlow (zw yX10_isFlow cX10_isFlow 2 (some .boolean)) ({ frames := 1, cells := 0, slots := 0, locals := 22 } : Room) (zPc E h [.int p0, .int p1]) (zQc E res.2 (some (.int res.1))) 0 0 (zfr E) := by
  refine zmet (lo := [(0, .int p0), (1, .int p1)]) (by decide +kernel) (Nat.le_of_ble_eq_true rfl) rfl ?_
  intro p e s m args below meth c C hr hin
  unfold F_X10_isFlow at hf
  have J25 : ∀ (h4 : zH) (x3 : Int32), F_X10_isFlow_J25 n h4 x3 = some res → zW p l e (headSpec (zw yX10_isFlow cX10_isFlow 2 (some .boolean)) ({ frames := 1, cells := 0, slots := 0, locals := 22 } : Room)).room s m args below meth c E 2 (MQ below (zQc E res.2 (some (.int res.1))) args s 0 0 (zfr E)) 0 0 25 [] [.int x3] h4 := by
    intro h4 x3 hf
    unfold F_X10_isFlow_J25 at hf
    exact zr_zreturn C hf hr (Nat.le_of_ble_eq_true rfl) (Nat.le_of_ble_eq_true rfl) dX10_isFlow_25
  have J24 : ∀ (h6 : zH), F_X10_isFlow_J24 n h6 = some res → zW p l e (headSpec (zw yX10_isFlow cX10_isFlow 2 (some .boolean)) ({ frames := 1, cells := 0, slots := 0, locals := 22 } : Room)).room s m args below meth c E 2 (MQ below (zQc E res.2 (some (.int res.1))) args s 0 0 (zfr E)) 0 0 24 [] [] h6 := by
    intro h6 hf
    unfold F_X10_isFlow_J24 at hf
    refine zr_iconst (v := 0) C dX10_isFlow_24 (by decide) ?_
    exact J25 h6 (0 : Int32) hf
  refine zr_iload_n C dX10_isFlow_0 rfl 0 rfl ?_
  refine zr_iconst (v := 0) C dX10_isFlow_1 (by decide) ?_
  refine zr_bipush (v := 9) C dX10_isFlow_2 (by decide) ?_
  refine zr_callSi (As := [.int p0, .int (0 : Int32), .int (9 : Int32)]) (rest := []) C hf (fun x hx => c_X10_isWithin l E n h p0 (0 : Int32) (9 : Int32) x hx) ks_X10_148 rfl rfl (Nat.le_of_ble_eq_true rfl) ⟨rfl, rfl⟩ ⟨Nat.le_of_ble_eq_true rfl, Nat.le_of_ble_eq_true rfl⟩ ⟨Nat.le_of_ble_eq_true rfl, Nat.le_of_ble_eq_true rfl⟩ dX10_isFlow_4 (fun x8 h7 hf => ?_)
  refine zr_if_eq (tgt := 24) C hf dX10_isFlow_7 (by decide) (fun hf => ?_) (fun hf => ?_)
  · refine zsub [] rfl ?_
    exact J24 h7 hf
  · refine zr_iload_n C dX10_isFlow_10 rfl 1 rfl ?_
    refine zr_iconst (v := 1) C dX10_isFlow_11 (by decide) ?_
    refine zr_bipush (v := 99) C dX10_isFlow_12 (by decide) ?_
    refine zr_callSi (As := [.int p1, .int (1 : Int32), .int (99 : Int32)]) (rest := []) C hf (fun x hx => c_X10_isWithin l E n h7 p1 (1 : Int32) (99 : Int32) x hx) ks_X10_148 rfl rfl (Nat.le_of_ble_eq_true rfl) ⟨rfl, rfl⟩ ⟨Nat.le_of_ble_eq_true rfl, Nat.le_of_ble_eq_true rfl⟩ ⟨Nat.le_of_ble_eq_true rfl, Nat.le_of_ble_eq_true rfl⟩ dX10_isFlow_14 (fun x10 h9 hf => ?_)
    refine zr_if_eq (tgt := 24) C hf dX10_isFlow_17 (by decide) (fun hf => ?_) (fun hf => ?_)
    · refine zsub [] rfl ?_
      exact J24 h9 hf
    · refine zr_iconst (v := 1) C dX10_isFlow_20 (by decide) ?_
      refine zr_goto (tgt := 25) C dX10_isFlow_21 (by decide) ?_
      refine zsub [] rfl ?_
      exact J25 h9 (1 : Int32) hf
theorem dX7_beginYears_0 : decode cX7_beginYears 0 = .ok (.iconst 0, 1) := by decide +kernel
theorem dX7_beginYears_1 : decode cX7_beginYears 1 = .ok (.istore_n 1, 1) := by decide +kernel
theorem dX7_beginYears_2 : decode cX7_beginYears 2 = .ok (.iload_n 1, 1) := by decide +kernel
theorem dX7_beginYears_3 : decode cX7_beginYears 3 = .ok (.aload_n 0, 1) := by decide +kernel
theorem dX7_beginYears_4 : decode cX7_beginYears 4 = .ok (.getfield 25, 3) := by decide +kernel
theorem dX7_beginYears_7 : decode cX7_beginYears 7 = .ok (.if_icmp .ge 21, 3) := by decide +kernel
theorem dX7_beginYears_10 : decode cX7_beginYears 10 = .ok (.aload_n 0, 1) := by decide +kernel
theorem dX7_beginYears_11 : decode cX7_beginYears 11 = .ok (.getfield 19, 3) := by decide +kernel
theorem dX7_beginYears_14 : decode cX7_beginYears 14 = .ok (.iload_n 1, 1) := by decide +kernel
theorem dX7_beginYears_15 : decode cX7_beginYears 15 = .ok (.aload_n 0, 1) := by decide +kernel
theorem dX7_beginYears_16 : decode cX7_beginYears 16 = .ok (.getfield 9, 3) := by decide +kernel
theorem dX7_beginYears_19 : decode cX7_beginYears 19 = .ok (.iload_n 1, 1) := by decide +kernel
theorem dX7_beginYears_20 : decode cX7_beginYears 20 = .ok (.iaload, 1) := by decide +kernel
theorem dX7_beginYears_21 : decode cX7_beginYears 21 = .ok (.iastore, 1) := by decide +kernel
theorem dX7_beginYears_22 : decode cX7_beginYears 22 = .ok (.iinc 1 1, 3) := by decide +kernel
theorem dX7_beginYears_25 : decode cX7_beginYears 25 = .ok (.goto (-23), 3) := by decide +kernel
theorem dX7_beginYears_28 : decode cX7_beginYears 28 = .ok (.return_, 1) := by decide +kernel
set_option maxHeartbeats 4000000 in
set_option maxRecDepth 100000 in
theorem c_X7_beginYears (l : Launch) (E : zE) (n : Nat) (h : zH) (a0 : Nat) (res : Unit × zH) (hf : F_X7_beginYears n h a0 = some res) : Met l yX7_beginYears (zw yX7_beginYears cX7_beginYears 2 none) ({ frames := 0, cells := 0, slots := 0, locals := 0 } : Room) (zPc E h [.ref (zB E + a0)]) (zQc E res.2 none) 0 0 (zfr E) := by
  refine zmet (lo := [(0, .ref (zB E + a0))]) (by decide +kernel) (Nat.le_of_ble_eq_true rfl) rfl ?_
  intro p e s m args below meth c C hr hin
  unfold F_X7_beginYears at hf
  refine zr_iconst (v := 0) C dX7_beginYears_0 (by decide) ?_
  refine zr_istore_n (lo2 := [(1, .int (0 : Int32)), (0, .ref (zB E + a0))]) C dX7_beginYears_1 rfl (by decide) rfl ?_
  have L2 : ∀ (fu : Nat) (x : zH × Int32), zloop (fun kc x => F_X7_beginYears_B2 n kc x.1 a0 x.2) fu x = some res → zW p l e (headSpec (zw yX7_beginYears cX7_beginYears 2 none) ({ frames := 0, cells := 0, slots := 0, locals := 0 } : Room)).room s m args below meth c E 2 (MQ below (zQc E res.2 none) args s 0 0 (zfr E)) 0 0 2 [(0, .ref (zB E + a0)), (1, .int x.2)] [] x.1 := by
    refine z_loop _ ?_
    intro kc2 hk2 x hf
    obtain ⟨h11, x10⟩ := x
    dsimp only at hf ⊢
    unfold F_X7_beginYears_B2 at hf
    refine zr_iload_n C dX7_beginYears_2 rfl 1 rfl ?_
    refine zr_aload_n C dX7_beginYears_3 rfl 0 rfl ?_
    refine zr_gi C hf kg_X7_25 (fun _ _ _ => rfl) dX7_beginYears_4 (fun x12 hf => ?_)
    refine zr_icmp_ge (tgt := 28) C hf dX7_beginYears_7 (by decide) (fun hf => ?_) (fun hf => ?_)
    · exact zr_return C hf hr (Nat.le_of_ble_eq_true rfl) (Nat.le_of_ble_eq_true rfl) dX7_beginYears_28
    · refine zr_aload_n C dX7_beginYears_10 rfl 0 rfl ?_
      refine zr_gr C hf kg_X7_19 (fun _ _ _ => rfl) dX7_beginYears_11 (fun w13 hf => ?_)
      refine zr_iload_n C dX7_beginYears_14 rfl 1 rfl ?_
      refine zr_aload_n C dX7_beginYears_15 rfl 0 rfl ?_
      refine zr_gr C hf kg_X7_9 (fun _ _ _ => rfl) dX7_beginYears_16 (fun w14 hf => ?_)
      refine zr_iload_n C dX7_beginYears_19 rfl 1 rfl ?_
      refine zr_iaload C hf dX7_beginYears_20 (fun x15 hf => ?_)
      refine zr_iastore C hf dX7_beginYears_21 (fun h16 hf => ?_)
      refine zr_iinc (v0 := 1) (k := 1) (f := fun v => [(1, .int v), (0, .ref (zB E + a0))]) C hf (by decide) dX7_beginYears_22 rfl (by decide) (fun v => rfl) (fun x17 hf => ?_)
      refine zr_goto (tgt := 2) C dX7_beginYears_25 (by decide) ?_
      refine zsub [1, 0] rfl ?_
      exact hk2 (h16, x17) hf
  refine zsub [1, 0] rfl ?_
  exact L2 n (h, (0 : Int32)) hf
theorem dX7_isFree_0 : decode cX7_isFree 0 = .ok (.iload_n 1, 1) := by decide +kernel
theorem dX7_isFree_1 : decode cX7_isFree 1 = .ok (.ifCond .le 26, 3) := by decide +kernel
theorem dX7_isFree_4 : decode cX7_isFree 4 = .ok (.iload_n 1, 1) := by decide +kernel
theorem dX7_isFree_5 : decode cX7_isFree 5 = .ok (.aload_n 0, 1) := by decide +kernel
theorem dX7_isFree_6 : decode cX7_isFree 6 = .ok (.getfield 25, 3) := by decide +kernel
theorem dX7_isFree_9 : decode cX7_isFree 9 = .ok (.iconst 1, 1) := by decide +kernel
theorem dX7_isFree_10 : decode cX7_isFree 10 = .ok (.isub, 1) := by decide +kernel
theorem dX7_isFree_11 : decode cX7_isFree 11 = .ok (.if_icmp .ge 16, 3) := by decide +kernel
theorem dX7_isFree_14 : decode cX7_isFree 14 = .ok (.aload_n 0, 1) := by decide +kernel
theorem dX7_isFree_15 : decode cX7_isFree 15 = .ok (.getfield 15, 3) := by decide +kernel
theorem dX7_isFree_18 : decode cX7_isFree 18 = .ok (.iload_n 1, 1) := by decide +kernel
theorem dX7_isFree_19 : decode cX7_isFree 19 = .ok (.baload, 1) := by decide +kernel
theorem dX7_isFree_20 : decode cX7_isFree 20 = .ok (.ifCond .ne 7, 3) := by decide +kernel
theorem dX7_isFree_23 : decode cX7_isFree 23 = .ok (.iconst 1, 1) := by decide +kernel
theorem dX7_isFree_24 : decode cX7_isFree 24 = .ok (.goto 4, 3) := by decide +kernel
theorem dX7_isFree_27 : decode cX7_isFree 27 = .ok (.iconst 0, 1) := by decide +kernel
theorem dX7_isFree_28 : decode cX7_isFree 28 = .ok (.ireturn, 1) := by decide +kernel
set_option maxHeartbeats 4000000 in
set_option maxRecDepth 100000 in
theorem c_X7_isFree (l : Launch) (E : zE) (n : Nat) (h : zH) (a0 : Nat) (p0 : Int32) (res : Int32 × zH) (hf : F_X7_isFree n h a0 p0 = some res) : Met l yX7_isFree (zw yX7_isFree cX7_isFree 2 (some .boolean)) ({ frames := 0, cells := 0, slots := 0, locals := 0 } : Room) (zPc E h [.ref (zB E + a0), .int p0]) (zQc E res.2 (some (.int res.1))) 0 0 (zfr E) := by
  refine zmet (lo := [(0, .ref (zB E + a0)), (1, .int p0)]) (by decide +kernel) (Nat.le_of_ble_eq_true rfl) rfl ?_
  intro p e s m args below meth c C hr hin
  unfold F_X7_isFree at hf
  have J28 : ∀ (h4 : zH) (x3 : Int32), F_X7_isFree_J28 n h4 x3 = some res → zW p l e (headSpec (zw yX7_isFree cX7_isFree 2 (some .boolean)) ({ frames := 0, cells := 0, slots := 0, locals := 0 } : Room)).room s m args below meth c E 2 (MQ below (zQc E res.2 (some (.int res.1))) args s 0 0 (zfr E)) 0 0 28 [] [.int x3] h4 := by
    intro h4 x3 hf
    unfold F_X7_isFree_J28 at hf
    exact zr_zreturn C hf hr (Nat.le_of_ble_eq_true rfl) (Nat.le_of_ble_eq_true rfl) dX7_isFree_28
  have J27 : ∀ (h6 : zH), F_X7_isFree_J27 n h6 = some res → zW p l e (headSpec (zw yX7_isFree cX7_isFree 2 (some .boolean)) ({ frames := 0, cells := 0, slots := 0, locals := 0 } : Room)).room s m args below meth c E 2 (MQ below (zQc E res.2 (some (.int res.1))) args s 0 0 (zfr E)) 0 0 27 [] [] h6 := by
    intro h6 hf
    unfold F_X7_isFree_J27 at hf
    refine zr_iconst (v := 0) C dX7_isFree_27 (by decide) ?_
    exact J28 h6 (0 : Int32) hf
  refine zr_iload_n C dX7_isFree_0 rfl 1 rfl ?_
  refine zr_if_le (tgt := 27) C hf dX7_isFree_1 (by decide) (fun hf => ?_) (fun hf => ?_)
  · refine zsub [] rfl ?_
    exact J27 h hf
  · refine zr_iload_n C dX7_isFree_4 rfl 1 rfl ?_
    refine zr_aload_n C dX7_isFree_5 rfl 0 rfl ?_
    refine zr_gi C hf kg_X7_25 (fun _ _ _ => rfl) dX7_isFree_6 (fun x7 hf => ?_)
    refine zr_iconst (v := 1) C dX7_isFree_9 (by decide) ?_
    refine zr_isub C hf dX7_isFree_10 (fun x8 hf => ?_)
    refine zr_icmp_ge (tgt := 27) C hf dX7_isFree_11 (by decide) (fun hf => ?_) (fun hf => ?_)
    · refine zsub [] rfl ?_
      exact J27 h hf
    · refine zr_aload_n C dX7_isFree_14 rfl 0 rfl ?_
      refine zr_gr C hf kg_X7_15 (fun _ _ _ => rfl) dX7_isFree_15 (fun w9 hf => ?_)
      refine zr_iload_n C dX7_isFree_18 rfl 1 rfl ?_
      refine zr_zaload C hf dX7_isFree_19 (fun x10 hf => ?_)
      refine zr_if_ne (tgt := 27) C hf dX7_isFree_20 (by decide) (fun hf => ?_) (fun hf => ?_)
      · refine zsub [] rfl ?_
        exact J27 h hf
      · refine zr_iconst (v := 1) C dX7_isFree_23 (by decide) ?_
        refine zr_goto (tgt := 28) C dX7_isFree_24 (by decide) ?_
        refine zsub [] rfl ?_
        exact J28 h (1 : Int32) hf
theorem dX7_bendOf_0 : decode cX7_bendOf 0 = .ok (.iconst 2, 1) := by decide +kernel
theorem dX7_bendOf_1 : decode cX7_bendOf 1 = .ok (.aload_n 0, 1) := by decide +kernel
theorem dX7_bendOf_2 : decode cX7_bendOf 2 = .ok (.iload_n 1, 1) := by decide +kernel
theorem dX7_bendOf_3 : decode cX7_bendOf 3 = .ok (.iaload, 1) := by decide +kernel
theorem dX7_bendOf_4 : decode cX7_bendOf 4 = .ok (.imul, 1) := by decide +kernel
theorem dX7_bendOf_5 : decode cX7_bendOf 5 = .ok (.aload_n 0, 1) := by decide +kernel
theorem dX7_bendOf_6 : decode cX7_bendOf 6 = .ok (.iload_n 1, 1) := by decide +kernel
theorem dX7_bendOf_7 : decode cX7_bendOf 7 = .ok (.iconst 1, 1) := by decide +kernel
theorem dX7_bendOf_8 : decode cX7_bendOf 8 = .ok (.isub, 1) := by decide +kernel
theorem dX7_bendOf_9 : decode cX7_bendOf 9 = .ok (.iaload, 1) := by decide +kernel
theorem dX7_bendOf_10 : decode cX7_bendOf 10 = .ok (.isub, 1) := by decide +kernel
theorem dX7_bendOf_11 : decode cX7_bendOf 11 = .ok (.aload_n 0, 1) := by decide +kernel
theorem dX7_bendOf_12 : decode cX7_bendOf 12 = .ok (.iload_n 1, 1) := by decide +kernel
theorem dX7_bendOf_13 : decode cX7_bendOf 13 = .ok (.iconst 1, 1) := by decide +kernel
theorem dX7_bendOf_14 : decode cX7_bendOf 14 = .ok (.iadd, 1) := by decide +kernel
theorem dX7_bendOf_15 : decode cX7_bendOf 15 = .ok (.iaload, 1) := by decide +kernel
theorem dX7_bendOf_16 : decode cX7_bendOf 16 = .ok (.isub, 1) := by decide +kernel
theorem dX7_bendOf_17 : decode cX7_bendOf 17 = .ok (.ireturn, 1) := by decide +kernel
set_option maxHeartbeats 4000000 in
set_option maxRecDepth 100000 in
theorem c_X7_bendOf (l : Launch) (E : zE) (n : Nat) (h : zH) (p0 : Nat) (p1 : Int32) (res : Int32 × zH) (hf : F_X7_bendOf n h p0 p1 = some res) : Met l yX7_bendOf (zw yX7_bendOf cX7_bendOf 2 (some .int)) ({ frames := 0, cells := 0, slots := 0, locals := 0 } : Room) (zPc E h [.ref (zB E + p0), .int p1]) (zQc E res.2 (some (.int res.1))) 0 0 (zfr E) := by
  refine zmet (lo := [(0, .ref (zB E + p0)), (1, .int p1)]) (by decide +kernel) (Nat.le_of_ble_eq_true rfl) rfl ?_
  intro p e s m args below meth c C hr hin
  unfold F_X7_bendOf at hf
  refine zr_iconst (v := 2) C dX7_bendOf_0 (by decide) ?_
  refine zr_aload_n C dX7_bendOf_1 rfl 0 rfl ?_
  refine zr_iload_n C dX7_bendOf_2 rfl 1 rfl ?_
  refine zr_iaload C hf dX7_bendOf_3 (fun x1 hf => ?_)
  refine zr_imul C hf dX7_bendOf_4 (fun x2 hf => ?_)
  refine zr_aload_n C dX7_bendOf_5 rfl 0 rfl ?_
  refine zr_iload_n C dX7_bendOf_6 rfl 1 rfl ?_
  refine zr_iconst (v := 1) C dX7_bendOf_7 (by decide) ?_
  refine zr_isub C hf dX7_bendOf_8 (fun x3 hf => ?_)
  refine zr_iaload C hf dX7_bendOf_9 (fun x4 hf => ?_)
  refine zr_isub C hf dX7_bendOf_10 (fun x5 hf => ?_)
  refine zr_aload_n C dX7_bendOf_11 rfl 0 rfl ?_
  refine zr_iload_n C dX7_bendOf_12 rfl 1 rfl ?_
  refine zr_iconst (v := 1) C dX7_bendOf_13 (by decide) ?_
  refine zr_iadd C hf dX7_bendOf_14 (fun x6 hf => ?_)
  refine zr_iaload C hf dX7_bendOf_15 (fun x7 hf => ?_)
  refine zr_isub C hf dX7_bendOf_16 (fun x8 hf => ?_)
  exact zr_ireturn C hf hr (Nat.le_of_ble_eq_true rfl) (Nat.le_of_ble_eq_true rfl) dX7_bendOf_17
theorem dX7_isOverNeck_0 : decode cX7_isOverNeck 0 = .ok (.aload_n 0, 1) := by decide +kernel
theorem dX7_isOverNeck_1 : decode cX7_isOverNeck 1 = .ok (.getfield 19, 3) := by decide +kernel
theorem dX7_isOverNeck_4 : decode cX7_isOverNeck 4 = .ok (.iload_n 1, 1) := by decide +kernel
theorem dX7_isOverNeck_5 : decode cX7_isOverNeck 5 = .ok (.iaload, 1) := by decide +kernel
theorem dX7_isOverNeck_6 : decode cX7_isOverNeck 6 = .ok (.aload_n 0, 1) := by decide +kernel
theorem dX7_isOverNeck_7 : decode cX7_isOverNeck 7 = .ok (.getfield 19, 3) := by decide +kernel
theorem dX7_isOverNeck_10 : decode cX7_isOverNeck 10 = .ok (.iload_n 1, 1) := by decide +kernel
theorem dX7_isOverNeck_11 : decode cX7_isOverNeck 11 = .ok (.iconst 1, 1) := by decide +kernel
theorem dX7_isOverNeck_12 : decode cX7_isOverNeck 12 = .ok (.isub, 1) := by decide +kernel
theorem dX7_isOverNeck_13 : decode cX7_isOverNeck 13 = .ok (.iaload, 1) := by decide +kernel
theorem dX7_isOverNeck_14 : decode cX7_isOverNeck 14 = .ok (.isub, 1) := by decide +kernel
theorem dX7_isOverNeck_15 : decode cX7_isOverNeck 15 = .ok (.istore_n 3, 1) := by decide +kernel
theorem dX7_isOverNeck_16 : decode cX7_isOverNeck 16 = .ok (.aload_n 0, 1) := by decide +kernel
theorem dX7_isOverNeck_17 : decode cX7_isOverNeck 17 = .ok (.getfield 19, 3) := by decide +kernel
theorem dX7_isOverNeck_20 : decode cX7_isOverNeck 20 = .ok (.iload_n 1, 1) := by decide +kernel
theorem dX7_isOverNeck_21 : decode cX7_isOverNeck 21 = .ok (.iaload, 1) := by decide +kernel
theorem dX7_isOverNeck_22 : decode cX7_isOverNeck 22 = .ok (.aload_n 0, 1) := by decide +kernel
theorem dX7_isOverNeck_23 : decode cX7_isOverNeck 23 = .ok (.getfield 19, 3) := by decide +kernel
theorem dX7_isOverNeck_26 : decode cX7_isOverNeck 26 = .ok (.iload_n 1, 1) := by decide +kernel
theorem dX7_isOverNeck_27 : decode cX7_isOverNeck 27 = .ok (.iconst 1, 1) := by decide +kernel
theorem dX7_isOverNeck_28 : decode cX7_isOverNeck 28 = .ok (.iadd, 1) := by decide +kernel
theorem dX7_isOverNeck_29 : decode cX7_isOverNeck 29 = .ok (.iaload, 1) := by decide +kernel
theorem dX7_isOverNeck_30 : decode cX7_isOverNeck 30 = .ok (.isub, 1) := by decide +kernel
theorem dX7_isOverNeck_31 : decode cX7_isOverNeck 31 = .ok (.istore 4, 2) := by decide +kernel
theorem dX7_isOverNeck_33 : decode cX7_isOverNeck 33 = .ok (.iload_n 3, 1) := by decide +kernel
theorem dX7_isOverNeck_34 : decode cX7_isOverNeck 34 = .ok (.iload_n 2, 1) := by decide +kernel
theorem dX7_isOverNeck_35 : decode cX7_isOverNeck 35 = .ok (.if_icmp .le 9, 3) := by decide +kernel
theorem dX7_isOverNeck_38 : decode cX7_isOverNeck 38 = .ok (.iload 4, 2) := by decide +kernel
theorem dX7_isOverNeck_40 : decode cX7_isOverNeck 40 = .ok (.iload_n 2, 1) := by decide +kernel
theorem dX7_isOverNeck_41 : decode cX7_isOverNeck 41 = .ok (.if_icmp .gt 16, 3) := by decide +kernel
theorem dX7_isOverNeck_44 : decode cX7_isOverNeck 44 = .ok (.iload_n 3, 1) := by decide +kernel
theorem dX7_isOverNeck_45 : decode cX7_isOverNeck 45 = .ok (.iload_n 2, 1) := by decide +kernel
theorem dX7_isOverNeck_46 : decode cX7_isOverNeck 46 = .ok (.ineg, 1) := by decide +kernel
theorem dX7_isOverNeck_47 : decode cX7_isOverNeck 47 = .ok (.if_icmp .ge 14, 3) := by decide +kernel
theorem dX7_isOverNeck_50 : decode cX7_isOverNeck 50 = .ok (.iload 4, 2) := by decide +kernel
theorem dX7_isOverNeck_52 : decode cX7_isOverNeck 52 = .ok (.iload_n 2, 1) := by decide +kernel
theorem dX7_isOverNeck_53 : decode cX7_isOverNeck 53 = .ok (.ineg, 1) := by decide +kernel
theorem dX7_isOverNeck_54 : decode cX7_isOverNeck 54 = .ok (.if_icmp .ge 7, 3) := by decide +kernel
theorem dX7_isOverNeck_57 : decode cX7_isOverNeck 57 = .ok (.iconst 1, 1) := by decide +kernel
theorem dX7_isOverNeck_58 : decode cX7_isOverNeck 58 = .ok (.goto 4, 3) := by decide +kernel
theorem dX7_isOverNeck_61 : decode cX7_isOverNeck 61 = .ok (.iconst 0, 1) := by decide +kernel
theorem dX7_isOverNeck_62 : decode cX7_isOverNeck 62 = .ok (.ireturn, 1) := by decide +kernel
set_option maxHeartbeats 4000000 in
set_option maxRecDepth 100000 in
theorem c_X7_isOverNeck (l : Launch) (E : zE) (n : Nat) (h : zH) (a0 : Nat) (p0 : Int32) (p1 : Int32) (res : Int32 × zH) (hf : F_X7_isOverNeck n h a0 p0 p1 = some res) : Met l yX7_isOverNeck (zw yX7_isOverNeck cX7_isOverNeck 5 (some .boolean)) ({ frames := 0, cells := 0, slots := 0, locals := 0 } : Room) (zPc E h [.ref (zB E + a0), .int p0, .int p1]) (zQc E res.2 (some (.int res.1))) 0 0 (zfr E) := by
  refine zmet (lo := [(0, .ref (zB E + a0)), (1, .int p0), (2, .int p1)]) (by decide +kernel) (Nat.le_of_ble_eq_true rfl) rfl ?_
  intro p e s m args below meth c C hr hin
  unfold F_X7_isOverNeck at hf
  have J62 : ∀ (h4 : zH) (x3 : Int32), F_X7_isOverNeck_J62 n h4 x3 = some res → zW p l e (headSpec (zw yX7_isOverNeck cX7_isOverNeck 5 (some .boolean)) ({ frames := 0, cells := 0, slots := 0, locals := 0 } : Room)).room s m args below meth c E 5 (MQ below (zQc E res.2 (some (.int res.1))) args s 0 0 (zfr E)) 0 0 62 [] [.int x3] h4 := by
    intro h4 x3 hf
    unfold F_X7_isOverNeck_J62 at hf
    exact zr_zreturn C hf hr (Nat.le_of_ble_eq_true rfl) (Nat.le_of_ble_eq_true rfl) dX7_isOverNeck_62
  have J61 : ∀ (h6 : zH), F_X7_isOverNeck_J61 n h6 = some res → zW p l e (headSpec (zw yX7_isOverNeck cX7_isOverNeck 5 (some .boolean)) ({ frames := 0, cells := 0, slots := 0, locals := 0 } : Room)).room s m args below meth c E 5 (MQ below (zQc E res.2 (some (.int res.1))) args s 0 0 (zfr E)) 0 0 61 [] [] h6 := by
    intro h6 hf
    unfold F_X7_isOverNeck_J61 at hf
    refine zr_iconst (v := 0) C dX7_isOverNeck_61 (by decide) ?_
    exact J62 h6 (0 : Int32) hf
  have J57 : ∀ (h8 : zH), F_X7_isOverNeck_J57 n h8 = some res → zW p l e (headSpec (zw yX7_isOverNeck cX7_isOverNeck 5 (some .boolean)) ({ frames := 0, cells := 0, slots := 0, locals := 0 } : Room)).room s m args below meth c E 5 (MQ below (zQc E res.2 (some (.int res.1))) args s 0 0 (zfr E)) 0 0 57 [] [] h8 := by
    intro h8 hf
    unfold F_X7_isOverNeck_J57 at hf
    refine zr_iconst (v := 1) C dX7_isOverNeck_57 (by decide) ?_
    refine zr_goto (tgt := 62) C dX7_isOverNeck_58 (by decide) ?_
    exact J62 h8 (1 : Int32) hf
  have J44 : ∀ (h18 : zH) (x15 : Int32) (x16 : Int32) (x17 : Int32), F_X7_isOverNeck_J44 n h18 x15 x16 x17 = some res → zW p l e (headSpec (zw yX7_isOverNeck cX7_isOverNeck 5 (some .boolean)) ({ frames := 0, cells := 0, slots := 0, locals := 0 } : Room)).room s m args below meth c E 5 (MQ below (zQc E res.2 (some (.int res.1))) args s 0 0 (zfr E)) 0 0 44 [(2, .int x15), (3, .int x16), (4, .int x17)] [] h18 := by
    intro h18 x15 x16 x17 hf
    unfold F_X7_isOverNeck_J44 at hf
    refine zr_iload_n C dX7_isOverNeck_44 rfl 1 rfl ?_
    refine zr_iload_n C dX7_isOverNeck_45 rfl 0 rfl ?_
    refine zr_ineg C hf dX7_isOverNeck_46 (fun x19 hf => ?_)
    refine zr_icmp_ge (tgt := 61) C hf dX7_isOverNeck_47 (by decide) (fun hf => ?_) (fun hf => ?_)
    · refine zsub [] rfl ?_
      exact J61 h18 hf
    · refine zr_iload C dX7_isOverNeck_50 2 rfl ?_
      refine zr_iload_n C dX7_isOverNeck_52 rfl 0 rfl ?_
      refine zr_ineg C hf dX7_isOverNeck_53 (fun x20 hf => ?_)
      refine zr_icmp_ge (tgt := 61) C hf dX7_isOverNeck_54 (by decide) (fun hf => ?_) (fun hf => ?_)
      · refine zsub [] rfl ?_
        exact J61 h18 hf
      · refine zsub [] rfl ?_
        exact J57 h18 hf
  refine zr_aload_n C dX7_isOverNeck_0 rfl 0 rfl ?_
  refine zr_gr C hf kg_X7_19 (fun _ _ _ => rfl) dX7_isOverNeck_1 (fun w21 hf => ?_)
  refine zr_iload_n C dX7_isOverNeck_4 rfl 1 rfl ?_
  refine zr_iaload C hf dX7_isOverNeck_5 (fun x22 hf => ?_)
  refine zr_aload_n C dX7_isOverNeck_6 rfl 0 rfl ?_
  refine zr_gr C hf kg_X7_19 (fun _ _ _ => rfl) dX7_isOverNeck_7 (fun w23 hf => ?_)
  refine zr_iload_n C dX7_isOverNeck_10 rfl 1 rfl ?_
  refine zr_iconst (v := 1) C dX7_isOverNeck_11 (by decide) ?_
  refine zr_isub C hf dX7_isOverNeck_12 (fun x24 hf => ?_)
  refine zr_iaload C hf dX7_isOverNeck_13 (fun x25 hf => ?_)
  refine zr_isub C hf dX7_isOverNeck_14 (fun x26 hf => ?_)
  refine zr_istore_n (lo2 := [(3, .int x26), (0, .ref (zB E + a0)), (1, .int p0), (2, .int p1)]) C dX7_isOverNeck_15 rfl (by decide) rfl ?_
  refine zr_aload_n C dX7_isOverNeck_16 rfl 1 rfl ?_
  refine zr_gr C hf kg_X7_19 (fun _ _ _ => rfl) dX7_isOverNeck_17 (fun w27 hf => ?_)
  refine zr_iload_n C dX7_isOverNeck_20 rfl 2 rfl ?_
  refine zr_iaload C hf dX7_isOverNeck_21 (fun x28 hf => ?_)
  refine zr_aload_n C dX7_isOverNeck_22 rfl 1 rfl ?_
  refine zr_gr C hf kg_X7_19 (fun _ _ _ => rfl) dX7_isOverNeck_23 (fun w29 hf => ?_)
  refine zr_iload_n C dX7_isOverNeck_26 rfl 2 rfl ?_
  refine zr_iconst (v := 1) C dX7_isOverNeck_27 (by decide) ?_
  refine zr_iadd C hf dX7_isOverNeck_28 (fun x30 hf => ?_)
  refine zr_iaload C hf dX7_isOverNeck_29 (fun x31 hf => ?_)
  refine zr_isub C hf dX7_isOverNeck_30 (fun x32 hf => ?_)
  refine zr_istore (lo2 := [(4, .int x32), (3, .int x26), (0, .ref (zB E + a0)), (1, .int p0), (2, .int p1)]) C dX7_isOverNeck_31 (by decide) rfl ?_
  refine zr_iload_n C dX7_isOverNeck_33 rfl 1 rfl ?_
  refine zr_iload_n C dX7_isOverNeck_34 rfl 4 rfl ?_
  refine zr_icmp_le (tgt := 44) C hf dX7_isOverNeck_35 (by decide) (fun hf => ?_) (fun hf => ?_)
  · refine zsub [4, 1, 0] rfl ?_
    exact J44 h p1 x26 x32 hf
  · refine zr_iload C dX7_isOverNeck_38 0 rfl ?_
    refine zr_iload_n C dX7_isOverNeck_40 rfl 4 rfl ?_
    refine zr_icmp_gt (tgt := 57) C hf dX7_isOverNeck_41 (by decide) (fun hf => ?_) (fun hf => ?_)
    · refine zsub [] rfl ?_
      exact J57 h hf
    · refine zsub [4, 1, 0] rfl ?_
      exact J44 h p1 x26 x32 hf
theorem dX7_goYear_0 : decode cX7_goYear 0 = .ok (.iconst 0, 1) := by decide +kernel
theorem dX7_goYear_1 : decode cX7_goYear 1 = .ok (.istore 4, 2) := by decide +kernel
theorem dX7_goYear_3 : decode cX7_goYear 3 = .ok (.iload 4, 2) := by decide +kernel
theorem dX7_goYear_5 : decode cX7_goYear 5 = .ok (.aload_n 0, 1) := by decide +kernel
theorem dX7_goYear_6 : decode cX7_goYear 6 = .ok (.getfield 25, 3) := by decide +kernel
theorem dX7_goYear_9 : decode cX7_goYear 9 = .ok (.if_icmp .ge 23, 3) := by decide +kernel
theorem dX7_goYear_12 : decode cX7_goYear 12 = .ok (.aload_n 0, 1) := by decide +kernel
theorem dX7_goYear_13 : decode cX7_goYear 13 = .ok (.getfield 22, 3) := by decide +kernel
theorem dX7_goYear_16 : decode cX7_goYear 16 = .ok (.iload 4, 2) := by decide +kernel
theorem dX7_goYear_18 : decode cX7_goYear 18 = .ok (.aload_n 0, 1) := by decide +kernel
theorem dX7_goYear_19 : decode cX7_goYear 19 = .ok (.getfield 19, 3) := by decide +kernel
theorem dX7_goYear_22 : decode cX7_goYear 22 = .ok (.iload 4, 2) := by decide +kernel
theorem dX7_goYear_24 : decode cX7_goYear 24 = .ok (.iaload, 1) := by decide +kernel
theorem dX7_goYear_25 : decode cX7_goYear 25 = .ok (.iastore, 1) := by decide +kernel
theorem dX7_goYear_26 : decode cX7_goYear 26 = .ok (.iinc 4 1, 3) := by decide +kernel
theorem dX7_goYear_29 : decode cX7_goYear 29 = .ok (.goto (-26), 3) := by decide +kernel
theorem dX7_goYear_32 : decode cX7_goYear 32 = .ok (.iconst 1, 1) := by decide +kernel
theorem dX7_goYear_33 : decode cX7_goYear 33 = .ok (.istore 4, 2) := by decide +kernel
theorem dX7_goYear_35 : decode cX7_goYear 35 = .ok (.iload 4, 2) := by decide +kernel
theorem dX7_goYear_37 : decode cX7_goYear 37 = .ok (.aload_n 0, 1) := by decide +kernel
theorem dX7_goYear_38 : decode cX7_goYear 38 = .ok (.getfield 25, 3) := by decide +kernel
theorem dX7_goYear_41 : decode cX7_goYear 41 = .ok (.iconst 1, 1) := by decide +kernel
theorem dX7_goYear_42 : decode cX7_goYear 42 = .ok (.isub, 1) := by decide +kernel
theorem dX7_goYear_43 : decode cX7_goYear 43 = .ok (.if_icmp .ge 66, 3) := by decide +kernel
theorem dX7_goYear_46 : decode cX7_goYear 46 = .ok (.aload_n 0, 1) := by decide +kernel
theorem dX7_goYear_47 : decode cX7_goYear 47 = .ok (.iload 4, 2) := by decide +kernel
theorem dX7_goYear_49 : decode cX7_goYear 49 = .ok (.invokevirtual 47, 3) := by decide +kernel
theorem dX7_goYear_52 : decode cX7_goYear 52 = .ok (.ifCond .eq 51, 3) := by decide +kernel
theorem dX7_goYear_55 : decode cX7_goYear 55 = .ok (.iload 4, 2) := by decide +kernel
theorem dX7_goYear_57 : decode cX7_goYear 57 = .ok (.iload_n 3, 1) := by decide +kernel
theorem dX7_goYear_58 : decode cX7_goYear 58 = .ok (.if_icmp .eq 45, 3) := by decide +kernel
theorem dX7_goYear_61 : decode cX7_goYear 61 = .ok (.aload_n 0, 1) := by decide +kernel
theorem dX7_goYear_62 : decode cX7_goYear 62 = .ok (.getfield 22, 3) := by decide +kernel
theorem dX7_goYear_65 : decode cX7_goYear 65 = .ok (.iload 4, 2) := by decide +kernel
theorem dX7_goYear_67 : decode cX7_goYear 67 = .ok (.iaload, 1) := by decide +kernel
theorem dX7_goYear_68 : decode cX7_goYear 68 = .ok (.aload_n 0, 1) := by decide +kernel
theorem dX7_goYear_69 : decode cX7_goYear 69 = .ok (.getfield 22, 3) := by decide +kernel
theorem dX7_goYear_72 : decode cX7_goYear 72 = .ok (.iload 4, 2) := by decide +kernel
theorem dX7_goYear_74 : decode cX7_goYear 74 = .ok (.invokestatic 50, 3) := by decide +kernel
theorem dX7_goYear_77 : decode cX7_goYear 77 = .ok (.iload_n 1, 1) := by decide +kernel
theorem dX7_goYear_78 : decode cX7_goYear 78 = .ok (.imul, 1) := by decide +kernel
theorem dX7_goYear_79 : decode cX7_goYear 79 = .ok (.bipush 20, 2) := by decide +kernel
theorem dX7_goYear_81 : decode cX7_goYear 81 = .ok (.idiv, 1) := by decide +kernel
theorem dX7_goYear_82 : decode cX7_goYear 82 = .ok (.iadd, 1) := by decide +kernel
theorem dX7_goYear_83 : decode cX7_goYear 83 = .ok (.istore 5, 2) := by decide +kernel
theorem dX7_goYear_85 : decode cX7_goYear 85 = .ok (.aload_n 0, 1) := by decide +kernel
theorem dX7_goYear_86 : decode cX7_goYear 86 = .ok (.getfield 19, 3) := by decide +kernel
theorem dX7_goYear_89 : decode cX7_goYear 89 = .ok (.iload 4, 2) := by decide +kernel
theorem dX7_goYear_91 : decode cX7_goYear 91 = .ok (.iconst 0, 1) := by decide +kernel
theorem dX7_goYear_92 : decode cX7_goYear 92 = .ok (.bipush 99, 2) := by decide +kernel
theorem dX7_goYear_94 : decode cX7_goYear 94 = .ok (.iload 5, 2) := by decide +kernel
theorem dX7_goYear_96 : decode cX7_goYear 96 = .ok (.invokestatic 54, 3) := by decide +kernel
theorem dX7_goYear_99 : decode cX7_goYear 99 = .ok (.invokestatic 60, 3) := by decide +kernel
theorem dX7_goYear_102 : decode cX7_goYear 102 = .ok (.iastore, 1) := by decide +kernel
theorem dX7_goYear_103 : decode cX7_goYear 103 = .ok (.iinc 4 1, 3) := by decide +kernel
theorem dX7_goYear_106 : decode cX7_goYear 106 = .ok (.goto (-71), 3) := by decide +kernel
theorem dX7_goYear_109 : decode cX7_goYear 109 = .ok (.iconst 0, 1) := by decide +kernel
theorem dX7_goYear_110 : decode cX7_goYear 110 = .ok (.istore 4, 2) := by decide +kernel
theorem dX7_goYear_112 : decode cX7_goYear 112 = .ok (.iconst 1, 1) := by decide +kernel
theorem dX7_goYear_113 : decode cX7_goYear 113 = .ok (.istore 5, 2) := by decide +kernel
theorem dX7_goYear_115 : decode cX7_goYear 115 = .ok (.iload 5, 2) := by decide +kernel
theorem dX7_goYear_117 : decode cX7_goYear 117 = .ok (.aload_n 0, 1) := by decide +kernel
theorem dX7_goYear_118 : decode cX7_goYear 118 = .ok (.getfield 25, 3) := by decide +kernel
theorem dX7_goYear_121 : decode cX7_goYear 121 = .ok (.iconst 1, 1) := by decide +kernel
theorem dX7_goYear_122 : decode cX7_goYear 122 = .ok (.isub, 1) := by decide +kernel
theorem dX7_goYear_123 : decode cX7_goYear 123 = .ok (.if_icmp .ge 65, 3) := by decide +kernel
theorem dX7_goYear_126 : decode cX7_goYear 126 = .ok (.aload_n 0, 1) := by decide +kernel
theorem dX7_goYear_127 : decode cX7_goYear 127 = .ok (.iload 5, 2) := by decide +kernel
theorem dX7_goYear_129 : decode cX7_goYear 129 = .ok (.invokevirtual 47, 3) := by decide +kernel
theorem dX7_goYear_132 : decode cX7_goYear 132 = .ok (.ifCond .eq 50, 3) := by decide +kernel
theorem dX7_goYear_135 : decode cX7_goYear 135 = .ok (.iload 5, 2) := by decide +kernel
theorem dX7_goYear_137 : decode cX7_goYear 137 = .ok (.iload_n 3, 1) := by decide +kernel
theorem dX7_goYear_138 : decode cX7_goYear 138 = .ok (.if_icmp .eq 44, 3) := by decide +kernel
theorem dX7_goYear_141 : decode cX7_goYear 141 = .ok (.aload_n 0, 1) := by decide +kernel
theorem dX7_goYear_142 : decode cX7_goYear 142 = .ok (.iload 5, 2) := by decide +kernel
theorem dX7_goYear_144 : decode cX7_goYear 144 = .ok (.iload_n 2, 1) := by decide +kernel
theorem dX7_goYear_145 : decode cX7_goYear 145 = .ok (.invokevirtual 63, 3) := by decide +kernel
theorem dX7_goYear_148 : decode cX7_goYear 148 = .ok (.ifCond .eq 34, 3) := by decide +kernel
theorem dX7_goYear_151 : decode cX7_goYear 151 = .ok (.aload_n 0, 1) := by decide +kernel
theorem dX7_goYear_152 : decode cX7_goYear 152 = .ok (.getfield 19, 3) := by decide +kernel
theorem dX7_goYear_155 : decode cX7_goYear 155 = .ok (.iload 5, 2) := by decide +kernel
theorem dX7_goYear_157 : decode cX7_goYear 157 = .ok (.aload_n 0, 1) := by decide +kernel
theorem dX7_goYear_158 : decode cX7_goYear 158 = .ok (.getfield 19, 3) := by decide +kernel
theorem dX7_goYear_161 : decode cX7_goYear 161 = .ok (.iload 5, 2) := by decide +kernel
theorem dX7_goYear_163 : decode cX7_goYear 163 = .ok (.iconst 1, 1) := by decide +kernel
theorem dX7_goYear_164 : decode cX7_goYear 164 = .ok (.isub, 1) := by decide +kernel
theorem dX7_goYear_165 : decode cX7_goYear 165 = .ok (.iaload, 1) := by decide +kernel
theorem dX7_goYear_166 : decode cX7_goYear 166 = .ok (.aload_n 0, 1) := by decide +kernel
theorem dX7_goYear_167 : decode cX7_goYear 167 = .ok (.getfield 19, 3) := by decide +kernel
theorem dX7_goYear_170 : decode cX7_goYear 170 = .ok (.iload 5, 2) := by decide +kernel
theorem dX7_goYear_172 : decode cX7_goYear 172 = .ok (.iconst 1, 1) := by decide +kernel
theorem dX7_goYear_173 : decode cX7_goYear 173 = .ok (.iadd, 1) := by decide +kernel
theorem dX7_goYear_174 : decode cX7_goYear 174 = .ok (.iaload, 1) := by decide +kernel
theorem dX7_goYear_175 : decode cX7_goYear 175 = .ok (.iadd, 1) := by decide +kernel
theorem dX7_goYear_176 : decode cX7_goYear 176 = .ok (.iconst 2, 1) := by decide +kernel
theorem dX7_goYear_177 : decode cX7_goYear 177 = .ok (.idiv, 1) := by decide +kernel
theorem dX7_goYear_178 : decode cX7_goYear 178 = .ok (.iastore, 1) := by decide +kernel
theorem dX7_goYear_179 : decode cX7_goYear 179 = .ok (.iinc 4 1, 3) := by decide +kernel
theorem dX7_goYear_182 : decode cX7_goYear 182 = .ok (.iinc 5 1, 3) := by decide +kernel
theorem dX7_goYear_185 : decode cX7_goYear 185 = .ok (.goto (-70), 3) := by decide +kernel
theorem dX7_goYear_188 : decode cX7_goYear 188 = .ok (.iload 4, 2) := by decide +kernel
theorem dX7_goYear_190 : decode cX7_goYear 190 = .ok (.ireturn, 1) := by decide +kernel
set_option maxHeartbeats 4000000 in
set_option maxRecDepth 100000 in
theorem c_X7_goYear (l : Launch) (E : zE) (n : Nat) (h : zH) (a0 : Nat) (p0 : Int32) (p1 : Int32) (p2 : Int32) (res : Int32 × zH) (hf : F_X7_goYear n h a0 p0 p1 p2 = some res) : Met l yX7_goYear (zw yX7_goYear cX7_goYear 6 (some .int)) ({ frames := 1, cells := 0, slots := 0, locals := 24 } : Room) (zPc E h [.ref (zB E + a0), .int p0, .int p1, .int p2]) (zQc E res.2 (some (.int res.1))) 0 0 (zfr E) := by
  refine zmet (lo := [(0, .ref (zB E + a0)), (1, .int p0), (2, .int p1), (3, .int p2)]) (by decide +kernel) (Nat.le_of_ble_eq_true rfl) rfl ?_
  intro p e s m args below meth c C hr hin
  unfold F_X7_goYear at hf
  refine zr_iconst (v := 0) C dX7_goYear_0 (by decide) ?_
  refine zr_istore (lo2 := [(4, .int (0 : Int32)), (0, .ref (zB E + a0)), (1, .int p0), (2, .int p1), (3, .int p2)]) C dX7_goYear_1 (by decide) rfl ?_
  have L3 : ∀ (fu : Nat) (x : zH × Int32), zloop (fun kc x => F_X7_goYear_B3 n kc x.1 a0 p0 p1 p2 x.2) fu x = some res → zW p l e (headSpec (zw yX7_goYear cX7_goYear 6 (some .int)) ({ frames := 1, cells := 0, slots := 0, locals := 24 } : Room)).room s m args below meth c E 6 (MQ below (zQc E res.2 (some (.int res.1))) args s 0 0 (zfr E)) 0 0 3 [(0, .ref (zB E + a0)), (1, .int p0), (2, .int p1), (3, .int p2), (4, .int x.2)] [] x.1 := by
    refine z_loop _ ?_
    intro kc3 hk3 x hf
    obtain ⟨h142, x141⟩ := x
    dsimp only at hf ⊢
    unfold F_X7_goYear_B3 at hf
    refine zr_iload C dX7_goYear_3 4 rfl ?_
    refine zr_aload_n C dX7_goYear_5 rfl 0 rfl ?_
    refine zr_gi C hf kg_X7_25 (fun _ _ _ => rfl) dX7_goYear_6 (fun x143 hf => ?_)
    refine zr_icmp_ge (tgt := 32) C hf dX7_goYear_9 (by decide) (fun hf => ?_) (fun hf => ?_)
    · refine zr_iconst (v := 1) C dX7_goYear_32 (by decide) ?_
      refine zr_istore (lo2 := [(4, .int (1 : Int32)), (0, .ref (zB E + a0)), (1, .int p0), (2, .int p1), (3, .int p2)]) C dX7_goYear_33 (by decide) rfl ?_
      have L35 : ∀ (fu : Nat) (x : zH × Int32), zloop (fun kc x => F_X7_goYear_B35 n kc x.1 a0 p0 p1 p2 x.2) fu x = some res → zW p l e (headSpec (zw yX7_goYear cX7_goYear 6 (some .int)) ({ frames := 1, cells := 0, slots := 0, locals := 24 } : Room)).room s m args below meth c E 6 (MQ below (zQc E res.2 (some (.int res.1))) args s 0 0 (zfr E)) 0 0 35 [(0, .ref (zB E + a0)), (1, .int p0), (2, .int p1), (3, .int p2), (4, .int x.2)] [] x.1 := by
        refine z_loop _ ?_
        intro kc35 hk35 x hf
        obtain ⟨h145, x144⟩ := x
        dsimp only at hf ⊢
        unfold F_X7_goYear_B35 at hf
        have J103 : ∀ (h147 : zH) (x146 : Int32), F_X7_goYear_J103 n kc35 h147 a0 p0 p1 p2 x146 = some res → zW p l e (headSpec (zw yX7_goYear cX7_goYear 6 (some .int)) ({ frames := 1, cells := 0, slots := 0, locals := 24 } : Room)).room s m args below meth c E 6 (MQ below (zQc E res.2 (some (.int res.1))) args s 0 0 (zfr E)) 0 0 103 [(0, .ref (zB E + a0)), (1, .int p0), (2, .int p1), (3, .int p2), (4, .int x146)] [] h147 := by
          intro h147 x146 hf
          unfold F_X7_goYear_J103 at hf
          refine zr_iinc (v0 := 1) (k := 4) (f := fun v => [(4, .int v), (0, .ref (zB E + a0)), (1, .int p0), (2, .int p1), (3, .int p2)]) C hf (by decide) dX7_goYear_103 rfl (by decide) (fun v => rfl) (fun x148 hf => ?_)
          refine zr_goto (tgt := 35) C dX7_goYear_106 (by decide) ?_
          refine zsub [1, 2, 3, 4, 0] rfl ?_
          exact hk35 (h147, x148) hf
        refine zr_iload C dX7_goYear_35 4 rfl ?_
        refine zr_aload_n C dX7_goYear_37 rfl 0 rfl ?_
        refine zr_gi C hf kg_X7_25 (fun _ _ _ => rfl) dX7_goYear_38 (fun x149 hf => ?_)
        refine zr_iconst (v := 1) C dX7_goYear_41 (by decide) ?_
        refine zr_isub C hf dX7_goYear_42 (fun x150 hf => ?_)
        refine zr_icmp_ge (tgt := 109) C hf dX7_goYear_43 (by decide) (fun hf => ?_) (fun hf => ?_)
        · refine zr_iconst (v := 0) C dX7_goYear_109 (by decide) ?_
          refine zr_istore (lo2 := [(4, .int (0 : Int32)), (0, .ref (zB E + a0)), (1, .int p0), (2, .int p1), (3, .int p2)]) C dX7_goYear_110 (by decide) rfl ?_
          refine zr_iconst (v := 1) C dX7_goYear_112 (by decide) ?_
          refine zr_istore (lo2 := [(5, .int (1 : Int32)), (4, .int (0 : Int32)), (0, .ref (zB E + a0)), (1, .int p0), (2, .int p1), (3, .int p2)]) C dX7_goYear_113 (by decide) rfl ?_
          have L115 : ∀ (fu : Nat) (x : zH × Int32 × Int32), zloop (fun kc x => F_X7_goYear_B115 n kc x.1 a0 p1 p2 x.2.1 x.2.2) fu x = some res → zW p l e (headSpec (zw yX7_goYear cX7_goYear 6 (some .int)) ({ frames := 1, cells := 0, slots := 0, locals := 24 } : Room)).room s m args below meth c E 6 (MQ below (zQc E res.2 (some (.int res.1))) args s 0 0 (zfr E)) 0 0 115 [(0, .ref (zB E + a0)), (2, .int p1), (3, .int p2), (4, .int x.2.1), (5, .int x.2.2)] [] x.1 := by
            refine z_loop _ ?_
            intro kc115 hk115 x hf
            obtain ⟨h153, x151, x152⟩ := x
            dsimp only at hf ⊢
            unfold F_X7_goYear_B115 at hf
            have J182 : ∀ (h156 : zH) (x154 : Int32) (x155 : Int32), F_X7_goYear_J182 n kc115 h156 a0 p1 p2 x154 x155 = some res → zW p l e (headSpec (zw yX7_goYear cX7_goYear 6 (some .int)) ({ frames := 1, cells := 0, slots := 0, locals := 24 } : Room)).room s m args below meth c E 6 (MQ below (zQc E res.2 (some (.int res.1))) args s 0 0 (zfr E)) 0 0 182 [(0, .ref (zB E + a0)), (2, .int p1), (3, .int p2), (4, .int x154), (5, .int x155)] [] h156 := by
              intro h156 x154 x155 hf
              unfold F_X7_goYear_J182 at hf
              refine zr_iinc (v0 := 1) (k := 4) (f := fun v => [(5, .int v), (0, .ref (zB E + a0)), (2, .int p1), (3, .int p2), (4, .int x154)]) C hf (by decide) dX7_goYear_182 rfl (by decide) (fun v => rfl) (fun x157 hf => ?_)
              refine zr_goto (tgt := 115) C dX7_goYear_185 (by decide) ?_
              refine zsub [1, 2, 3, 4, 0] rfl ?_
              exact hk115 (h156, x154, x157) hf
            refine zr_iload C dX7_goYear_115 4 rfl ?_
            refine zr_aload_n C dX7_goYear_117 rfl 0 rfl ?_
            refine zr_gi C hf kg_X7_25 (fun _ _ _ => rfl) dX7_goYear_118 (fun x158 hf => ?_)
            refine zr_iconst (v := 1) C dX7_goYear_121 (by decide) ?_
            refine zr_isub C hf dX7_goYear_122 (fun x159 hf => ?_)
            refine zr_icmp_ge (tgt := 188) C hf dX7_goYear_123 (by decide) (fun hf => ?_) (fun hf => ?_)
            · refine zr_iload C dX7_goYear_188 3 rfl ?_
              exact zr_ireturn C hf hr (Nat.le_of_ble_eq_true rfl) (Nat.le_of_ble_eq_true rfl) dX7_goYear_190
            · refine zr_aload_n C dX7_goYear_126 rfl 0 rfl ?_
              refine zr_iload C dX7_goYear_127 4 rfl ?_
              refine zr_callVi (As := [.int x152]) (rest := []) C hf (fun x hx => c_X7_isFree l E n h153 a0 x152 x hx) kv_X7_47 rfl rfl (Nat.le_of_ble_eq_true rfl) ⟨rfl, rfl⟩ ⟨Nat.le_of_ble_eq_true rfl, Nat.le_of_ble_eq_true rfl⟩ ⟨Nat.le_of_ble_eq_true rfl, Nat.le_of_ble_eq_true rfl⟩ dX7_goYear_129 (fun x161 h160 hf => ?_)
              refine zr_if_eq (tgt := 182) C hf dX7_goYear_132 (by decide) (fun hf => ?_) (fun hf => ?_)
              · exact J182 h160 x151 x152 hf
              · refine zr_iload C dX7_goYear_135 4 rfl ?_
                refine zr_iload_n C dX7_goYear_137 rfl 2 rfl ?_
                refine zr_icmp_eq (tgt := 182) C hf dX7_goYear_138 (by decide) (fun hf => ?_) (fun hf => ?_)
                · exact J182 h160 x151 x152 hf
                · refine zr_aload_n C dX7_goYear_141 rfl 0 rfl ?_
                  refine zr_iload C dX7_goYear_142 4 rfl ?_
                  refine zr_iload_n C dX7_goYear_144 rfl 1 rfl ?_
                  refine zr_callVi (As := [.int x152, .int p1]) (rest := []) C hf (fun x hx => c_X7_isOverNeck l E n h160 a0 x152 p1 x hx) kv_X7_63 rfl rfl (Nat.le_of_ble_eq_true rfl) ⟨rfl, rfl⟩ ⟨Nat.le_of_ble_eq_true rfl, Nat.le_of_ble_eq_true rfl⟩ ⟨Nat.le_of_ble_eq_true rfl, Nat.le_of_ble_eq_true rfl⟩ dX7_goYear_145 (fun x163 h162 hf => ?_)
                  refine zr_if_eq (tgt := 182) C hf dX7_goYear_148 (by decide) (fun hf => ?_) (fun hf => ?_)
                  · exact J182 h162 x151 x152 hf
                  · refine zr_aload_n C dX7_goYear_151 rfl 0 rfl ?_
                    refine zr_gr C hf kg_X7_19 (fun _ _ _ => rfl) dX7_goYear_152 (fun w164 hf => ?_)
                    refine zr_iload C dX7_goYear_155 4 rfl ?_
                    refine zr_aload_n C dX7_goYear_157 rfl 0 rfl ?_
                    refine zr_gr C hf kg_X7_19 (fun _ _ _ => rfl) dX7_goYear_158 (fun w165 hf => ?_)
                    refine zr_iload C dX7_goYear_161 4 rfl ?_
                    refine zr_iconst (v := 1) C dX7_goYear_163 (by decide) ?_
                    refine zr_isub C hf dX7_goYear_164 (fun x166 hf => ?_)
                    refine zr_iaload C hf dX7_goYear_165 (fun x167 hf => ?_)
                    refine zr_aload_n C dX7_goYear_166 rfl 0 rfl ?_
                    refine zr_gr C hf kg_X7_19 (fun _ _ _ => rfl) dX7_goYear_167 (fun w168 hf => ?_)
                    refine zr_iload C dX7_goYear_170 4 rfl ?_
                    refine zr_iconst (v := 1) C dX7_goYear_172 (by decide) ?_
                    refine zr_iadd C hf dX7_goYear_173 (fun x169 hf => ?_)
                    refine zr_iaload C hf dX7_goYear_174 (fun x170 hf => ?_)
                    refine zr_iadd C hf dX7_goYear_175 (fun x171 hf => ?_)
                    refine zr_iconst (v := 2) C dX7_goYear_176 (by decide) ?_
                    refine zr_idiv C hf dX7_goYear_177 (fun x172 hf => ?_)
                    refine zr_iastore C hf dX7_goYear_178 (fun h173 hf => ?_)
                    refine zr_iinc (v0 := 1) (k := 3) (f := fun v => [(4, .int v), (0, .ref (zB E + a0)), (2, .int p1), (3, .int p2), (5, .int x152)]) C hf (by decide) dX7_goYear_179 rfl (by decide) (fun v => rfl) (fun x174 hf => ?_)
                    refine zsub [1, 2, 3, 0, 4] rfl ?_
                    exact J182 h173 x174 x152 hf
          refine zsub [2, 4, 5, 1, 0] rfl ?_
          exact L115 n (h145, (0 : Int32), (1 : Int32)) hf
        · refine zr_aload_n C dX7_goYear_46 rfl 0 rfl ?_
          refine zr_iload C dX7_goYear_47 4 rfl ?_
          refine zr_callVi (As := [.int x144]) (rest := []) C hf (fun x hx => c_X7_isFree l E n h145 a0 x144 x hx) kv_X7_47 rfl rfl (Nat.le_of_ble_eq_true rfl) ⟨rfl, rfl⟩ ⟨Nat.le_of_ble_eq_true rfl, Nat.le_of_ble_eq_true rfl⟩ ⟨Nat.le_of_ble_eq_true rfl, Nat.le_of_ble_eq_true rfl⟩ dX7_goYear_49 (fun x176 h175 hf => ?_)
          refine zr_if_eq (tgt := 103) C hf dX7_goYear_52 (by decide) (fun hf => ?_) (fun hf => ?_)
          · exact J103 h175 x144 hf
          · refine zr_iload C dX7_goYear_55 4 rfl ?_
            refine zr_iload_n C dX7_goYear_57 rfl 3 rfl ?_
            refine zr_icmp_eq (tgt := 103) C hf dX7_goYear_58 (by decide) (fun hf => ?_) (fun hf => ?_)
            · exact J103 h175 x144 hf
            · refine zr_aload_n C dX7_goYear_61 rfl 0 rfl ?_
              refine zr_gr C hf kg_X7_22 (fun _ _ _ => rfl) dX7_goYear_62 (fun w177 hf => ?_)
              refine zr_iload C dX7_goYear_65 4 rfl ?_
              refine zr_iaload C hf dX7_goYear_67 (fun x178 hf => ?_)
              refine zr_aload_n C dX7_goYear_68 rfl 0 rfl ?_
              refine zr_gr C hf kg_X7_22 (fun _ _ _ => rfl) dX7_goYear_69 (fun w179 hf => ?_)
              refine zr_iload C dX7_goYear_72 4 rfl ?_
              refine zr_callSi (As := [.ref (zB E + w179), .int x144]) (rest := [.int x178]) C hf (fun x hx => c_X7_bendOf l E n h175 w179 x144 x hx) ks_X7_50 rfl rfl (Nat.le_of_ble_eq_true rfl) ⟨rfl, rfl⟩ ⟨Nat.le_of_ble_eq_true rfl, Nat.le_of_ble_eq_true rfl⟩ ⟨Nat.le_of_ble_eq_true rfl, Nat.le_of_ble_eq_true rfl⟩ dX7_goYear_74 (fun x181 h180 hf => ?_)
              refine zr_iload_n C dX7_goYear_77 rfl 1 rfl ?_
              refine zr_imul C hf dX7_goYear_78 (fun x182 hf => ?_)
              refine zr_bipush (v := 20) C dX7_goYear_79 (by decide) ?_
              refine zr_idiv C hf dX7_goYear_81 (fun x183 hf => ?_)
              refine zr_iadd C hf dX7_goYear_82 (fun x184 hf => ?_)
              refine zr_istore (lo2 := [(5, .int x184), (0, .ref (zB E + a0)), (1, .int p0), (2, .int p1), (3, .int p2), (4, .int x144)]) C dX7_goYear_83 (by decide) rfl ?_
              refine zr_aload_n C dX7_goYear_85 rfl 1 rfl ?_
              refine zr_gr C hf kg_X7_19 (fun _ _ _ => rfl) dX7_goYear_86 (fun w185 hf => ?_)
              refine zr_iload C dX7_goYear_89 5 rfl ?_
              refine zr_iconst (v := 0) C dX7_goYear_91 (by decide) ?_
              refine zr_bipush (v := 99) C dX7_goYear_92 (by decide) ?_
              refine zr_iload C dX7_goYear_94 0 rfl ?_
              refine zr_min C hf zt798 zt610 zt77 zt611 ⟨Nat.le_of_ble_eq_true rfl, Nat.le_of_ble_eq_true rfl⟩ ⟨Nat.le_of_ble_eq_true rfl, Nat.le_of_ble_eq_true rfl⟩ dX7_goYear_96 (fun x186 hf => ?_)
              refine zr_max C hf zt799 zt613 zt77 zt614 ⟨Nat.le_of_ble_eq_true rfl, Nat.le_of_ble_eq_true rfl⟩ ⟨Nat.le_of_ble_eq_true rfl, Nat.le_of_ble_eq_true rfl⟩ dX7_goYear_99 (fun x187 hf => ?_)
              refine zr_iastore C hf dX7_goYear_102 (fun h188 hf => ?_)
              refine zsub [1, 2, 3, 4, 5] rfl ?_
              exact J103 h188 x144 hf
      refine zsub [1, 2, 3, 4, 0] rfl ?_
      exact L35 n (h142, (1 : Int32)) hf
    · refine zr_aload_n C dX7_goYear_12 rfl 0 rfl ?_
      refine zr_gr C hf kg_X7_22 (fun _ _ _ => rfl) dX7_goYear_13 (fun w189 hf => ?_)
      refine zr_iload C dX7_goYear_16 4 rfl ?_
      refine zr_aload_n C dX7_goYear_18 rfl 0 rfl ?_
      refine zr_gr C hf kg_X7_19 (fun _ _ _ => rfl) dX7_goYear_19 (fun w190 hf => ?_)
      refine zr_iload C dX7_goYear_22 4 rfl ?_
      refine zr_iaload C hf dX7_goYear_24 (fun x191 hf => ?_)
      refine zr_iastore C hf dX7_goYear_25 (fun h192 hf => ?_)
      refine zr_iinc (v0 := 1) (k := 4) (f := fun v => [(4, .int v), (0, .ref (zB E + a0)), (1, .int p0), (2, .int p1), (3, .int p2)]) C hf (by decide) dX7_goYear_26 rfl (by decide) (fun v => rfl) (fun x193 hf => ?_)
      refine zr_goto (tgt := 3) C dX7_goYear_29 (by decide) ?_
      refine zsub [1, 2, 3, 4, 0] rfl ?_
      exact hk3 (h192, x193) hf
  refine zsub [1, 2, 3, 4, 0] rfl ?_
  exact L3 n (h, (0 : Int32)) hf
theorem dX7_goYears_0 : decode cX7_goYears 0 = .ok (.aload_n 0, 1) := by decide +kernel
theorem dX7_goYears_1 : decode cX7_goYears 1 = .ok (.invokevirtual 67, 3) := by decide +kernel
theorem dX7_goYears_4 : decode cX7_goYears 4 = .ok (.iconst 0, 1) := by decide +kernel
theorem dX7_goYears_5 : decode cX7_goYears 5 = .ok (.istore 5, 2) := by decide +kernel
theorem dX7_goYears_7 : decode cX7_goYears 7 = .ok (.iconst 0, 1) := by decide +kernel
theorem dX7_goYears_8 : decode cX7_goYears 8 = .ok (.istore 6, 2) := by decide +kernel
theorem dX7_goYears_10 : decode cX7_goYears 10 = .ok (.iload 6, 2) := by decide +kernel
theorem dX7_goYears_12 : decode cX7_goYears 12 = .ok (.iload_n 1, 1) := by decide +kernel
theorem dX7_goYears_13 : decode cX7_goYears 13 = .ok (.if_icmp .ge 22, 3) := by decide +kernel
theorem dX7_goYears_16 : decode cX7_goYears 16 = .ok (.iload 5, 2) := by decide +kernel
theorem dX7_goYears_18 : decode cX7_goYears 18 = .ok (.aload_n 0, 1) := by decide +kernel
theorem dX7_goYears_19 : decode cX7_goYears 19 = .ok (.iload_n 2, 1) := by decide +kernel
theorem dX7_goYears_20 : decode cX7_goYears 20 = .ok (.iload_n 3, 1) := by decide +kernel
theorem dX7_goYears_21 : decode cX7_goYears 21 = .ok (.iload 4, 2) := by decide +kernel
theorem dX7_goYears_23 : decode cX7_goYears 23 = .ok (.invokevirtual 70, 3) := by decide +kernel
theorem dX7_goYears_26 : decode cX7_goYears 26 = .ok (.iadd, 1) := by decide +kernel
theorem dX7_goYears_27 : decode cX7_goYears 27 = .ok (.istore 5, 2) := by decide +kernel
theorem dX7_goYears_29 : decode cX7_goYears 29 = .ok (.iinc 6 1, 3) := by decide +kernel
theorem dX7_goYears_32 : decode cX7_goYears 32 = .ok (.goto (-22), 3) := by decide +kernel
theorem dX7_goYears_35 : decode cX7_goYears 35 = .ok (.iload 5, 2) := by decide +kernel
theorem dX7_goYears_37 : decode cX7_goYears 37 = .ok (.ireturn, 1) := by decide +kernel
set_option maxHeartbeats 4000000 in
set_option maxRecDepth 100000 in
theorem c_X7_goYears (l : Launch) (E : zE) (n : Nat) (h : zH) (a0 : Nat) (p0 : Int32) (p1 : Int32) (p2 : Int32) (p3 : Int32) (res : Int32 × zH) (hf : F_X7_goYears n h a0 p0 p1 p2 p3 = some res) : Met l yX7_goYears (zw yX7_goYears cX7_goYears 7 (some .int)) ({ frames := 2, cells := 0, slots := 0, locals := 49 } : Room) (zPc E h [.ref (zB E + a0), .int p0, .int p1, .int p2, .int p3]) (zQc E res.2 (some (.int res.1))) 0 0 (zfr E) := by
  refine zmet (lo := [(0, .ref (zB E + a0)), (1, .int p0), (2, .int p1), (3, .int p2), (4, .int p3)]) (by decide +kernel) (Nat.le_of_ble_eq_true rfl) rfl ?_
  intro p e s m args below meth c C hr hin
  unfold F_X7_goYears at hf
  refine zr_aload_n C dX7_goYears_0 rfl 0 rfl ?_
  refine zr_callVv (As := []) (rest := []) C hf (fun x hx => c_X7_beginYears l E n h a0 x hx) kv_X7_67 rfl rfl (Nat.le_of_ble_eq_true rfl) ⟨rfl, rfl⟩ ⟨Nat.le_of_ble_eq_true rfl, Nat.le_of_ble_eq_true rfl⟩ ⟨Nat.le_of_ble_eq_true rfl, Nat.le_of_ble_eq_true rfl⟩ dX7_goYears_1 (fun _ h1 hf => ?_)
  refine zr_iconst (v := 0) C dX7_goYears_4 (by decide) ?_
  refine zr_istore (lo2 := [(5, .int (0 : Int32)), (0, .ref (zB E + a0)), (1, .int p0), (2, .int p1), (3, .int p2), (4, .int p3)]) C dX7_goYears_5 (by decide) rfl ?_
  refine zr_iconst (v := 0) C dX7_goYears_7 (by decide) ?_
  refine zr_istore (lo2 := [(6, .int (0 : Int32)), (5, .int (0 : Int32)), (0, .ref (zB E + a0)), (1, .int p0), (2, .int p1), (3, .int p2), (4, .int p3)]) C dX7_goYears_8 (by decide) rfl ?_
  have L10 : ∀ (fu : Nat) (x : zH × Int32 × Int32), zloop (fun kc x => F_X7_goYears_B10 n kc x.1 a0 p0 p1 p2 p3 x.2.1 x.2.2) fu x = some res → zW p l e (headSpec (zw yX7_goYears cX7_goYears 7 (some .int)) ({ frames := 2, cells := 0, slots := 0, locals := 49 } : Room)).room s m args below meth c E 7 (MQ below (zQc E res.2 (some (.int res.1))) args s 0 0 (zfr E)) 0 0 10 [(0, .ref (zB E + a0)), (1, .int p0), (2, .int p1), (3, .int p2), (4, .int p3), (5, .int x.2.1), (6, .int x.2.2)] [] x.1 := by
    refine z_loop _ ?_
    intro kc10 hk10 x hf
    obtain ⟨h16, x14, x15⟩ := x
    dsimp only at hf ⊢
    unfold F_X7_goYears_B10 at hf
    refine zr_iload C dX7_goYears_10 6 rfl ?_
    refine zr_iload_n C dX7_goYears_12 rfl 1 rfl ?_
    refine zr_icmp_ge (tgt := 35) C hf dX7_goYears_13 (by decide) (fun hf => ?_) (fun hf => ?_)
    · refine zr_iload C dX7_goYears_35 5 rfl ?_
      exact zr_ireturn C hf hr (Nat.le_of_ble_eq_true rfl) (Nat.le_of_ble_eq_true rfl) dX7_goYears_37
    · refine zr_iload C dX7_goYears_16 5 rfl ?_
      refine zr_aload_n C dX7_goYears_18 rfl 0 rfl ?_
      refine zr_iload_n C dX7_goYears_19 rfl 2 rfl ?_
      refine zr_iload_n C dX7_goYears_20 rfl 3 rfl ?_
      refine zr_iload C dX7_goYears_21 4 rfl ?_
      refine zr_callVi (As := [.int p1, .int p2, .int p3]) (rest := [.int x14]) C hf (fun x hx => c_X7_goYear l E n h16 a0 p1 p2 p3 x hx) kv_X7_70 rfl rfl (Nat.le_of_ble_eq_true rfl) ⟨rfl, rfl⟩ ⟨Nat.le_of_ble_eq_true rfl, Nat.le_of_ble_eq_true rfl⟩ ⟨Nat.le_of_ble_eq_true rfl, Nat.le_of_ble_eq_true rfl⟩ dX7_goYears_23 (fun x18 h17 hf => ?_)
      refine zr_iadd C hf dX7_goYears_26 (fun x19 hf => ?_)
      refine zr_istore (lo2 := [(5, .int x19), (0, .ref (zB E + a0)), (1, .int p0), (2, .int p1), (3, .int p2), (4, .int p3), (6, .int x15)]) C dX7_goYears_27 (by decide) rfl ?_
      refine zr_iinc (v0 := 1) (k := 6) (f := fun v => [(6, .int v), (5, .int x19), (0, .ref (zB E + a0)), (1, .int p0), (2, .int p1), (3, .int p2), (4, .int p3)]) C hf (by decide) dX7_goYears_29 rfl (by decide) (fun v => rfl) (fun x20 hf => ?_)
      refine zr_goto (tgt := 10) C dX7_goYears_32 (by decide) ?_
      refine zsub [2, 3, 4, 5, 6, 1, 0] rfl ?_
      exact hk10 (h17, x19, x20) hf
  refine zsub [2, 3, 4, 5, 6, 1, 0] rfl ?_
  exact L10 n (h1, (0 : Int32), (0 : Int32)) hf
