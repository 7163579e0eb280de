theorem dX0_copyFrom_0 : decode cX0_copyFrom 0 = .ok (.iconst 0, 1) := by decide +kernel
theorem dX0_copyFrom_1 : decode cX0_copyFrom 1 = .ok (.istore_n 3, 1) := by decide +kernel
theorem dX0_copyFrom_2 : decode cX0_copyFrom 2 = .ok (.iload_n 3, 1) := by decide +kernel
theorem dX0_copyFrom_3 : decode cX0_copyFrom 3 = .ok (.bipush 6, 2) := by decide +kernel
theorem dX0_copyFrom_5 : decode cX0_copyFrom 5 = .ok (.if_icmp .ge 42, 3) := by decide +kernel
theorem dX0_copyFrom_8 : decode cX0_copyFrom 8 = .ok (.iconst 0, 1) := by decide +kernel
theorem dX0_copyFrom_9 : decode cX0_copyFrom 9 = .ok (.istore 4, 2) := by decide +kernel
theorem dX0_copyFrom_11 : decode cX0_copyFrom 11 = .ok (.iload 4, 2) := by decide +kernel
theorem dX0_copyFrom_13 : decode cX0_copyFrom 13 = .ok (.iconst 4, 1) := by decide +kernel
theorem dX0_copyFrom_14 : decode cX0_copyFrom 14 = .ok (.if_icmp .ge 27, 3) := by decide +kernel
theorem dX0_copyFrom_17 : decode cX0_copyFrom 17 = .ok (.aload_n 0, 1) := by decide +kernel
theorem dX0_copyFrom_18 : decode cX0_copyFrom 18 = .ok (.getfield 11, 3) := by decide +kernel
theorem dX0_copyFrom_21 : decode cX0_copyFrom 21 = .ok (.iload_n 3, 1) := by decide +kernel
theorem dX0_copyFrom_22 : decode cX0_copyFrom 22 = .ok (.aaload, 1) := by decide +kernel
theorem dX0_copyFrom_23 : decode cX0_copyFrom 23 = .ok (.iload 4, 2) := by decide +kernel
theorem dX0_copyFrom_25 : decode cX0_copyFrom 25 = .ok (.aload_n 1, 1) := by decide +kernel
theorem dX0_copyFrom_26 : decode cX0_copyFrom 26 = .ok (.getfield 11, 3) := by decide +kernel
theorem dX0_copyFrom_29 : decode cX0_copyFrom 29 = .ok (.iload_n 3, 1) := by decide +kernel
theorem dX0_copyFrom_30 : decode cX0_copyFrom 30 = .ok (.aaload, 1) := by decide +kernel
theorem dX0_copyFrom_31 : decode cX0_copyFrom 31 = .ok (.iload 4, 2) := by decide +kernel
theorem dX0_copyFrom_33 : decode cX0_copyFrom 33 = .ok (.iaload, 1) := by decide +kernel
theorem dX0_copyFrom_34 : decode cX0_copyFrom 34 = .ok (.iastore, 1) := by decide +kernel
theorem dX0_copyFrom_35 : decode cX0_copyFrom 35 = .ok (.iinc 4 1, 3) := by decide +kernel
theorem dX0_copyFrom_38 : decode cX0_copyFrom 38 = .ok (.goto (-27), 3) := by decide +kernel
theorem dX0_copyFrom_41 : decode cX0_copyFrom 41 = .ok (.iinc 3 1, 3) := by decide +kernel
theorem dX0_copyFrom_44 : decode cX0_copyFrom 44 = .ok (.goto (-42), 3) := by decide +kernel
theorem dX0_copyFrom_47 : decode cX0_copyFrom 47 = .ok (.iconst 0, 1) := by decide +kernel
theorem dX0_copyFrom_48 : decode cX0_copyFrom 48 = .ok (.istore_n 3, 1) := by decide +kernel
theorem dX0_copyFrom_49 : decode cX0_copyFrom 49 = .ok (.iload_n 3, 1) := by decide +kernel
theorem dX0_copyFrom_50 : decode cX0_copyFrom 50 = .ok (.iload_n 2, 1) := by decide +kernel
theorem dX0_copyFrom_51 : decode cX0_copyFrom 51 = .ok (.if_icmp .ge 27, 3) := by decide +kernel
theorem dX0_copyFrom_54 : decode cX0_copyFrom 54 = .ok (.iload_n 3, 1) := by decide +kernel
theorem dX0_copyFrom_55 : decode cX0_copyFrom 55 = .ok (.bipush 10, 2) := by decide +kernel
theorem dX0_copyFrom_57 : decode cX0_copyFrom 57 = .ok (.if_icmp .ge 21, 3) := by decide +kernel
theorem dX0_copyFrom_60 : decode cX0_copyFrom 60 = .ok (.aload_n 0, 1) := by decide +kernel
theorem dX0_copyFrom_61 : decode cX0_copyFrom 61 = .ok (.getfield 16, 3) := by decide +kernel
theorem dX0_copyFrom_64 : decode cX0_copyFrom 64 = .ok (.iload_n 3, 1) := by decide +kernel
theorem dX0_copyFrom_65 : decode cX0_copyFrom 65 = .ok (.aload_n 1, 1) := by decide +kernel
theorem dX0_copyFrom_66 : decode cX0_copyFrom 66 = .ok (.getfield 16, 3) := by decide +kernel
theorem dX0_copyFrom_69 : decode cX0_copyFrom 69 = .ok (.iload_n 3, 1) := by decide +kernel
theorem dX0_copyFrom_70 : decode cX0_copyFrom 70 = .ok (.iaload, 1) := by decide +kernel
theorem dX0_copyFrom_71 : decode cX0_copyFrom 71 = .ok (.iastore, 1) := by decide +kernel
theorem dX0_copyFrom_72 : decode cX0_copyFrom 72 = .ok (.iinc 3 1, 3) := by decide +kernel
theorem dX0_copyFrom_75 : decode cX0_copyFrom 75 = .ok (.goto (-26), 3) := by decide +kernel
theorem dX0_copyFrom_78 : decode cX0_copyFrom 78 = .ok (.return_, 1) := by decide +kernel
set_option maxHeartbeats 4000000 in
set_option maxRecDepth 100000 in
theorem c_X0_copyFrom (l : Launch) (E : zE) (n : Nat) (h : zH) (a0 : Nat) (p0 : Nat) (p1 : Int32) (res : Unit × zH) (hf : F_X0_copyFrom n h a0 p0 p1 = some res) : Met l yX0_copyFrom (zw yX0_copyFrom cX0_copyFrom 5 none) ({ frames := 0, cells := 0, slots := 0, locals := 0 } : Room) (zPc E h [.ref (zB E + a0), .ref (zB E + p0), .int p1]) (zQc E res.2 none) 0 0 (zfr E) := by
  refine zmet (lo := [(0, .ref (zB E + a0)), (1, .ref (zB E + p0)), (2, .int p1)]) (by decide +kernel) (Nat.le_of_ble_eq_true rfl) rfl ?_
  intro p e s m args below meth c C hr hin
  unfold F_X0_copyFrom at hf
  have J78 : ∀ (h2 : zH), F_X0_copyFrom_J78 n h2 = some res → zW p l e (headSpec (zw yX0_copyFrom cX0_copyFrom 5 none) ({ frames := 0, cells := 0, slots := 0, locals := 0 } : Room)).room s m args below meth c E 5 (MQ below (zQc E res.2 none) args s 0 0 (zfr E)) 0 0 78 [] [] h2 := by
    intro h2 hf
    unfold F_X0_copyFrom_J78 at hf
    exact zr_return C hf hr (Nat.le_of_ble_eq_true rfl) (Nat.le_of_ble_eq_true rfl) dX0_copyFrom_78
  refine zr_iconst (v := 0) C dX0_copyFrom_0 (by decide) ?_
  refine zr_istore_n (lo2 := [(3, .int (0 : Int32)), (0, .ref (zB E + a0)), (1, .ref (zB E + p0)), (2, .int p1)]) C dX0_copyFrom_1 rfl (by decide) rfl ?_
  have L2 : ∀ (fu : Nat) (x : zH × Int32), zloop (fun kc x => F_X0_copyFrom_B2 n kc x.1 a0 p0 p1 x.2) fu x = some res → zW p l e (headSpec (zw yX0_copyFrom cX0_copyFrom 5 none) ({ frames := 0, cells := 0, slots := 0, locals := 0 } : Room)).room s m args below meth c E 5 (MQ below (zQc E res.2 none) args s 0 0 (zfr E)) 0 0 2 [(0, .ref (zB E + a0)), (1, .ref (zB E + p0)), (2, .int p1), (3, .int x.2)] [] x.1 := by
    refine z_loop _ ?_
    intro kc2 hk2 x hf
    obtain ⟨h50, x49⟩ := x
    dsimp only at hf ⊢
    unfold F_X0_copyFrom_B2 at hf
    refine zr_iload_n C dX0_copyFrom_2 rfl 3 rfl ?_
    refine zr_bipush (v := 6) C dX0_copyFrom_3 (by decide) ?_
    refine zr_icmp_ge (tgt := 47) C hf dX0_copyFrom_5 (by decide) (fun hf => ?_) (fun hf => ?_)
    · refine zr_iconst (v := 0) C dX0_copyFrom_47 (by decide) ?_
      refine zr_istore_n (lo2 := [(3, .int (0 : Int32)), (0, .ref (zB E + a0)), (1, .ref (zB E + p0)), (2, .int p1)]) C dX0_copyFrom_48 rfl (by decide) rfl ?_
      have L49 : ∀ (fu : Nat) (x : zH × Int32), zloop (fun kc x => F_X0_copyFrom_B49 n kc x.1 a0 p0 p1 x.2) fu x = some res → zW p l e (headSpec (zw yX0_copyFrom cX0_copyFrom 5 none) ({ frames := 0, cells := 0, slots := 0, locals := 0 } : Room)).room s m args below meth c E 5 (MQ below (zQc E res.2 none) args s 0 0 (zfr E)) 0 0 49 [(0, .ref (zB E + a0)), (1, .ref (zB E + p0)), (2, .int p1), (3, .int x.2)] [] x.1 := by
        refine z_loop _ ?_
        intro kc49 hk49 x hf
        obtain ⟨h52, x51⟩ := x
        dsimp only at hf ⊢
        unfold F_X0_copyFrom_B49 at hf
        refine zr_iload_n C dX0_copyFrom_49 rfl 3 rfl ?_
        refine zr_iload_n C dX0_copyFrom_50 rfl 2 rfl ?_
        refine zr_icmp_ge (tgt := 78) C hf dX0_copyFrom_51 (by decide) (fun hf => ?_) (fun hf => ?_)
        · refine zsub [] rfl ?_
          exact J78 h52 hf
        · refine zr_iload_n C dX0_copyFrom_54 rfl 3 rfl ?_
          refine zr_bipush (v := 10) C dX0_copyFrom_55 (by decide) ?_
          refine zr_icmp_ge (tgt := 78) C hf dX0_copyFrom_57 (by decide) (fun hf => ?_) (fun hf => ?_)
          · refine zsub [] rfl ?_
            exact J78 h52 hf
          · refine zr_aload_n C dX0_copyFrom_60 rfl 0 rfl ?_
            refine zr_gr C hf kg_X0_16 (fun _ _ _ => rfl) dX0_copyFrom_61 (fun w53 hf => ?_)
            refine zr_iload_n C dX0_copyFrom_64 rfl 3 rfl ?_
            refine zr_aload_n C dX0_copyFrom_65 rfl 1 rfl ?_
            refine zr_gr C hf kg_X0_16 (fun _ _ _ => rfl) dX0_copyFrom_66 (fun w54 hf => ?_)
            refine zr_iload_n C dX0_copyFrom_69 rfl 3 rfl ?_
            refine zr_iaload C hf dX0_copyFrom_70 (fun x55 hf => ?_)
            refine zr_iastore C hf dX0_copyFrom_71 (fun h56 hf => ?_)
            refine zr_iinc (v0 := 1) (k := 3) (f := fun v => [(3, .int v), (0, .ref (zB E + a0)), (1, .ref (zB E + p0)), (2, .int p1)]) C hf (by decide) dX0_copyFrom_72 rfl (by decide) (fun v => rfl) (fun x57 hf => ?_)
            refine zr_goto (tgt := 49) C dX0_copyFrom_75 (by decide) ?_
            refine zsub [1, 2, 3, 0] rfl ?_
            exact hk49 (h56, x57) hf
      refine zsub [1, 2, 3, 0] rfl ?_
      exact L49 n (h50, (0 : Int32)) hf
    · refine zr_iconst (v := 0) C dX0_copyFrom_8 (by decide) ?_
      refine zr_istore (lo2 := [(4, .int (0 : Int32)), (0, .ref (zB E + a0)), (1, .ref (zB E + p0)), (2, .int p1), (3, .int x49)]) C dX0_copyFrom_9 (by decide) rfl ?_
      have L11 : ∀ (fu : Nat) (x : zH × Int32), zloop (fun kc x => F_X0_copyFrom_B11 n kc2 kc x.1 a0 p0 p1 x49 x.2) fu x = some res → zW p l e (headSpec (zw yX0_copyFrom cX0_copyFrom 5 none) ({ frames := 0, cells := 0, slots := 0, locals := 0 } : Room)).room s m args below meth c E 5 (MQ below (zQc E res.2 none) args s 0 0 (zfr E)) 0 0 11 [(0, .ref (zB E + a0)), (1, .ref (zB E + p0)), (2, .int p1), (3, .int x49), (4, .int x.2)] [] x.1 := by
        refine z_loop _ ?_
        intro kc11 hk11 x hf
        obtain ⟨h59, x58⟩ := x
        dsimp only at hf ⊢
        unfold F_X0_copyFrom_B11 at hf
        refine zr_iload C dX0_copyFrom_11 4 rfl ?_
        refine zr_iconst (v := 4) C dX0_copyFrom_13 (by decide) ?_
        refine zr_icmp_ge (tgt := 41) C hf dX0_copyFrom_14 (by decide) (fun hf => ?_) (fun hf => ?_)
        · refine zr_iinc (v0 := 1) (k := 3) (f := fun v => [(3, .int v), (0, .ref (zB E + a0)), (1, .ref (zB E + p0)), (2, .int p1), (4, .int x58)]) C hf (by decide) dX0_copyFrom_41 rfl (by decide) (fun v => rfl) (fun x60 hf => ?_)
          refine zr_goto (tgt := 2) C dX0_copyFrom_44 (by decide) ?_
          refine zsub [1, 2, 3, 0] rfl ?_
          exact hk2 (h59, x60) hf
        · refine zr_aload_n C dX0_copyFrom_17 rfl 0 rfl ?_
          refine zr_gr C hf kg_X0_11 (fun _ _ _ => rfl) dX0_copyFrom_18 (fun w61 hf => ?_)
          refine zr_iload_n C dX0_copyFrom_21 rfl 3 rfl ?_
          refine zr_aaload (t0 := 3) C hf (by decide) rfl rfl dX0_copyFrom_22 (fun w62 hf => ?_)
          refine zr_iload C dX0_copyFrom_23 4 rfl ?_
          refine zr_aload_n C dX0_copyFrom_25 rfl 1 rfl ?_
          refine zr_gr C hf kg_X0_11 (fun _ _ _ => rfl) dX0_copyFrom_26 (fun w63 hf => ?_)
          refine zr_iload_n C dX0_copyFrom_29 rfl 3 rfl ?_
          refine zr_aaload (t0 := 3) C hf (by decide) rfl rfl dX0_copyFrom_30 (fun w64 hf => ?_)
          refine zr_iload C dX0_copyFrom_31 4 rfl ?_
          refine zr_iaload C hf dX0_copyFrom_33 (fun x65 hf => ?_)
          refine zr_iastore C hf dX0_copyFrom_34 (fun h66 hf => ?_)
          refine zr_iinc (v0 := 1) (k := 4) (f := fun v => [(4, .int v), (0, .ref (zB E + a0)), (1, .ref (zB E + p0)), (2, .int p1), (3, .int x49)]) C hf (by decide) dX0_copyFrom_35 rfl (by decide) (fun v => rfl) (fun x67 hf => ?_)
          refine zr_goto (tgt := 11) C dX0_copyFrom_38 (by decide) ?_
          refine zsub [1, 2, 3, 4, 0] rfl ?_
          exact hk11 (h66, x67) hf
      refine zsub [1, 2, 3, 4, 0] rfl ?_
      exact L11 n (h50, (0 : Int32)) hf
  refine zsub [1, 2, 3, 0] rfl ?_
  exact L2 n (h, (0 : Int32)) hf
theorem dX2_push_0 : decode cX2_push 0 = .ok (.aload_n 0, 1) := by decide +kernel
theorem dX2_push_1 : decode cX2_push 1 = .ok (.getfield 9, 3) := by decide +kernel
theorem dX2_push_4 : decode cX2_push 4 = .ok (.iconst 1, 1) := by decide +kernel
theorem dX2_push_5 : decode cX2_push 5 = .ok (.if_icmp .ne 10, 3) := by decide +kernel
theorem dX2_push_8 : decode cX2_push 8 = .ok (.aload_n 0, 1) := by decide +kernel
theorem dX2_push_9 : decode cX2_push 9 = .ok (.getfield 15, 3) := by decide +kernel
theorem dX2_push_12 : decode cX2_push 12 = .ok (.goto 20, 3) := by decide +kernel
theorem dX2_push_15 : decode cX2_push 15 = .ok (.aload_n 0, 1) := by decide +kernel
theorem dX2_push_16 : decode cX2_push 16 = .ok (.getfield 9, 3) := by decide +kernel
theorem dX2_push_19 : decode cX2_push 19 = .ok (.iconst 2, 1) := by decide +kernel
theorem dX2_push_20 : decode cX2_push 20 = .ok (.if_icmp .ne 11, 3) := by decide +kernel
theorem dX2_push_23 : decode cX2_push 23 = .ok (.aload_n 0, 1) := by decide +kernel
theorem dX2_push_24 : decode cX2_push 24 = .ok (.getfield 15, 3) := by decide +kernel
theorem dX2_push_27 : decode cX2_push 27 = .ok (.ineg, 1) := by decide +kernel
theorem dX2_push_28 : decode cX2_push 28 = .ok (.goto 4, 3) := by decide +kernel
theorem dX2_push_31 : decode cX2_push 31 = .ok (.iconst 0, 1) := by decide +kernel
theorem dX2_push_32 : decode cX2_push 32 = .ok (.ireturn, 1) := by decide +kernel
set_option maxHeartbeats 4000000 in
set_option maxRecDepth 100000 in
theorem c_X2_push (l : Launch) (E : zE) (n : Nat) (h : zH) (a0 : Nat) (res : Int32 × zH) (hf : F_X2_push n h a0 = some res) : Met l yX2_push (zw yX2_push cX2_push 1 (some .int)) ({ frames := 0, cells := 0, slots := 0, locals := 0 } : Room) (zPc E h [.ref (zB E + a0)]) (zQc E res.2 (some (.int res.1))) 0 0 (zfr E) := by
  refine zmet (lo := [(0, .ref (zB E + a0))]) (by decide +kernel) (Nat.le_of_ble_eq_true rfl) rfl ?_
  intro p e s m args below meth c C hr hin
  unfold F_X2_push at hf
  have J32 : ∀ (h4 : zH) (x3 : Int32), F_X2_push_J32 n h4 x3 = some res → zW p l e (headSpec (zw yX2_push cX2_push 1 (some .int)) ({ frames := 0, cells := 0, slots := 0, locals := 0 } : Room)).room s m args below meth c E 1 (MQ below (zQc E res.2 (some (.int res.1))) args s 0 0 (zfr E)) 0 0 32 [] [.int x3] h4 := by
    intro h4 x3 hf
    unfold F_X2_push_J32 at hf
    exact zr_ireturn C hf hr (Nat.le_of_ble_eq_true rfl) (Nat.le_of_ble_eq_true rfl) dX2_push_32
  refine zr_aload_n C dX2_push_0 rfl 0 rfl ?_
  refine zr_gi C hf kg_X2_9 (fun _ _ _ => rfl) dX2_push_1 (fun x5 hf => ?_)
  refine zr_iconst (v := 1) C dX2_push_4 (by decide) ?_
  refine zr_icmp_ne (tgt := 15) C hf dX2_push_5 (by decide) (fun hf => ?_) (fun hf => ?_)
  · refine zr_aload_n C dX2_push_15 rfl 0 rfl ?_
    refine zr_gi C hf kg_X2_9 (fun _ _ _ => rfl) dX2_push_16 (fun x6 hf => ?_)
    refine zr_iconst (v := 2) C dX2_push_19 (by decide) ?_
    refine zr_icmp_ne (tgt := 31) C hf dX2_push_20 (by decide) (fun hf => ?_) (fun hf => ?_)
    · refine zr_iconst (v := 0) C dX2_push_31 (by decide) ?_
      refine zsub [] rfl ?_
      exact J32 h (0 : Int32) hf
    · refine zr_aload_n C dX2_push_23 rfl 0 rfl ?_
      refine zr_gi C hf kg_X2_15 (fun _ _ _ => rfl) dX2_push_24 (fun x7 hf => ?_)
      refine zr_ineg C hf dX2_push_27 (fun x8 hf => ?_)
      refine zr_goto (tgt := 32) C dX2_push_28 (by decide) ?_
      refine zsub [] rfl ?_
      exact J32 h x8 hf
  · refine zr_aload_n C dX2_push_8 rfl 0 rfl ?_
    refine zr_gi C hf kg_X2_15 (fun _ _ _ => rfl) dX2_push_9 (fun x9 hf => ?_)
    refine zr_goto (tgt := 32) C dX2_push_12 (by decide) ?_
    refine zsub [] rfl ?_
    exact J32 h x9 hf
theorem dX0_move_0 : decode cX0_move 0 = .ok (.aload_n 2, 1) := by decide +kernel
theorem dX0_move_1 : decode cX0_move 1 = .ok (.invokevirtual 51, 3) := by decide +kernel
theorem dX0_move_4 : decode cX0_move 4 = .ok (.istore_n 3, 1) := by decide +kernel
theorem dX0_move_5 : decode cX0_move 5 = .ok (.iconst 0, 1) := by decide +kernel
theorem dX0_move_6 : decode cX0_move 6 = .ok (.istore 4, 2) := by decide +kernel
theorem dX0_move_8 : decode cX0_move 8 = .ok (.iload 4, 2) := by decide +kernel
theorem dX0_move_10 : decode cX0_move 10 = .ok (.aload_n 1, 1) := by decide +kernel
theorem dX0_move_11 : decode cX0_move 11 = .ok (.invokevirtual 54, 3) := by decide +kernel
theorem dX0_move_14 : decode cX0_move 14 = .ok (.if_icmp .ge 67, 3) := by decide +kernel
theorem dX0_move_17 : decode cX0_move 17 = .ok (.iload_n 3, 1) := by decide +kernel
theorem dX0_move_18 : decode cX0_move 18 = .ok (.ifCond .eq 63, 3) := by decide +kernel
theorem dX0_move_21 : decode cX0_move 21 = .ok (.iconst 1, 1) := by decide +kernel
theorem dX0_move_22 : decode cX0_move 22 = .ok (.istore 5, 2) := by decide +kernel
theorem dX0_move_24 : decode cX0_move 24 = .ok (.iload 5, 2) := by decide +kernel
theorem dX0_move_26 : decode cX0_move 26 = .ok (.aload_n 1, 1) := by decide +kernel
theorem dX0_move_27 : decode cX0_move 27 = .ok (.invokevirtual 59, 3) := by decide +kernel
theorem dX0_move_30 : decode cX0_move 30 = .ok (.if_icmp .ge 45, 3) := by decide +kernel
theorem dX0_move_33 : decode cX0_move 33 = .ok (.aload_n 0, 1) := by decide +kernel
theorem dX0_move_34 : decode cX0_move 34 = .ok (.getfield 11, 3) := by decide +kernel
theorem dX0_move_37 : decode cX0_move 37 = .ok (.iload 4, 2) := by decide +kernel
theorem dX0_move_39 : decode cX0_move 39 = .ok (.aaload, 1) := by decide +kernel
theorem dX0_move_40 : decode cX0_move 40 = .ok (.iload 5, 2) := by decide +kernel
theorem dX0_move_42 : decode cX0_move 42 = .ok (.iaload, 1) := by decide +kernel
theorem dX0_move_43 : decode cX0_move 43 = .ok (.iload_n 3, 1) := by decide +kernel
theorem dX0_move_44 : decode cX0_move 44 = .ok (.iadd, 1) := by decide +kernel
theorem dX0_move_45 : decode cX0_move 45 = .ok (.istore 6, 2) := by decide +kernel
theorem dX0_move_47 : decode cX0_move 47 = .ok (.aload_n 0, 1) := by decide +kernel
theorem dX0_move_48 : decode cX0_move 48 = .ok (.getfield 11, 3) := by decide +kernel
theorem dX0_move_51 : decode cX0_move 51 = .ok (.iload 4, 2) := by decide +kernel
theorem dX0_move_53 : decode cX0_move 53 = .ok (.aaload, 1) := by decide +kernel
theorem dX0_move_54 : decode cX0_move 54 = .ok (.iload 5, 2) := by decide +kernel
theorem dX0_move_56 : decode cX0_move 56 = .ok (.bipush (-99), 2) := by decide +kernel
theorem dX0_move_58 : decode cX0_move 58 = .ok (.bipush 99, 2) := by decide +kernel
theorem dX0_move_60 : decode cX0_move 60 = .ok (.iload 6, 2) := by decide +kernel
theorem dX0_move_62 : decode cX0_move 62 = .ok (.invokestatic 62, 3) := by decide +kernel
theorem dX0_move_65 : decode cX0_move 65 = .ok (.invokestatic 68, 3) := by decide +kernel
theorem dX0_move_68 : decode cX0_move 68 = .ok (.iastore, 1) := by decide +kernel
theorem dX0_move_69 : decode cX0_move 69 = .ok (.iinc 5 1, 3) := by decide +kernel
theorem dX0_move_72 : decode cX0_move 72 = .ok (.goto (-48), 3) := by decide +kernel
theorem dX0_move_75 : decode cX0_move 75 = .ok (.iinc 4 1, 3) := by decide +kernel
theorem dX0_move_78 : decode cX0_move 78 = .ok (.goto (-70), 3) := by decide +kernel
theorem dX0_move_81 : decode cX0_move 81 = .ok (.iconst 0, 1) := by decide +kernel
theorem dX0_move_82 : decode cX0_move 82 = .ok (.istore 4, 2) := by decide +kernel
theorem dX0_move_84 : decode cX0_move 84 = .ok (.iload 4, 2) := by decide +kernel
theorem dX0_move_86 : decode cX0_move 86 = .ok (.aload_n 1, 1) := by decide +kernel
theorem dX0_move_87 : decode cX0_move 87 = .ok (.invokevirtual 59, 3) := by decide +kernel
theorem dX0_move_90 : decode cX0_move 90 = .ok (.if_icmp .ge 30, 3) := by decide +kernel
theorem dX0_move_93 : decode cX0_move 93 = .ok (.aload_n 2, 1) := by decide +kernel
theorem dX0_move_94 : decode cX0_move 94 = .ok (.getfield 71, 3) := by decide +kernel
theorem dX0_move_97 : decode cX0_move 97 = .ok (.iconst 4, 1) := by decide +kernel
theorem dX0_move_98 : decode cX0_move 98 = .ok (.if_icmp .ne 22, 3) := by decide +kernel
theorem dX0_move_101 : decode cX0_move 101 = .ok (.aload_n 0, 1) := by decide +kernel
theorem dX0_move_102 : decode cX0_move 102 = .ok (.getfield 11, 3) := by decide +kernel
theorem dX0_move_105 : decode cX0_move 105 = .ok (.iconst 0, 1) := by decide +kernel
theorem dX0_move_106 : decode cX0_move 106 = .ok (.aaload, 1) := by decide +kernel
theorem dX0_move_107 : decode cX0_move 107 = .ok (.iload 4, 2) := by decide +kernel
theorem dX0_move_109 : decode cX0_move 109 = .ok (.dup2, 1) := by decide +kernel
theorem dX0_move_110 : decode cX0_move 110 = .ok (.iaload, 1) := by decide +kernel
theorem dX0_move_111 : decode cX0_move 111 = .ok (.iconst 2, 1) := by decide +kernel
theorem dX0_move_112 : decode cX0_move 112 = .ok (.idiv, 1) := by decide +kernel
theorem dX0_move_113 : decode cX0_move 113 = .ok (.iastore, 1) := by decide +kernel
theorem dX0_move_114 : decode cX0_move 114 = .ok (.iinc 4 1, 3) := by decide +kernel
theorem dX0_move_117 : decode cX0_move 117 = .ok (.goto (-33), 3) := by decide +kernel
theorem dX0_move_120 : decode cX0_move 120 = .ok (.return_, 1) := by decide +kernel
set_option maxHeartbeats 4000000 in
set_option maxRecDepth 100000 in
theorem c_X0_move (l : Launch) (E : zE) (n : Nat) (h : zH) (a0 : Nat) (p0 : Nat) (p1 : Nat) (res : Unit × zH) (hf : F_X0_move n h a0 p0 p1 = some res) : Met l yX0_move (zw yX0_move cX0_move 7 none) ({ frames := 1, cells := 0, slots := 0, locals := 21 } : Room) (zPc E h [.ref (zB E + a0), .ref (zB E + p0), .ref (zB E + p1)]) (zQc E res.2 none) 0 0 (zfr E) := by
  refine zmet (lo := [(0, .ref (zB E + a0)), (1, .ref (zB E + p0)), (2, .ref (zB E + p1))]) (by decide +kernel) (Nat.le_of_ble_eq_true rfl) rfl ?_
  intro p e s m args below meth c C hr hin
  unfold F_X0_move at hf
  have J120 : ∀ (h2 : zH), F_X0_move_J120 n h2 = some res → zW p l e (headSpec (zw yX0_move cX0_move 7 none) ({ frames := 1, cells := 0, slots := 0, locals := 21 } : Room)).room s m args below meth c E 7 (MQ below (zQc E res.2 none) args s 0 0 (zfr E)) 0 0 120 [] [] h2 := by
    intro h2 hf
    unfold F_X0_move_J120 at hf
    exact zr_return C hf hr (Nat.le_of_ble_eq_true rfl) (Nat.le_of_ble_eq_true rfl) dX0_move_120
  have J81 : ∀ (h35 : zH) (w32 : Nat) (w33 : Nat) (w34 : Nat), F_X0_move_J81 n h35 w32 w33 w34 = some res → zW p l e (headSpec (zw yX0_move cX0_move 7 none) ({ frames := 1, cells := 0, slots := 0, locals := 21 } : Room)).room s m args below meth c E 7 (MQ below (zQc E res.2 none) args s 0 0 (zfr E)) 0 0 81 [(0, .ref (zB E + w32)), (1, .ref (zB E + w33)), (2, .ref (zB E + w34))] [] h35 := by
    intro h35 w32 w33 w34 hf
    unfold F_X0_move_J81 at hf
    refine zr_iconst (v := 0) C dX0_move_81 (by decide) ?_
    refine zr_istore (lo2 := [(4, .int (0 : Int32)), (0, .ref (zB E + w32)), (1, .ref (zB E + w33)), (2, .ref (zB E + w34))]) C dX0_move_82 (by decide) rfl ?_
    have L84 : ∀ (fu : Nat) (x : zH × Int32), zloop (fun kc x => F_X0_move_B84 n kc x.1 w32 w33 w34 x.2) fu x = some res → zW p l e (headSpec (zw yX0_move cX0_move 7 none) ({ frames := 1, cells := 0, slots := 0, locals := 21 } : Room)).room s m args below meth c E 7 (MQ below (zQc E res.2 none) args s 0 0 (zfr E)) 0 0 84 [(0, .ref (zB E + w32)), (1, .ref (zB E + w33)), (2, .ref (zB E + w34)), (4, .int x.2)] [] x.1 := by
      refine z_loop _ ?_
      intro kc84 hk84 x hf
      obtain ⟨h37, x36⟩ := x
      dsimp only at hf ⊢
      unfold F_X0_move_B84 at hf
      refine zr_iload C dX0_move_84 3 rfl ?_
      refine zr_aload_n C dX0_move_86 rfl 1 rfl ?_
      refine zr_callVi (As := []) (rest := [.int x36]) C hf (fun x hx => c_X1_heights l E n h37 w33 x hx) kv_X0_59 rfl rfl (Nat.le_of_ble_eq_true rfl) ⟨rfl, rfl⟩ ⟨Nat.le_of_ble_eq_true rfl, Nat.le_of_ble_eq_true rfl⟩ ⟨Nat.le_of_ble_eq_true rfl, Nat.le_of_ble_eq_true rfl⟩ dX0_move_87 (fun x39 h38 hf => ?_)
      refine zr_icmp_ge (tgt := 120) C hf dX0_move_90 (by decide) (fun hf => ?_) (fun hf => ?_)
      · refine zsub [] rfl ?_
        exact J120 h38 hf
      · refine zr_aload_n C dX0_move_93 rfl 2 rfl ?_
        refine zr_gi C hf kg_X0_71 (fun _ _ _ => rfl) dX0_move_94 (fun x40 hf => ?_)
        refine zr_iconst (v := 4) C dX0_move_97 (by decide) ?_
        refine zr_icmp_ne (tgt := 120) C hf dX0_move_98 (by decide) (fun hf => ?_) (fun hf => ?_)
        · refine zsub [] rfl ?_
          exact J120 h38 hf
        · refine zr_aload_n C dX0_move_101 rfl 0 rfl ?_
          refine zr_gr C hf kg_X0_11 (fun _ _ _ => rfl) dX0_move_102 (fun w41 hf => ?_)
          refine zr_iconst (v := 0) C dX0_move_105 (by decide) ?_
          refine zr_aaload (t0 := 3) C hf (by decide) rfl rfl dX0_move_106 (fun w42 hf => ?_)
          refine zr_iload C dX0_move_107 3 rfl ?_
          refine zr_dup2 C dX0_move_109 rfl rfl ?_
          refine zr_iaload C hf dX0_move_110 (fun x43 hf => ?_)
          refine zr_iconst (v := 2) C dX0_move_111 (by decide) ?_
          refine zr_idiv C hf dX0_move_112 (fun x44 hf => ?_)
          refine zr_iastore C hf dX0_move_113 (fun h45 hf => ?_)
          refine zr_iinc (v0 := 1) (k := 3) (f := fun v => [(4, .int v), (0, .ref (zB E + w32)), (1, .ref (zB E + w33)), (2, .ref (zB E + w34))]) C hf (by decide) dX0_move_114 rfl (by decide) (fun v => rfl) (fun x46 hf => ?_)
          refine zr_goto (tgt := 84) C dX0_move_117 (by decide) ?_
          refine zsub [1, 2, 3, 0] rfl ?_
          exact hk84 (h45, x46) hf
    refine zsub [1, 2, 3, 0] rfl ?_
    exact L84 n (h35, (0 : Int32)) hf
  refine zr_aload_n C dX0_move_0 rfl 2 rfl ?_
  refine zr_callVi (As := []) (rest := []) C hf (fun x hx => c_X2_push l E n h p1 x hx) kv_X0_51 rfl rfl (Nat.le_of_ble_eq_true rfl) ⟨rfl, rfl⟩ ⟨Nat.le_of_ble_eq_true rfl, Nat.le_of_ble_eq_true rfl⟩ ⟨Nat.le_of_ble_eq_true rfl, Nat.le_of_ble_eq_true rfl⟩ dX0_move_1 (fun x48 h47 hf => ?_)
  refine zr_istore_n (lo2 := [(3, .int x48), (0, .ref (zB E + a0)), (1, .ref (zB E + p0)), (2, .ref (zB E + p1))]) C dX0_move_4 rfl (by decide) rfl ?_
  refine zr_iconst (v := 0) C dX0_move_5 (by decide) ?_
  refine zr_istore (lo2 := [(4, .int (0 : Int32)), (3, .int x48), (0, .ref (zB E + a0)), (1, .ref (zB E + p0)), (2, .ref (zB E + p1))]) C dX0_move_6 (by decide) rfl ?_
  have L8 : ∀ (fu : Nat) (x : zH × Int32), zloop (fun kc x => F_X0_move_B8 n kc x.1 a0 p0 p1 x48 x.2) fu x = some res → zW p l e (headSpec (zw yX0_move cX0_move 7 none) ({ frames := 1, cells := 0, slots := 0, locals := 21 } : Room)).room s m args below meth c E 7 (MQ below (zQc E res.2 none) args s 0 0 (zfr E)) 0 0 8 [(0, .ref (zB E + a0)), (1, .ref (zB E + p0)), (2, .ref (zB E + p1)), (3, .int x48), (4, .int x.2)] [] x.1 := by
    refine z_loop _ ?_
    intro kc8 hk8 x hf
    obtain ⟨h93, x92⟩ := x
    dsimp only at hf ⊢
    unfold F_X0_move_B8 at hf
    refine zr_iload C dX0_move_8 4 rfl ?_
    refine zr_aload_n C dX0_move_10 rfl 1 rfl ?_
    refine zr_callVi (As := []) (rest := [.int x92]) C hf (fun x hx => c_X1_rings l E n h93 p0 x hx) kv_X0_54 rfl rfl (Nat.le_of_ble_eq_true rfl) ⟨rfl, rfl⟩ ⟨Nat.le_of_ble_eq_true rfl, Nat.le_of_ble_eq_true rfl⟩ ⟨Nat.le_of_ble_eq_true rfl, Nat.le_of_ble_eq_true rfl⟩ dX0_move_11 (fun x95 h94 hf => ?_)
    refine zr_icmp_ge (tgt := 81) C hf dX0_move_14 (by decide) (fun hf => ?_) (fun hf => ?_)
    · refine zsub [0, 1, 2] rfl ?_
      exact J81 h94 a0 p0 p1 hf
    · refine zr_iload_n C dX0_move_17 rfl 3 rfl ?_
      refine zr_if_eq (tgt := 81) C hf dX0_move_18 (by decide) (fun hf => ?_) (fun hf => ?_)
      · refine zsub [0, 1, 2] rfl ?_
        exact J81 h94 a0 p0 p1 hf
      · refine zr_iconst (v := 1) C dX0_move_21 (by decide) ?_
        refine zr_istore (lo2 := [(5, .int (1 : Int32)), (0, .ref (zB E + a0)), (1, .ref (zB E + p0)), (2, .ref (zB E + p1)), (3, .int x48), (4, .int x92)]) C dX0_move_22 (by decide) rfl ?_
        have L24 : ∀ (fu : Nat) (x : zH × Int32), zloop (fun kc x => F_X0_move_B24 n kc8 kc x.1 a0 p0 p1 x48 x92 x.2) fu x = some res → zW p l e (headSpec (zw yX0_move cX0_move 7 none) ({ frames := 1, cells := 0, slots := 0, locals := 21 } : Room)).room s m args below meth c E 7 (MQ below (zQc E res.2 none) args s 0 0 (zfr E)) 0 0 24 [(0, .ref (zB E + a0)), (1, .ref (zB E + p0)), (2, .ref (zB E + p1)), (3, .int x48), (4, .int x92), (5, .int x.2)] [] x.1 := by
          refine z_loop _ ?_
          intro kc24 hk24 x hf
          obtain ⟨h97, x96⟩ := x
          dsimp only at hf ⊢
          unfold F_X0_move_B24 at hf
          refine zr_iload C dX0_move_24 5 rfl ?_
          refine zr_aload_n C dX0_move_26 rfl 1 rfl ?_
          refine zr_callVi (As := []) (rest := [.int x96]) C hf (fun x hx => c_X1_heights l E n h97 p0 x hx) kv_X0_59 rfl rfl (Nat.le_of_ble_eq_true rfl) ⟨rfl, rfl⟩ ⟨Nat.le_of_ble_eq_true rfl, Nat.le_of_ble_eq_true rfl⟩ ⟨Nat.le_of_ble_eq_true rfl, Nat.le_of_ble_eq_true rfl⟩ dX0_move_27 (fun x99 h98 hf => ?_)
          refine zr_icmp_ge (tgt := 75) C hf dX0_move_30 (by decide) (fun hf => ?_) (fun hf => ?_)
          · refine zr_iinc (v0 := 1) (k := 4) (f := fun v => [(4, .int v), (0, .ref (zB E + a0)), (1, .ref (zB E + p0)), (2, .ref (zB E + p1)), (3, .int x48), (5, .int x96)]) C hf (by decide) dX0_move_75 rfl (by decide) (fun v => rfl) (fun x100 hf => ?_)
            refine zr_goto (tgt := 8) C dX0_move_78 (by decide) ?_
            refine zsub [1, 2, 3, 4, 0] rfl ?_
            exact hk8 (h98, x100) hf
          · refine zr_aload_n C dX0_move_33 rfl 0 rfl ?_
            refine zr_gr C hf kg_X0_11 (fun _ _ _ => rfl) dX0_move_34 (fun w101 hf => ?_)
            refine zr_iload C dX0_move_37 4 rfl ?_
            refine zr_aaload (t0 := 3) C hf (by decide) rfl rfl dX0_move_39 (fun w102 hf => ?_)
            refine zr_iload C dX0_move_40 5 rfl ?_
            refine zr_iaload C hf dX0_move_42 (fun x103 hf => ?_)
            refine zr_iload_n C dX0_move_43 rfl 3 rfl ?_
            refine zr_iadd C hf dX0_move_44 (fun x104 hf => ?_)
            refine zr_istore (lo2 := [(6, .int x104), (0, .ref (zB E + a0)), (1, .ref (zB E + p0)), (2, .ref (zB E + p1)), (3, .int x48), (4, .int x92), (5, .int x96)]) C dX0_move_45 (by decide) rfl ?_
            refine zr_aload_n C dX0_move_47 rfl 1 rfl ?_
            refine zr_gr C hf kg_X0_11 (fun _ _ _ => rfl) dX0_move_48 (fun w105 hf => ?_)
            refine zr_iload C dX0_move_51 5 rfl ?_
            refine zr_aaload (t0 := 3) C hf (by decide) rfl rfl dX0_move_53 (fun w106 hf => ?_)
            refine zr_iload C dX0_move_54 6 rfl ?_
            refine zr_bipush (v := -99) C dX0_move_56 (by decide) ?_
            refine zr_bipush (v := 99) C dX0_move_58 (by decide) ?_
            refine zr_iload C dX0_move_60 0 rfl ?_
            refine zr_min C hf zt609 zt610 zt77 zt611 ⟨Nat.le_of_ble_eq_true rfl, Nat.le_of_ble_eq_true rfl⟩ ⟨Nat.le_of_ble_eq_true rfl, Nat.le_of_ble_eq_true rfl⟩ dX0_move_62 (fun x107 hf => ?_)
            refine zr_max C hf zt612 zt613 zt77 zt614 ⟨Nat.le_of_ble_eq_true rfl, Nat.le_of_ble_eq_true rfl⟩ ⟨Nat.le_of_ble_eq_true rfl, Nat.le_of_ble_eq_true rfl⟩ dX0_move_65 (fun x108 hf => ?_)
            refine zr_iastore C hf dX0_move_68 (fun h109 hf => ?_)
            refine zr_iinc (v0 := 1) (k := 6) (f := fun v => [(5, .int v), (6, .int x104), (0, .ref (zB E + a0)), (1, .ref (zB E + p0)), (2, .ref (zB E + p1)), (3, .int x48), (4, .int x92)]) C hf (by decide) dX0_move_69 rfl (by decide) (fun v => rfl) (fun x110 hf => ?_)
            refine zr_goto (tgt := 24) C dX0_move_72 (by decide) ?_
            refine zsub [2, 3, 4, 5, 6, 0] rfl ?_
            exact hk24 (h109, x110) hf
        refine zsub [1, 2, 3, 4, 5, 0] rfl ?_
        exact L24 n (h94, (1 : Int32)) hf
  refine zsub [2, 3, 4, 1, 0] rfl ?_
  exact L8 n (h47, (0 : Int32)) hf
theorem dX2_base_0 : decode cX2_base 0 = .ok (.aload_n 0, 1) := by decide +kernel
theorem dX2_base_1 : decode cX2_base 1 = .ok (.getfield 9, 3) := by decide +kernel
theorem dX2_base_4 : decode cX2_base 4 = .ok (.iconst 3, 1) := by decide +kernel
theorem dX2_base_5 : decode cX2_base 5 = .ok (.if_icmp .ne 10, 3) := by decide +kernel
theorem dX2_base_8 : decode cX2_base 8 = .ok (.aload_n 0, 1) := by decide +kernel
theorem dX2_base_9 : decode cX2_base 9 = .ok (.getfield 15, 3) := by decide +kernel
theorem dX2_base_12 : decode cX2_base 12 = .ok (.goto 4, 3) := by decide +kernel
theorem dX2_base_15 : decode cX2_base 15 = .ok (.iconst 0, 1) := by decide +kernel
theorem dX2_base_16 : decode cX2_base 16 = .ok (.ireturn, 1) := by decide +kernel
set_option maxHeartbeats 4000000 in
set_option maxRecDepth 100000 in
theorem c_X2_base (l : Launch) (E : zE) (n : Nat) (h : zH) (a0 : Nat) (res : Int32 × zH) (hf : F_X2_base n h a0 = some res) : Met l yX2_base (zw yX2_base cX2_base 1 (some .int)) ({ frames := 0, cells := 0, slots := 0, locals := 0 } : Room) (zPc E h [.ref (zB E + a0)]) (zQc E res.2 (some (.int res.1))) 0 0 (zfr E) := by
  refine zmet (lo := [(0, .ref (zB E + a0))]) (by decide +kernel) (Nat.le_of_ble_eq_true rfl) rfl ?_
  intro p e s m args below meth c C hr hin
  unfold F_X2_base at hf
  have J16 : ∀ (h4 : zH) (x3 : Int32), F_X2_base_J16 n h4 x3 = some res → zW p l e (headSpec (zw yX2_base cX2_base 1 (some .int)) ({ frames := 0, cells := 0, slots := 0, locals := 0 } : Room)).room s m args below meth c E 1 (MQ below (zQc E res.2 (some (.int res.1))) args s 0 0 (zfr E)) 0 0 16 [] [.int x3] h4 := by
    intro h4 x3 hf
    unfold F_X2_base_J16 at hf
    exact zr_ireturn C hf hr (Nat.le_of_ble_eq_true rfl) (Nat.le_of_ble_eq_true rfl) dX2_base_16
  refine zr_aload_n C dX2_base_0 rfl 0 rfl ?_
  refine zr_gi C hf kg_X2_9 (fun _ _ _ => rfl) dX2_base_1 (fun x5 hf => ?_)
  refine zr_iconst (v := 3) C dX2_base_4 (by decide) ?_
  refine zr_icmp_ne (tgt := 15) C hf dX2_base_5 (by decide) (fun hf => ?_) (fun hf => ?_)
  · refine zr_iconst (v := 0) C dX2_base_15 (by decide) ?_
    refine zsub [] rfl ?_
    exact J16 h (0 : Int32) hf
  · refine zr_aload_n C dX2_base_8 rfl 0 rfl ?_
    refine zr_gi C hf kg_X2_15 (fun _ _ _ => rfl) dX2_base_9 (fun x6 hf => ?_)
    refine zr_goto (tgt := 16) C dX2_base_12 (by decide) ?_
    refine zsub [] rfl ?_
    exact J16 h x6 hf
theorem dX1_floorTenths_0 : decode cX1_floorTenths 0 = .ok (.aload_n 0, 1) := by decide +kernel
theorem dX1_floorTenths_1 : decode cX1_floorTenths 1 = .ok (.getfield 9, 3) := by decide +kernel
theorem dX1_floorTenths_4 : decode cX1_floorTenths 4 = .ok (.iconst 2, 1) := by decide +kernel
theorem dX1_floorTenths_5 : decode cX1_floorTenths 5 = .ok (.iaload, 1) := by decide +kernel
theorem dX1_floorTenths_6 : decode cX1_floorTenths 6 = .ok (.ireturn, 1) := by decide +kernel
set_option maxHeartbeats 4000000 in
set_option maxRecDepth 100000 in
theorem c_X1_floorTenths (l : Launch) (E : zE) (n : Nat) (h : zH) (a0 : Nat) (res : Int32 × zH) (hf : F_X1_floorTenths n h a0 = some res) : Met l yX1_floorTenths (zw yX1_floorTenths cX1_floorTenths 1 (some .int)) ({ frames := 0, cells := 0, slots := 0, locals := 0 } : Room) (zPc E h [.ref (zB E + a0)]) (zQc E res.2 (some (.int res.1))) 0 0 (zfr E) := by
  refine zmet (lo := [(0, .ref (zB E + a0))]) (by decide +kernel) (Nat.le_of_ble_eq_true rfl) rfl ?_
  intro p e s m args below meth c C hr hin
  unfold F_X1_floorTenths at hf
  refine zr_aload_n C dX1_floorTenths_0 rfl 0 rfl ?_
  refine zr_gr C hf kg_X1_9 (fun _ _ _ => rfl) dX1_floorTenths_1 (fun w1 hf => ?_)
  refine zr_iconst (v := 2) C dX1_floorTenths_4 (by decide) ?_
  refine zr_iaload C hf dX1_floorTenths_5 (fun x2 hf => ?_)
  exact zr_ireturn C hf hr (Nat.le_of_ble_eq_true rfl) (Nat.le_of_ble_eq_true rfl) dX1_floorTenths_6
theorem dX0_left_0 : decode cX0_left 0 = .ok (.iload_n 0, 1) := by decide +kernel
theorem dX0_left_1 : decode cX0_left 1 = .ok (.bipush 10, 2) := by decide +kernel
theorem dX0_left_3 : decode cX0_left 3 = .ok (.iload_n 1, 1) := by decide +kernel
theorem dX0_left_4 : decode cX0_left 4 = .ok (.isub, 1) := by decide +kernel
theorem dX0_left_5 : decode cX0_left 5 = .ok (.imul, 1) := by decide +kernel
theorem dX0_left_6 : decode cX0_left 6 = .ok (.bipush 10, 2) := by decide +kernel
theorem dX0_left_8 : decode cX0_left 8 = .ok (.idiv, 1) := by decide +kernel
theorem dX0_left_9 : decode cX0_left 9 = .ok (.ireturn, 1) := by decide +kernel
set_option maxHeartbeats 4000000 in
set_option maxRecDepth 100000 in
theorem c_X0_left (l : Launch) (E : zE) (n : Nat) (h : zH) (p0 : Int32) (p1 : Int32) (res : Int32 × zH) (hf : F_X0_left n h p0 p1 = some res) : Met l yX0_left (zw yX0_left cX0_left 2 (some .int)) ({ frames := 0, cells := 0, slots := 0, locals := 0 } : Room) (zPc E h [.int p0, .int p1]) (zQc E res.2 (some (.int res.1))) 0 0 (zfr E) := by
  refine zmet (lo := [(0, .int p0), (1, .int p1)]) (by decide +kernel) (Nat.le_of_ble_eq_true rfl) rfl ?_
  intro p e s m args below meth c C hr hin
  unfold F_X0_left at hf
  refine zr_iload_n C dX0_left_0 rfl 0 rfl ?_
  refine zr_bipush (v := 10) C dX0_left_1 (by decide) ?_
  refine zr_iload_n C dX0_left_3 rfl 1 rfl ?_
  refine zr_isub C hf dX0_left_4 (fun x1 hf => ?_)
  refine zr_imul C hf dX0_left_5 (fun x2 hf => ?_)
  refine zr_bipush (v := 10) C dX0_left_6 (by decide) ?_
  refine zr_idiv C hf dX0_left_8 (fun x3 hf => ?_)
  exact zr_ireturn C hf hr (Nat.le_of_ble_eq_true rfl) (Nat.le_of_ble_eq_true rfl) dX0_left_9
theorem dX1_wallTenths_0 : decode cX1_wallTenths 0 = .ok (.aload_n 0, 1) := by decide +kernel
theorem dX1_wallTenths_1 : decode cX1_wallTenths 1 = .ok (.getfield 9, 3) := by decide +kernel
theorem dX1_wallTenths_4 : decode cX1_wallTenths 4 = .ok (.iconst 5, 1) := by decide +kernel
theorem dX1_wallTenths_5 : decode cX1_wallTenths 5 = .ok (.iaload, 1) := by decide +kernel
theorem dX1_wallTenths_6 : decode cX1_wallTenths 6 = .ok (.iconst 1, 1) := by decide +kernel
theorem dX1_wallTenths_7 : decode cX1_wallTenths 7 = .ok (.if_icmp .ne 19, 3) := by decide +kernel
theorem dX1_wallTenths_10 : decode cX1_wallTenths 10 = .ok (.bipush 10, 2) := by decide +kernel
theorem dX1_wallTenths_12 : decode cX1_wallTenths 12 = .ok (.iconst 2, 1) := by decide +kernel
theorem dX1_wallTenths_13 : decode cX1_wallTenths 13 = .ok (.aload_n 0, 1) := by decide +kernel
theorem dX1_wallTenths_14 : decode cX1_wallTenths 14 = .ok (.getfield 9, 3) := by decide +kernel
theorem dX1_wallTenths_17 : decode cX1_wallTenths 17 = .ok (.iconst 3, 1) := by decide +kernel
theorem dX1_wallTenths_18 : decode cX1_wallTenths 18 = .ok (.iaload, 1) := by decide +kernel
theorem dX1_wallTenths_19 : decode cX1_wallTenths 19 = .ok (.imul, 1) := by decide +kernel
theorem dX1_wallTenths_20 : decode cX1_wallTenths 20 = .ok (.invokestatic 35, 3) := by decide +kernel
theorem dX1_wallTenths_23 : decode cX1_wallTenths 23 = .ok (.goto 9, 3) := by decide +kernel
theorem dX1_wallTenths_26 : decode cX1_wallTenths 26 = .ok (.aload_n 0, 1) := by decide +kernel
theorem dX1_wallTenths_27 : decode cX1_wallTenths 27 = .ok (.getfield 9, 3) := by decide +kernel
theorem dX1_wallTenths_30 : decode cX1_wallTenths 30 = .ok (.iconst 3, 1) := by decide +kernel
theorem dX1_wallTenths_31 : decode cX1_wallTenths 31 = .ok (.iaload, 1) := by decide +kernel
theorem dX1_wallTenths_32 : decode cX1_wallTenths 32 = .ok (.ireturn, 1) := by decide +kernel
set_option maxHeartbeats 4000000 in
set_option maxRecDepth 100000 in
theorem c_X1_wallTenths (l : Launch) (E : zE) (n : Nat) (h : zH) (a0 : Nat) (res : Int32 × zH) (hf : F_X1_wallTenths n h a0 = some res) : Met l yX1_wallTenths (zw yX1_wallTenths cX1_wallTenths 1 (some .int)) ({ frames := 1, cells := 0, slots := 0, locals := 21 } : Room) (zPc E h [.ref (zB E + a0)]) (zQc E res.2 (some (.int res.1))) 0 0 (zfr E) := by
  refine zmet (lo := [(0, .ref (zB E + a0))]) (by decide +kernel) (Nat.le_of_ble_eq_true rfl) rfl ?_
  intro p e s m args below meth c C hr hin
  unfold F_X1_wallTenths at hf
  have J32 : ∀ (h4 : zH) (x3 : Int32), F_X1_wallTenths_J32 n h4 x3 = some res → zW p l e (headSpec (zw yX1_wallTenths cX1_wallTenths 1 (some .int)) ({ frames := 1, cells := 0, slots := 0, locals := 21 } : Room)).room s m args below meth c E 1 (MQ below (zQc E res.2 (some (.int res.1))) args s 0 0 (zfr E)) 0 0 32 [] [.int x3] h4 := by
    intro h4 x3 hf
    unfold F_X1_wallTenths_J32 at hf
    exact zr_ireturn C hf hr (Nat.le_of_ble_eq_true rfl) (Nat.le_of_ble_eq_true rfl) dX1_wallTenths_32
  refine zr_aload_n C dX1_wallTenths_0 rfl 0 rfl ?_
  refine zr_gr C hf kg_X1_9 (fun _ _ _ => rfl) dX1_wallTenths_1 (fun w5 hf => ?_)
  refine zr_iconst (v := 5) C dX1_wallTenths_4 (by decide) ?_
  refine zr_iaload C hf dX1_wallTenths_5 (fun x6 hf => ?_)
  refine zr_iconst (v := 1) C dX1_wallTenths_6 (by decide) ?_
  refine zr_icmp_ne (tgt := 26) C hf dX1_wallTenths_7 (by decide) (fun hf => ?_) (fun hf => ?_)
  · refine zr_aload_n C dX1_wallTenths_26 rfl 0 rfl ?_
    refine zr_gr C hf kg_X1_9 (fun _ _ _ => rfl) dX1_wallTenths_27 (fun w7 hf => ?_)
    refine zr_iconst (v := 3) C dX1_wallTenths_30 (by decide) ?_
    refine zr_iaload C hf dX1_wallTenths_31 (fun x8 hf => ?_)
    refine zsub [] rfl ?_
    exact J32 h x8 hf
  · refine zr_bipush (v := 10) C dX1_wallTenths_10 (by decide) ?_
    refine zr_iconst (v := 2) C dX1_wallTenths_12 (by decide) ?_
    refine zr_aload_n C dX1_wallTenths_13 rfl 0 rfl ?_
    refine zr_gr C hf kg_X1_9 (fun _ _ _ => rfl) dX1_wallTenths_14 (fun w9 hf => ?_)
    refine zr_iconst (v := 3) C dX1_wallTenths_17 (by decide) ?_
    refine zr_iaload C hf dX1_wallTenths_18 (fun x10 hf => ?_)
    refine zr_imul C hf dX1_wallTenths_19 (fun x11 hf => ?_)
    refine zr_min C hf zt634 zt610 zt77 zt611 ⟨Nat.le_of_ble_eq_true rfl, Nat.le_of_ble_eq_true rfl⟩ ⟨Nat.le_of_ble_eq_true rfl, Nat.le_of_ble_eq_true rfl⟩ dX1_wallTenths_20 (fun x12 hf => ?_)
    refine zr_goto (tgt := 32) C dX1_wallTenths_23 (by decide) ?_
    refine zsub [] rfl ?_
    exact J32 h x12 hf
theorem dX0_slow_0 : decode cX0_slow 0 = .ok (.aload_n 1, 1) := by decide +kernel
theorem dX0_slow_1 : decode cX0_slow 1 = .ok (.invokevirtual 74, 3) := by decide +kernel
theorem dX0_slow_4 : decode cX0_slow 4 = .ok (.istore_n 3, 1) := by decide +kernel
theorem dX0_slow_5 : decode cX0_slow 5 = .ok (.iconst 0, 1) := by decide +kernel
theorem dX0_slow_6 : decode cX0_slow 6 = .ok (.istore 4, 2) := by decide +kernel
theorem dX0_slow_8 : decode cX0_slow 8 = .ok (.iload 4, 2) := by decide +kernel
theorem dX0_slow_10 : decode cX0_slow 10 = .ok (.aload_n 1, 1) := by decide +kernel
theorem dX0_slow_11 : decode cX0_slow 11 = .ok (.invokevirtual 54, 3) := by decide +kernel
theorem dX0_slow_14 : decode cX0_slow 14 = .ok (.if_icmp .ge 35, 3) := by decide +kernel
theorem dX0_slow_17 : decode cX0_slow 17 = .ok (.aload_n 0, 1) := by decide +kernel
theorem dX0_slow_18 : decode cX0_slow 18 = .ok (.getfield 11, 3) := by decide +kernel
theorem dX0_slow_21 : decode cX0_slow 21 = .ok (.iload 4, 2) := by decide +kernel
theorem dX0_slow_23 : decode cX0_slow 23 = .ok (.aaload, 1) := by decide +kernel
theorem dX0_slow_24 : decode cX0_slow 24 = .ok (.iconst 0, 1) := by decide +kernel
theorem dX0_slow_25 : decode cX0_slow 25 = .ok (.iload_n 2, 1) := by decide +kernel
theorem dX0_slow_26 : decode cX0_slow 26 = .ok (.aload_n 0, 1) := by decide +kernel
theorem dX0_slow_27 : decode cX0_slow 27 = .ok (.getfield 11, 3) := by decide +kernel
theorem dX0_slow_30 : decode cX0_slow 30 = .ok (.iload 4, 2) := by decide +kernel
theorem dX0_slow_32 : decode cX0_slow 32 = .ok (.aaload, 1) := by decide +kernel
theorem dX0_slow_33 : decode cX0_slow 33 = .ok (.iconst 0, 1) := by decide +kernel
theorem dX0_slow_34 : decode cX0_slow 34 = .ok (.iaload, 1) := by decide +kernel
theorem dX0_slow_35 : decode cX0_slow 35 = .ok (.iload_n 2, 1) := by decide +kernel
theorem dX0_slow_36 : decode cX0_slow 36 = .ok (.isub, 1) := by decide +kernel
theorem dX0_slow_37 : decode cX0_slow 37 = .ok (.iload_n 3, 1) := by decide +kernel
theorem dX0_slow_38 : decode cX0_slow 38 = .ok (.invokestatic 77, 3) := by decide +kernel
theorem dX0_slow_41 : decode cX0_slow 41 = .ok (.iadd, 1) := by decide +kernel
theorem dX0_slow_42 : decode cX0_slow 42 = .ok (.iastore, 1) := by decide +kernel
theorem dX0_slow_43 : decode cX0_slow 43 = .ok (.iinc 4 1, 3) := by decide +kernel
theorem dX0_slow_46 : decode cX0_slow 46 = .ok (.goto (-38), 3) := by decide +kernel
theorem dX0_slow_49 : decode cX0_slow 49 = .ok (.aload_n 1, 1) := by decide +kernel
theorem dX0_slow_50 : decode cX0_slow 50 = .ok (.invokevirtual 54, 3) := by decide +kernel
theorem dX0_slow_53 : decode cX0_slow 53 = .ok (.iconst 1, 1) := by decide +kernel
theorem dX0_slow_54 : decode cX0_slow 54 = .ok (.isub, 1) := by decide +kernel
theorem dX0_slow_55 : decode cX0_slow 55 = .ok (.istore 4, 2) := by decide +kernel
theorem dX0_slow_57 : decode cX0_slow 57 = .ok (.aload_n 1, 1) := by decide +kernel
theorem dX0_slow_58 : decode cX0_slow 58 = .ok (.invokevirtual 80, 3) := by decide +kernel
theorem dX0_slow_61 : decode cX0_slow 61 = .ok (.istore 5, 2) := by decide +kernel
theorem dX0_slow_63 : decode cX0_slow 63 = .ok (.iconst 0, 1) := by decide +kernel
theorem dX0_slow_64 : decode cX0_slow 64 = .ok (.istore 6, 2) := by decide +kernel
theorem dX0_slow_66 : decode cX0_slow 66 = .ok (.iload 6, 2) := by decide +kernel
theorem dX0_slow_68 : decode cX0_slow 68 = .ok (.aload_n 1, 1) := by decide +kernel
theorem dX0_slow_69 : decode cX0_slow 69 = .ok (.invokevirtual 59, 3) := by decide +kernel
theorem dX0_slow_72 : decode cX0_slow 72 = .ok (.if_icmp .ge 43, 3) := by decide +kernel
theorem dX0_slow_75 : decode cX0_slow 75 = .ok (.iload 4, 2) := by decide +kernel
theorem dX0_slow_77 : decode cX0_slow 77 = .ok (.ifCond .lt 38, 3) := by decide +kernel
theorem dX0_slow_80 : decode cX0_slow 80 = .ok (.aload_n 0, 1) := by decide +kernel
theorem dX0_slow_81 : decode cX0_slow 81 = .ok (.getfield 11, 3) := by decide +kernel
theorem dX0_slow_84 : decode cX0_slow 84 = .ok (.iload 4, 2) := by decide +kernel
theorem dX0_slow_86 : decode cX0_slow 86 = .ok (.aaload, 1) := by decide +kernel
theorem dX0_slow_87 : decode cX0_slow 87 = .ok (.iload 6, 2) := by decide +kernel
theorem dX0_slow_89 : decode cX0_slow 89 = .ok (.iload_n 2, 1) := by decide +kernel
theorem dX0_slow_90 : decode cX0_slow 90 = .ok (.aload_n 0, 1) := by decide +kernel
theorem dX0_slow_91 : decode cX0_slow 91 = .ok (.getfield 11, 3) := by decide +kernel
theorem dX0_slow_94 : decode cX0_slow 94 = .ok (.iload 4, 2) := by decide +kernel
theorem dX0_slow_96 : decode cX0_slow 96 = .ok (.aaload, 1) := by decide +kernel
theorem dX0_slow_97 : decode cX0_slow 97 = .ok (.iload 6, 2) := by decide +kernel
theorem dX0_slow_99 : decode cX0_slow 99 = .ok (.iaload, 1) := by decide +kernel
theorem dX0_slow_100 : decode cX0_slow 100 = .ok (.iload_n 2, 1) := by decide +kernel
theorem dX0_slow_101 : decode cX0_slow 101 = .ok (.isub, 1) := by decide +kernel
theorem dX0_slow_102 : decode cX0_slow 102 = .ok (.iload 5, 2) := by decide +kernel
theorem dX0_slow_104 : decode cX0_slow 104 = .ok (.invokestatic 77, 3) := by decide +kernel
theorem dX0_slow_107 : decode cX0_slow 107 = .ok (.iadd, 1) := by decide +kernel
theorem dX0_slow_108 : decode cX0_slow 108 = .ok (.iastore, 1) := by decide +kernel
theorem dX0_slow_109 : decode cX0_slow 109 = .ok (.iinc 6 1, 3) := by decide +kernel
theorem dX0_slow_112 : decode cX0_slow 112 = .ok (.goto (-46), 3) := by decide +kernel
theorem dX0_slow_115 : decode cX0_slow 115 = .ok (.return_, 1) := by decide +kernel
set_option maxHeartbeats 4000000 in
set_option maxRecDepth 100000 in
theorem c_X0_slow (l : Launch) (E : zE) (n : Nat) (h : zH) (a0 : Nat) (p0 : Nat) (p1 : Int32) (res : Unit × zH) (hf : F_X0_slow n h a0 p0 p1 = some res) : Met l yX0_slow (zw yX0_slow cX0_slow 7 none) ({ frames := 2, cells := 0, slots := 0, locals := 41 } : Room) (zPc E h [.ref (zB E + a0), .ref (zB E + p0), .int p1]) (zQc E res.2 none) 0 0 (zfr E) := by
  refine zmet (lo := [(0, .ref (zB E + a0)), (1, .ref (zB E + p0)), (2, .int p1)]) (by decide +kernel) (Nat.le_of_ble_eq_true rfl) rfl ?_
  intro p e s m args below meth c C hr hin
  unfold F_X0_slow at hf
  have J115 : ∀ (h2 : zH), F_X0_slow_J115 n h2 = some res → zW p l e (headSpec (zw yX0_slow cX0_slow 7 none) ({ frames := 2, cells := 0, slots := 0, locals := 41 } : Room)).room s m args below meth c E 7 (MQ below (zQc E res.2 none) args s 0 0 (zfr E)) 0 0 115 [] [] h2 := by
    intro h2 hf
    unfold F_X0_slow_J115 at hf
    exact zr_return C hf hr (Nat.le_of_ble_eq_true rfl) (Nat.le_of_ble_eq_true rfl) dX0_slow_115
  refine zr_aload_n C dX0_slow_0 rfl 1 rfl ?_
  refine zr_callVi (As := []) (rest := []) C hf (fun x hx => c_X1_floorTenths l E n h p0 x hx) kv_X0_74 rfl rfl (Nat.le_of_ble_eq_true rfl) ⟨rfl, rfl⟩ ⟨Nat.le_of_ble_eq_true rfl, Nat.le_of_ble_eq_true rfl⟩ ⟨Nat.le_of_ble_eq_true rfl, Nat.le_of_ble_eq_true rfl⟩ dX0_slow_1 (fun x4 h3 hf => ?_)
  refine zr_istore_n (lo2 := [(3, .int x4), (0, .ref (zB E + a0)), (1, .ref (zB E + p0)), (2, .int p1)]) C dX0_slow_4 rfl (by decide) rfl ?_
  refine zr_iconst (v := 0) C dX0_slow_5 (by decide) ?_
  refine zr_istore (lo2 := [(4, .int (0 : Int32)), (3, .int x4), (0, .ref (zB E + a0)), (1, .ref (zB E + p0)), (2, .int p1)]) C dX0_slow_6 (by decide) rfl ?_
  have L8 : ∀ (fu : Nat) (x : zH × Int32), zloop (fun kc x => F_X0_slow_B8 n kc x.1 a0 p0 p1 x4 x.2) fu x = some res → zW p l e (headSpec (zw yX0_slow cX0_slow 7 none) ({ frames := 2, cells := 0, slots := 0, locals := 41 } : Room)).room s m args below meth c E 7 (MQ below (zQc E res.2 none) args s 0 0 (zfr E)) 0 0 8 [(0, .ref (zB E + a0)), (1, .ref (zB E + p0)), (2, .int p1), (3, .int x4), (4, .int x.2)] [] x.1 := by
    refine z_loop _ ?_
    intro kc8 hk8 x hf
    obtain ⟨h65, x64⟩ := x
    dsimp only at hf ⊢
    unfold F_X0_slow_B8 at hf
    refine zr_iload C dX0_slow_8 4 rfl ?_
    refine zr_aload_n C dX0_slow_10 rfl 1 rfl ?_
    refine zr_callVi (As := []) (rest := [.int x64]) C hf (fun x hx => c_X1_rings l E n h65 p0 x hx) kv_X0_54 rfl rfl (Nat.le_of_ble_eq_true rfl) ⟨rfl, rfl⟩ ⟨Nat.le_of_ble_eq_true rfl, Nat.le_of_ble_eq_true rfl⟩ ⟨Nat.le_of_ble_eq_true rfl, Nat.le_of_ble_eq_true rfl⟩ dX0_slow_11 (fun x67 h66 hf => ?_)
    refine zr_icmp_ge (tgt := 49) C hf dX0_slow_14 (by decide) (fun hf => ?_) (fun hf => ?_)
    · refine zr_aload_n C dX0_slow_49 rfl 1 rfl ?_
      refine zr_callVi (As := []) (rest := []) C hf (fun x hx => c_X1_rings l E n h66 p0 x hx) kv_X0_54 rfl rfl (Nat.le_of_ble_eq_true rfl) ⟨rfl, rfl⟩ ⟨Nat.le_of_ble_eq_true rfl, Nat.le_of_ble_eq_true rfl⟩ ⟨Nat.le_of_ble_eq_true rfl, Nat.le_of_ble_eq_true rfl⟩ dX0_slow_50 (fun x69 h68 hf => ?_)
      refine zr_iconst (v := 1) C dX0_slow_53 (by decide) ?_
      refine zr_isub C hf dX0_slow_54 (fun x70 hf => ?_)
      refine zr_istore (lo2 := [(4, .int x70), (0, .ref (zB E + a0)), (1, .ref (zB E + p0)), (2, .int p1), (3, .int x4)]) C dX0_slow_55 (by decide) rfl ?_
      refine zr_aload_n C dX0_slow_57 rfl 2 rfl ?_
      refine zr_callVi (As := []) (rest := []) C hf (fun x hx => c_X1_wallTenths l E n h68 p0 x hx) kv_X0_80 rfl rfl (Nat.le_of_ble_eq_true rfl) ⟨rfl, rfl⟩ ⟨Nat.le_of_ble_eq_true rfl, Nat.le_of_ble_eq_true rfl⟩ ⟨Nat.le_of_ble_eq_true rfl, Nat.le_of_ble_eq_true rfl⟩ dX0_slow_58 (fun x72 h71 hf => ?_)
      refine zr_istore (lo2 := [(5, .int x72), (4, .int x70), (0, .ref (zB E + a0)), (1, .ref (zB E + p0)), (2, .int p1), (3, .int x4)]) C dX0_slow_61 (by decide) rfl ?_
      refine zr_iconst (v := 0) C dX0_slow_63 (by decide) ?_
      refine zr_istore (lo2 := [(6, .int (0 : Int32)), (5, .int x72), (4, .int x70), (0, .ref (zB E + a0)), (1, .ref (zB E + p0)), (2, .int p1), (3, .int x4)]) C dX0_slow_64 (by decide) rfl ?_
      have L66 : ∀ (fu : Nat) (x : zH × Int32), zloop (fun kc x => F_X0_slow_B66 n kc x.1 a0 p0 p1 x70 x72 x.2) fu x = some res → zW p l e (headSpec (zw yX0_slow cX0_slow 7 none) ({ frames := 2, cells := 0, slots := 0, locals := 41 } : Room)).room s m args below meth c E 7 (MQ below (zQc E res.2 none) args s 0 0 (zfr E)) 0 0 66 [(0, .ref (zB E + a0)), (1, .ref (zB E + p0)), (2, .int p1), (4, .int x70), (5, .int x72), (6, .int x.2)] [] x.1 := by
        refine z_loop _ ?_
        intro kc66 hk66 x hf
        obtain ⟨h74, x73⟩ := x
        dsimp only at hf ⊢
        unfold F_X0_slow_B66 at hf
        refine zr_iload C dX0_slow_66 5 rfl ?_
        refine zr_aload_n C dX0_slow_68 rfl 1 rfl ?_
        refine zr_callVi (As := []) (rest := [.int x73]) C hf (fun x hx => c_X1_heights l E n h74 p0 x hx) kv_X0_59 rfl rfl (Nat.le_of_ble_eq_true rfl) ⟨rfl, rfl⟩ ⟨Nat.le_of_ble_eq_true rfl, Nat.le_of_ble_eq_true rfl⟩ ⟨Nat.le_of_ble_eq_true rfl, Nat.le_of_ble_eq_true rfl⟩ dX0_slow_69 (fun x76 h75 hf => ?_)
        refine zr_icmp_ge (tgt := 115) C hf dX0_slow_72 (by decide) (fun hf => ?_) (fun hf => ?_)
        · refine zsub [] rfl ?_
          exact J115 h75 hf
        · refine zr_iload C dX0_slow_75 3 rfl ?_
          refine zr_if_lt (tgt := 115) C hf dX0_slow_77 (by decide) (fun hf => ?_) (fun hf => ?_)
          · refine zsub [] rfl ?_
            exact J115 h75 hf
          · refine zr_aload_n C dX0_slow_80 rfl 0 rfl ?_
            refine zr_gr C hf kg_X0_11 (fun _ _ _ => rfl) dX0_slow_81 (fun w77 hf => ?_)
            refine zr_iload C dX0_slow_84 3 rfl ?_
            refine zr_aaload (t0 := 3) C hf (by decide) rfl rfl dX0_slow_86 (fun w78 hf => ?_)
            refine zr_iload C dX0_slow_87 5 rfl ?_
            refine zr_iload_n C dX0_slow_89 rfl 2 rfl ?_
            refine zr_aload_n C dX0_slow_90 rfl 0 rfl ?_
            refine zr_gr C hf kg_X0_11 (fun _ _ _ => rfl) dX0_slow_91 (fun w79 hf => ?_)
            refine zr_iload C dX0_slow_94 3 rfl ?_
            refine zr_aaload (t0 := 3) C hf (by decide) rfl rfl dX0_slow_96 (fun w80 hf => ?_)
            refine zr_iload C dX0_slow_97 5 rfl ?_
            refine zr_iaload C hf dX0_slow_99 (fun x81 hf => ?_)
            refine zr_iload_n C dX0_slow_100 rfl 2 rfl ?_
            refine zr_isub C hf dX0_slow_101 (fun x82 hf => ?_)
            refine zr_iload C dX0_slow_102 4 rfl ?_
            refine zr_callSi (As := [.int x82, .int x72]) (rest := [.int p1, .int x73, .ref (zB E + w78)]) C hf (fun x hx => c_X0_left l E n h75 x82 x72 x hx) ks_X0_77 rfl rfl (Nat.le_of_ble_eq_true rfl) ⟨rfl, rfl⟩ ⟨Nat.le_of_ble_eq_true rfl, Nat.le_of_ble_eq_true rfl⟩ ⟨Nat.le_of_ble_eq_true rfl, Nat.le_of_ble_eq_true rfl⟩ dX0_slow_104 (fun x84 h83 hf => ?_)
            refine zr_iadd C hf dX0_slow_107 (fun x85 hf => ?_)
            refine zr_iastore C hf dX0_slow_108 (fun h86 hf => ?_)
            refine zr_iinc (v0 := 1) (k := 5) (f := fun v => [(6, .int v), (0, .ref (zB E + a0)), (1, .ref (zB E + p0)), (2, .int p1), (4, .int x70), (5, .int x72)]) C hf (by decide) dX0_slow_109 rfl (by decide) (fun v => rfl) (fun x87 hf => ?_)
            refine zr_goto (tgt := 66) C dX0_slow_112 (by decide) ?_
            refine zsub [1, 2, 3, 4, 5, 0] rfl ?_
            exact hk66 (h86, x87) hf
      refine zsub [3, 4, 5, 2, 1, 0] rfl ?_
      exact L66 n (h71, (0 : Int32)) hf
    · refine zr_aload_n C dX0_slow_17 rfl 0 rfl ?_
      refine zr_gr C hf kg_X0_11 (fun _ _ _ => rfl) dX0_slow_18 (fun w88 hf => ?_)
      refine zr_iload C dX0_slow_21 4 rfl ?_
      refine zr_aaload (t0 := 3) C hf (by decide) rfl rfl dX0_slow_23 (fun w89 hf => ?_)
      refine zr_iconst (v := 0) C dX0_slow_24 (by decide) ?_
      refine zr_iload_n C dX0_slow_25 rfl 2 rfl ?_
      refine zr_aload_n C dX0_slow_26 rfl 0 rfl ?_
      refine zr_gr C hf kg_X0_11 (fun _ _ _ => rfl) dX0_slow_27 (fun w90 hf => ?_)
      refine zr_iload C dX0_slow_30 4 rfl ?_
      refine zr_aaload (t0 := 3) C hf (by decide) rfl rfl dX0_slow_32 (fun w91 hf => ?_)
      refine zr_iconst (v := 0) C dX0_slow_33 (by decide) ?_
      refine zr_iaload C hf dX0_slow_34 (fun x92 hf => ?_)
      refine zr_iload_n C dX0_slow_35 rfl 2 rfl ?_
      refine zr_isub C hf dX0_slow_36 (fun x93 hf => ?_)
      refine zr_iload_n C dX0_slow_37 rfl 3 rfl ?_
      refine zr_callSi (As := [.int x93, .int x4]) (rest := [.int p1, .int (0 : Int32), .ref (zB E + w89)]) C hf (fun x hx => c_X0_left l E n h66 x93 x4 x hx) ks_X0_77 rfl rfl (Nat.le_of_ble_eq_true rfl) ⟨rfl, rfl⟩ ⟨Nat.le_of_ble_eq_true rfl, Nat.le_of_ble_eq_true rfl⟩ ⟨Nat.le_of_ble_eq_true rfl, Nat.le_of_ble_eq_true rfl⟩ dX0_slow_38 (fun x95 h94 hf => ?_)
      refine zr_iadd C hf dX0_slow_41 (fun x96 hf => ?_)
      refine zr_iastore C hf dX0_slow_42 (fun h97 hf => ?_)
      refine zr_iinc (v0 := 1) (k := 4) (f := fun v => [(4, .int v), (0, .ref (zB E + a0)), (1, .ref (zB E + p0)), (2, .int p1), (3, .int x4)]) C hf (by decide) dX0_slow_43 rfl (by decide) (fun v => rfl) (fun x98 hf => ?_)
      refine zr_goto (tgt := 8) C dX0_slow_46 (by decide) ?_
      refine zsub [1, 2, 3, 4, 0] rfl ?_
      exact hk8 (h97, x98) hf
  refine zsub [2, 3, 4, 1, 0] rfl ?_
  exact L8 n (h3, (0 : Int32)) hf
theorem dX1_mixTwentieths_0 : decode cX1_mixTwentieths 0 = .ok (.aload_n 0, 1) := by decide +kernel
theorem dX1_mixTwentieths_1 : decode cX1_mixTwentieths 1 = .ok (.getfield 9, 3) := by decide +kernel
theorem dX1_mixTwentieths_4 : decode cX1_mixTwentieths 4 = .ok (.iconst 4, 1) := by decide +kernel
theorem dX1_mixTwentieths_5 : decode cX1_mixTwentieths 5 = .ok (.iaload, 1) := by decide +kernel
theorem dX1_mixTwentieths_6 : decode cX1_mixTwentieths 6 = .ok (.ireturn, 1) := by decide +kernel
set_option maxHeartbeats 4000000 in
set_option maxRecDepth 100000 in
theorem c_X1_mixTwentieths (l : Launch) (E : zE) (n : Nat) (h : zH) (a0 : Nat) (res : Int32 × zH) (hf : F_X1_mixTwentieths n h a0 = some res) : Met l yX1_mixTwentieths (zw yX1_mixTwentieths cX1_mixTwentieths 1 (some .int)) ({ frames := 0, cells := 0, slots := 0, locals := 0 } : Room) (zPc E h [.ref (zB E + a0)]) (zQc E res.2 (some (.int res.1))) 0 0 (zfr E) := by
  refine zmet (lo := [(0, .ref (zB E + a0))]) (by decide +kernel) (Nat.le_of_ble_eq_true rfl) rfl ?_
  intro p e s m args below meth c C hr hin
  unfold F_X1_mixTwentieths at hf
  refine zr_aload_n C dX1_mixTwentieths_0 rfl 0 rfl ?_
  refine zr_gr C hf kg_X1_9 (fun _ _ _ => rfl) dX1_mixTwentieths_1 (fun w1 hf => ?_)
  refine zr_iconst (v := 4) C dX1_mixTwentieths_4 (by decide) ?_
  refine zr_iaload C hf dX1_mixTwentieths_5 (fun x2 hf => ?_)
  exact zr_ireturn C hf hr (Nat.le_of_ble_eq_true rfl) (Nat.le_of_ble_eq_true rfl) dX1_mixTwentieths_6
theorem dX0_blend_0 : decode cX0_blend 0 = .ok (.aload_n 1, 1) := by decide +kernel
theorem dX0_blend_1 : decode cX0_blend 1 = .ok (.invokevirtual 83, 3) := by decide +kernel
theorem dX0_blend_4 : decode cX0_blend 4 = .ok (.istore_n 2, 1) := by decide +kernel
theorem dX0_blend_5 : decode cX0_blend 5 = .ok (.aload_n 1, 1) := by decide +kernel
theorem dX0_blend_6 : decode cX0_blend 6 = .ok (.invokevirtual 59, 3) := by decide +kernel
theorem dX0_blend_9 : decode cX0_blend 9 = .ok (.iconst 1, 1) := by decide +kernel
theorem dX0_blend_10 : decode cX0_blend 10 = .ok (.isub, 1) := by decide +kernel
theorem dX0_blend_11 : decode cX0_blend 11 = .ok (.istore_n 3, 1) := by decide +kernel
theorem dX0_blend_12 : decode cX0_blend 12 = .ok (.iconst 0, 1) := by decide +kernel
theorem dX0_blend_13 : decode cX0_blend 13 = .ok (.istore 4, 2) := by decide +kernel
theorem dX0_blend_15 : decode cX0_blend 15 = .ok (.iload 4, 2) := by decide +kernel
theorem dX0_blend_17 : decode cX0_blend 17 = .ok (.aload_n 1, 1) := by decide +kernel
theorem dX0_blend_18 : decode cX0_blend 18 = .ok (.invokevirtual 54, 3) := by decide +kernel
theorem dX0_blend_21 : decode cX0_blend 21 = .ok (.if_icmp .ge 90, 3) := by decide +kernel
theorem dX0_blend_24 : decode cX0_blend 24 = .ok (.iconst 0, 1) := by decide +kernel
theorem dX0_blend_25 : decode cX0_blend 25 = .ok (.istore 5, 2) := by decide +kernel
theorem dX0_blend_27 : decode cX0_blend 27 = .ok (.iload 5, 2) := by decide +kernel
theorem dX0_blend_29 : decode cX0_blend 29 = .ok (.iload_n 3, 1) := by decide +kernel
theorem dX0_blend_30 : decode cX0_blend 30 = .ok (.if_icmp .ge 75, 3) := by decide +kernel
theorem dX0_blend_33 : decode cX0_blend 33 = .ok (.aload_n 0, 1) := by decide +kernel
theorem dX0_blend_34 : decode cX0_blend 34 = .ok (.getfield 11, 3) := by decide +kernel
theorem dX0_blend_37 : decode cX0_blend 37 = .ok (.iload 4, 2) := by decide +kernel
theorem dX0_blend_39 : decode cX0_blend 39 = .ok (.aaload, 1) := by decide +kernel
theorem dX0_blend_40 : decode cX0_blend 40 = .ok (.iload 5, 2) := by decide +kernel
theorem dX0_blend_42 : decode cX0_blend 42 = .ok (.iconst 1, 1) := by decide +kernel
theorem dX0_blend_43 : decode cX0_blend 43 = .ok (.iadd, 1) := by decide +kernel
theorem dX0_blend_44 : decode cX0_blend 44 = .ok (.iaload, 1) := by decide +kernel
theorem dX0_blend_45 : decode cX0_blend 45 = .ok (.aload_n 0, 1) := by decide +kernel
theorem dX0_blend_46 : decode cX0_blend 46 = .ok (.getfield 11, 3) := by decide +kernel
theorem dX0_blend_49 : decode cX0_blend 49 = .ok (.iload 4, 2) := by decide +kernel
theorem dX0_blend_51 : decode cX0_blend 51 = .ok (.aaload, 1) := by decide +kernel
theorem dX0_blend_52 : decode cX0_blend 52 = .ok (.iload 5, 2) := by decide +kernel
theorem dX0_blend_54 : decode cX0_blend 54 = .ok (.iaload, 1) := by decide +kernel
theorem dX0_blend_55 : decode cX0_blend 55 = .ok (.isub, 1) := by decide +kernel
theorem dX0_blend_56 : decode cX0_blend 56 = .ok (.istore 6, 2) := by decide +kernel
theorem dX0_blend_58 : decode cX0_blend 58 = .ok (.iload 6, 2) := by decide +kernel
theorem dX0_blend_60 : decode cX0_blend 60 = .ok (.iload_n 2, 1) := by decide +kernel
theorem dX0_blend_61 : decode cX0_blend 61 = .ok (.imul, 1) := by decide +kernel
theorem dX0_blend_62 : decode cX0_blend 62 = .ok (.bipush 20, 2) := by decide +kernel
theorem dX0_blend_64 : decode cX0_blend 64 = .ok (.idiv, 1) := by decide +kernel
theorem dX0_blend_65 : decode cX0_blend 65 = .ok (.istore 7, 2) := by decide +kernel
theorem dX0_blend_67 : decode cX0_blend 67 = .ok (.aload_n 0, 1) := by decide +kernel
theorem dX0_blend_68 : decode cX0_blend 68 = .ok (.getfield 11, 3) := by decide +kernel
theorem dX0_blend_71 : decode cX0_blend 71 = .ok (.iload 4, 2) := by decide +kernel
theorem dX0_blend_73 : decode cX0_blend 73 = .ok (.aaload, 1) := by decide +kernel
theorem dX0_blend_74 : decode cX0_blend 74 = .ok (.iload 5, 2) := by decide +kernel
theorem dX0_blend_76 : decode cX0_blend 76 = .ok (.dup2, 1) := by decide +kernel
theorem dX0_blend_77 : decode cX0_blend 77 = .ok (.iaload, 1) := by decide +kernel
theorem dX0_blend_78 : decode cX0_blend 78 = .ok (.iload 7, 2) := by decide +kernel
theorem dX0_blend_80 : decode cX0_blend 80 = .ok (.iadd, 1) := by decide +kernel
theorem dX0_blend_81 : decode cX0_blend 81 = .ok (.iastore, 1) := by decide +kernel
theorem dX0_blend_82 : decode cX0_blend 82 = .ok (.aload_n 0, 1) := by decide +kernel
theorem dX0_blend_83 : decode cX0_blend 83 = .ok (.getfield 11, 3) := by decide +kernel
theorem dX0_blend_86 : decode cX0_blend 86 = .ok (.iload 4, 2) := by decide +kernel
theorem dX0_blend_88 : decode cX0_blend 88 = .ok (.aaload, 1) := by decide +kernel
theorem dX0_blend_89 : decode cX0_blend 89 = .ok (.iload 5, 2) := by decide +kernel
theorem dX0_blend_91 : decode cX0_blend 91 = .ok (.iconst 1, 1) := by decide +kernel
theorem dX0_blend_92 : decode cX0_blend 92 = .ok (.iadd, 1) := by decide +kernel
theorem dX0_blend_93 : decode cX0_blend 93 = .ok (.dup2, 1) := by decide +kernel
theorem dX0_blend_94 : decode cX0_blend 94 = .ok (.iaload, 1) := by decide +kernel
theorem dX0_blend_95 : decode cX0_blend 95 = .ok (.iload 7, 2) := by decide +kernel
theorem dX0_blend_97 : decode cX0_blend 97 = .ok (.isub, 1) := by decide +kernel
theorem dX0_blend_98 : decode cX0_blend 98 = .ok (.iastore, 1) := by decide +kernel
theorem dX0_blend_99 : decode cX0_blend 99 = .ok (.iinc 5 1, 3) := by decide +kernel
theorem dX0_blend_102 : decode cX0_blend 102 = .ok (.goto (-75), 3) := by decide +kernel
theorem dX0_blend_105 : decode cX0_blend 105 = .ok (.iinc 4 1, 3) := by decide +kernel
theorem dX0_blend_108 : decode cX0_blend 108 = .ok (.goto (-93), 3) := by decide +kernel
theorem dX0_blend_111 : decode cX0_blend 111 = .ok (.return_, 1) := by decide +kernel
set_option maxHeartbeats 4000000 in
set_option maxRecDepth 100000 in
theorem c_X0_blend (l : Launch) (E : zE) (n : Nat) (h : zH) (a0 : Nat) (p0 : Nat) (res : Unit × zH) (hf : F_X0_blend n h a0 p0 = some res) : Met l yX0_blend (zw yX0_blend cX0_blend 8 none) ({ frames := 1, cells := 0, slots := 0, locals := 20 } : Room) (zPc E h [.ref (zB E + a0), .ref (zB E + p0)]) (zQc E res.2 none) 0 0 (zfr E) := by
  refine zmet (lo := [(0, .ref (zB E + a0)), (1, .ref (zB E + p0))]) (by decide +kernel) (Nat.le_of_ble_eq_true rfl) rfl ?_
  intro p e s m args below meth c C hr hin
  unfold F_X0_blend at hf
  refine zr_aload_n C dX0_blend_0 rfl 1 rfl ?_
  refine zr_callVi (As := []) (rest := []) C hf (fun x hx => c_X1_mixTwentieths l E n h p0 x hx) kv_X0_83 rfl rfl (Nat.le_of_ble_eq_true rfl) ⟨rfl, rfl⟩ ⟨Nat.le_of_ble_eq_true rfl, Nat.le_of_ble_eq_true rfl⟩ ⟨Nat.le_of_ble_eq_true rfl, Nat.le_of_ble_eq_true rfl⟩ dX0_blend_1 (fun x2 h1 hf => ?_)
  refine zr_istore_n (lo2 := [(2, .int x2), (0, .ref (zB E + a0)), (1, .ref (zB E + p0))]) C dX0_blend_4 rfl (by decide) rfl ?_
  refine zr_aload_n C dX0_blend_5 rfl 2 rfl ?_
  refine zr_callVi (As := []) (rest := []) C hf (fun x hx => c_X1_heights l E n h1 p0 x hx) kv_X0_59 rfl rfl (Nat.le_of_ble_eq_true rfl) ⟨rfl, rfl⟩ ⟨Nat.le_of_ble_eq_true rfl, Nat.le_of_ble_eq_true rfl⟩ ⟨Nat.le_of_ble_eq_true rfl, Nat.le_of_ble_eq_true rfl⟩ dX0_blend_6 (fun x4 h3 hf => ?_)
  refine zr_iconst (v := 1) C dX0_blend_9 (by decide) ?_
  refine zr_isub C hf dX0_blend_10 (fun x5 hf => ?_)
  refine zr_istore_n (lo2 := [(3, .int x5), (2, .int x2), (0, .ref (zB E + a0)), (1, .ref (zB E + p0))]) C dX0_blend_11 rfl (by decide) rfl ?_
  refine zr_iconst (v := 0) C dX0_blend_12 (by decide) ?_
  refine zr_istore (lo2 := [(4, .int (0 : Int32)), (3, .int x5), (2, .int x2), (0, .ref (zB E + a0)), (1, .ref (zB E + p0))]) C dX0_blend_13 (by decide) rfl ?_
  have L15 : ∀ (fu : Nat) (x : zH × Int32), zloop (fun kc x => F_X0_blend_B15 n kc x.1 a0 p0 x2 x5 x.2) fu x = some res → zW p l e (headSpec (zw yX0_blend cX0_blend 8 none) ({ frames := 1, cells := 0, slots := 0, locals := 20 } : Room)).room s m args below meth c E 8 (MQ below (zQc E res.2 none) args s 0 0 (zfr E)) 0 0 15 [(0, .ref (zB E + a0)), (1, .ref (zB E + p0)), (2, .int x2), (3, .int x5), (4, .int x.2)] [] x.1 := by
    refine z_loop _ ?_
    intro kc15 hk15 x hf
    obtain ⟨h70, x69⟩ := x
    dsimp only at hf ⊢
    unfold F_X0_blend_B15 at hf
    refine zr_iload C dX0_blend_15 4 rfl ?_
    refine zr_aload_n C dX0_blend_17 rfl 1 rfl ?_
    refine zr_callVi (As := []) (rest := [.int x69]) C hf (fun x hx => c_X1_rings l E n h70 p0 x hx) kv_X0_54 rfl rfl (Nat.le_of_ble_eq_true rfl) ⟨rfl, rfl⟩ ⟨Nat.le_of_ble_eq_true rfl, Nat.le_of_ble_eq_true rfl⟩ ⟨Nat.le_of_ble_eq_true rfl, Nat.le_of_ble_eq_true rfl⟩ dX0_blend_18 (fun x72 h71 hf => ?_)
    refine zr_icmp_ge (tgt := 111) C hf dX0_blend_21 (by decide) (fun hf => ?_) (fun hf => ?_)
    · exact zr_return C hf hr (Nat.le_of_ble_eq_true rfl) (Nat.le_of_ble_eq_true rfl) dX0_blend_111
    · refine zr_iconst (v := 0) C dX0_blend_24 (by decide) ?_
      refine zr_istore (lo2 := [(5, .int (0 : Int32)), (0, .ref (zB E + a0)), (1, .ref (zB E + p0)), (2, .int x2), (3, .int x5), (4, .int x69)]) C dX0_blend_25 (by decide) rfl ?_
      have L27 : ∀ (fu : Nat) (x : zH × Int32), zloop (fun kc x => F_X0_blend_B27 n kc15 kc x.1 a0 p0 x2 x5 x69 x.2) fu x = some res → zW p l e (headSpec (zw yX0_blend cX0_blend 8 none) ({ frames := 1, cells := 0, slots := 0, locals := 20 } : Room)).room s m args below meth c E 8 (MQ below (zQc E res.2 none) args s 0 0 (zfr E)) 0 0 27 [(0, .ref (zB E + a0)), (1, .ref (zB E + p0)), (2, .int x2), (3, .int x5), (4, .int x69), (5, .int x.2)] [] x.1 := by
        refine z_loop _ ?_
        intro kc27 hk27 x hf
        obtain ⟨h74, x73⟩ := x
        dsimp only at hf ⊢
        unfold F_X0_blend_B27 at hf
        refine zr_iload C dX0_blend_27 5 rfl ?_
        refine zr_iload_n C dX0_blend_29 rfl 3 rfl ?_
        refine zr_icmp_ge (tgt := 105) C hf dX0_blend_30 (by decide) (fun hf => ?_) (fun hf => ?_)
        · refine zr_iinc (v0 := 1) (k := 4) (f := fun v => [(4, .int v), (0, .ref (zB E + a0)), (1, .ref (zB E + p0)), (2, .int x2), (3, .int x5), (5, .int x73)]) C hf (by decide) dX0_blend_105 rfl (by decide) (fun v => rfl) (fun x75 hf => ?_)
          refine zr_goto (tgt := 15) C dX0_blend_108 (by decide) ?_
          refine zsub [1, 2, 3, 4, 0] rfl ?_
          exact hk15 (h74, x75) hf
        · refine zr_aload_n C dX0_blend_33 rfl 0 rfl ?_
          refine zr_gr C hf kg_X0_11 (fun _ _ _ => rfl) dX0_blend_34 (fun w76 hf => ?_)
          refine zr_iload C dX0_blend_37 4 rfl ?_
          refine zr_aaload (t0 := 3) C hf (by decide) rfl rfl dX0_blend_39 (fun w77 hf => ?_)
          refine zr_iload C dX0_blend_40 5 rfl ?_
          refine zr_iconst (v := 1) C dX0_blend_42 (by decide) ?_
          refine zr_iadd C hf dX0_blend_43 (fun x78 hf => ?_)
          refine zr_iaload C hf dX0_blend_44 (fun x79 hf => ?_)
          refine zr_aload_n C dX0_blend_45 rfl 0 rfl ?_
          refine zr_gr C hf kg_X0_11 (fun _ _ _ => rfl) dX0_blend_46 (fun w80 hf => ?_)
          refine zr_iload C dX0_blend_49 4 rfl ?_
          refine zr_aaload (t0 := 3) C hf (by decide) rfl rfl dX0_blend_51 (fun w81 hf => ?_)
          refine zr_iload C dX0_blend_52 5 rfl ?_
          refine zr_iaload C hf dX0_blend_54 (fun x82 hf => ?_)
          refine zr_isub C hf dX0_blend_55 (fun x83 hf => ?_)
          refine zr_istore (lo2 := [(6, .int x83), (0, .ref (zB E + a0)), (1, .ref (zB E + p0)), (2, .int x2), (3, .int x5), (4, .int x69), (5, .int x73)]) C dX0_blend_56 (by decide) rfl ?_
          refine zr_iload C dX0_blend_58 0 rfl ?_
          refine zr_iload_n C dX0_blend_60 rfl 3 rfl ?_
          refine zr_imul C hf dX0_blend_61 (fun x84 hf => ?_)
          refine zr_bipush (v := 20) C dX0_blend_62 (by decide) ?_
          refine zr_idiv C hf dX0_blend_64 (fun x85 hf => ?_)
          refine zr_istore (lo2 := [(7, .int x85), (6, .int x83), (0, .ref (zB E + a0)), (1, .ref (zB E + p0)), (2, .int x2), (3, .int x5), (4, .int x69), (5, .int x73)]) C dX0_blend_65 (by decide) rfl ?_
          refine zr_aload_n C dX0_blend_67 rfl 2 rfl ?_
          refine zr_gr C hf kg_X0_11 (fun _ _ _ => rfl) dX0_blend_68 (fun w86 hf => ?_)
          refine zr_iload C dX0_blend_71 6 rfl ?_
          refine zr_aaload (t0 := 3) C hf (by decide) rfl rfl dX0_blend_73 (fun w87 hf => ?_)
          refine zr_iload C dX0_blend_74 7 rfl ?_
          refine zr_dup2 C dX0_blend_76 rfl rfl ?_
          refine zr_iaload C hf dX0_blend_77 (fun x88 hf => ?_)
          refine zr_iload C dX0_blend_78 0 rfl ?_
          refine zr_iadd C hf dX0_blend_80 (fun x89 hf => ?_)
          refine zr_iastore C hf dX0_blend_81 (fun h90 hf => ?_)
          refine zr_aload_n C dX0_blend_82 rfl 2 rfl ?_
          refine zr_gr C hf kg_X0_11 (fun _ _ _ => rfl) dX0_blend_83 (fun w91 hf => ?_)
          refine zr_iload C dX0_blend_86 6 rfl ?_
          refine zr_aaload (t0 := 3) C hf (by decide) rfl rfl dX0_blend_88 (fun w92 hf => ?_)
          refine zr_iload C dX0_blend_89 7 rfl ?_
          refine zr_iconst (v := 1) C dX0_blend_91 (by decide) ?_
          refine zr_iadd C hf dX0_blend_92 (fun x93 hf => ?_)
          refine zr_dup2 C dX0_blend_93 rfl rfl ?_
          refine zr_iaload C hf dX0_blend_94 (fun x94 hf => ?_)
          refine zr_iload C dX0_blend_95 0 rfl ?_
          refine zr_isub C hf dX0_blend_97 (fun x95 hf => ?_)
          refine zr_iastore C hf dX0_blend_98 (fun h96 hf => ?_)
          refine zr_iinc (v0 := 1) (k := 7) (f := fun v => [(5, .int v), (7, .int x85), (6, .int x83), (0, .ref (zB E + a0)), (1, .ref (zB E + p0)), (2, .int x2), (3, .int x5), (4, .int x69)]) C hf (by decide) dX0_blend_99 rfl (by decide) (fun v => rfl) (fun x97 hf => ?_)
          refine zr_goto (tgt := 27) C dX0_blend_102 (by decide) ?_
          refine zsub [3, 4, 5, 6, 7, 0] rfl ?_
          exact hk27 (h96, x97) hf
      refine zsub [1, 2, 3, 4, 5, 0] rfl ?_
      exact L27 n (h71, (0 : Int32)) hf
  refine zsub [3, 4, 2, 1, 0] rfl ?_
  exact L15 n (h3, (0 : Int32)) hf
theorem dX0_pullAll_0 : decode cX0_pullAll 0 = .ok (.iconst 0, 1) := by decide +kernel
theorem dX0_pullAll_1 : decode cX0_pullAll 1 = .ok (.istore_n 3, 1) := by decide +kernel
theorem dX0_pullAll_2 : decode cX0_pullAll 2 = .ok (.iload_n 3, 1) := by decide +kernel
theorem dX0_pullAll_3 : decode cX0_pullAll 3 = .ok (.aload_n 2, 1) := by decide +kernel
theorem dX0_pullAll_4 : decode cX0_pullAll 4 = .ok (.getfield 20, 3) := by decide +kernel
theorem dX0_pullAll_7 : decode cX0_pullAll 7 = .ok (.if_icmp .ge 88, 3) := by decide +kernel
theorem dX0_pullAll_10 : decode cX0_pullAll 10 = .ok (.aload_n 0, 1) := by decide +kernel
theorem dX0_pullAll_11 : decode cX0_pullAll 11 = .ok (.aload_n 1, 1) := by decide +kernel
theorem dX0_pullAll_12 : decode cX0_pullAll 12 = .ok (.aload_n 2, 1) := by decide +kernel
theorem dX0_pullAll_13 : decode cX0_pullAll 13 = .ok (.iload_n 3, 1) := by decide +kernel
theorem dX0_pullAll_14 : decode cX0_pullAll 14 = .ok (.invokevirtual 86, 3) := by decide +kernel
theorem dX0_pullAll_17 : decode cX0_pullAll 17 = .ok (.istore 4, 2) := by decide +kernel
theorem dX0_pullAll_19 : decode cX0_pullAll 19 = .ok (.iload 4, 2) := by decide +kernel
theorem dX0_pullAll_21 : decode cX0_pullAll 21 = .ok (.aload_n 2, 1) := by decide +kernel
theorem dX0_pullAll_22 : decode cX0_pullAll 22 = .ok (.getfield 90, 3) := by decide +kernel
theorem dX0_pullAll_25 : decode cX0_pullAll 25 = .ok (.iload_n 3, 1) := by decide +kernel
theorem dX0_pullAll_26 : decode cX0_pullAll 26 = .ok (.iaload, 1) := by decide +kernel
theorem dX0_pullAll_27 : decode cX0_pullAll 27 = .ok (.if_icmp .le 25, 3) := by decide +kernel
theorem dX0_pullAll_30 : decode cX0_pullAll 30 = .ok (.aload_n 0, 1) := by decide +kernel
theorem dX0_pullAll_31 : decode cX0_pullAll 31 = .ok (.getfield 16, 3) := by decide +kernel
theorem dX0_pullAll_34 : decode cX0_pullAll 34 = .ok (.iload_n 3, 1) := by decide +kernel
theorem dX0_pullAll_35 : decode cX0_pullAll 35 = .ok (.iaload, 1) := by decide +kernel
theorem dX0_pullAll_36 : decode cX0_pullAll 36 = .ok (.ifCond .le 16, 3) := by decide +kernel
theorem dX0_pullAll_39 : decode cX0_pullAll 39 = .ok (.aload_n 0, 1) := by decide +kernel
theorem dX0_pullAll_40 : decode cX0_pullAll 40 = .ok (.getfield 16, 3) := by decide +kernel
theorem dX0_pullAll_43 : decode cX0_pullAll 43 = .ok (.iload_n 3, 1) := by decide +kernel
theorem dX0_pullAll_44 : decode cX0_pullAll 44 = .ok (.dup2, 1) := by decide +kernel
theorem dX0_pullAll_45 : decode cX0_pullAll 45 = .ok (.iaload, 1) := by decide +kernel
theorem dX0_pullAll_46 : decode cX0_pullAll 46 = .ok (.iconst 1, 1) := by decide +kernel
theorem dX0_pullAll_47 : decode cX0_pullAll 47 = .ok (.isub, 1) := by decide +kernel
theorem dX0_pullAll_48 : decode cX0_pullAll 48 = .ok (.iastore, 1) := by decide +kernel
theorem dX0_pullAll_49 : decode cX0_pullAll 49 = .ok (.goto 40, 3) := by decide +kernel
theorem dX0_pullAll_52 : decode cX0_pullAll 52 = .ok (.iload 4, 2) := by decide +kernel
theorem dX0_pullAll_54 : decode cX0_pullAll 54 = .ok (.aload_n 2, 1) := by decide +kernel
theorem dX0_pullAll_55 : decode cX0_pullAll 55 = .ok (.getfield 90, 3) := by decide +kernel
theorem dX0_pullAll_58 : decode cX0_pullAll 58 = .ok (.iload_n 3, 1) := by decide +kernel
theorem dX0_pullAll_59 : decode cX0_pullAll 59 = .ok (.iaload, 1) := by decide +kernel
theorem dX0_pullAll_60 : decode cX0_pullAll 60 = .ok (.ineg, 1) := by decide +kernel
theorem dX0_pullAll_61 : decode cX0_pullAll 61 = .ok (.if_icmp .ge 28, 3) := by decide +kernel
theorem dX0_pullAll_64 : decode cX0_pullAll 64 = .ok (.aload_n 0, 1) := by decide +kernel
theorem dX0_pullAll_65 : decode cX0_pullAll 65 = .ok (.getfield 16, 3) := by decide +kernel
theorem dX0_pullAll_68 : decode cX0_pullAll 68 = .ok (.iload_n 3, 1) := by decide +kernel
theorem dX0_pullAll_69 : decode cX0_pullAll 69 = .ok (.iaload, 1) := by decide +kernel
theorem dX0_pullAll_70 : decode cX0_pullAll 70 = .ok (.aload_n 1, 1) := by decide +kernel
theorem dX0_pullAll_71 : decode cX0_pullAll 71 = .ok (.invokevirtual 54, 3) := by decide +kernel
theorem dX0_pullAll_74 : decode cX0_pullAll 74 = .ok (.iconst 1, 1) := by decide +kernel
theorem dX0_pullAll_75 : decode cX0_pullAll 75 = .ok (.isub, 1) := by decide +kernel
theorem dX0_pullAll_76 : decode cX0_pullAll 76 = .ok (.if_icmp .ge 13, 3) := by decide +kernel
theorem dX0_pullAll_79 : decode cX0_pullAll 79 = .ok (.aload_n 0, 1) := by decide +kernel
theorem dX0_pullAll_80 : decode cX0_pullAll 80 = .ok (.getfield 16, 3) := by decide +kernel
theorem dX0_pullAll_83 : decode cX0_pullAll 83 = .ok (.iload_n 3, 1) := by decide +kernel
theorem dX0_pullAll_84 : decode cX0_pullAll 84 = .ok (.dup2, 1) := by decide +kernel
theorem dX0_pullAll_85 : decode cX0_pullAll 85 = .ok (.iaload, 1) := by decide +kernel
theorem dX0_pullAll_86 : decode cX0_pullAll 86 = .ok (.iconst 1, 1) := by decide +kernel
theorem dX0_pullAll_87 : decode cX0_pullAll 87 = .ok (.iadd, 1) := by decide +kernel
theorem dX0_pullAll_88 : decode cX0_pullAll 88 = .ok (.iastore, 1) := by decide +kernel
theorem dX0_pullAll_89 : decode cX0_pullAll 89 = .ok (.iinc 3 1, 3) := by decide +kernel
theorem dX0_pullAll_92 : decode cX0_pullAll 92 = .ok (.goto (-90), 3) := by decide +kernel
theorem dX0_pullAll_95 : decode cX0_pullAll 95 = .ok (.return_, 1) := by decide +kernel
set_option maxHeartbeats 4000000 in
set_option maxRecDepth 100000 in
theorem c_X0_pullAll (l : Launch) (E : zE) (n : Nat) (h : zH) (a0 : Nat) (p0 : Nat) (p1 : Nat) (res : Unit × zH) (hf : F_X0_pullAll n h a0 p0 p1 = some res) : Met l yX0_pullAll (zw yX0_pullAll cX0_pullAll 5 none) ({ frames := 2, cells := 0, slots := 0, locals := 50 } : Room) (zPc E h [.ref (zB E + a0), .ref (zB E + p0), .ref (zB E + p1)]) (zQc E res.2 none) 0 0 (zfr E) := by
  refine zmet (lo := [(0, .ref (zB E + a0)), (1, .ref (zB E + p0)), (2, .ref (zB E + p1))]) (by decide +kernel) (Nat.le_of_ble_eq_true rfl) rfl ?_
  intro p e s m args below meth c C hr hin
  unfold F_X0_pullAll at hf
  refine zr_iconst (v := 0) C dX0_pullAll_0 (by decide) ?_
  refine zr_istore_n (lo2 := [(3, .int (0 : Int32)), (0, .ref (zB E + a0)), (1, .ref (zB E + p0)), (2, .ref (zB E + p1))]) C dX0_pullAll_1 rfl (by decide) rfl ?_
  have L2 : ∀ (fu : Nat) (x : zH × Int32), zloop (fun kc x => F_X0_pullAll_B2 n kc x.1 a0 p0 p1 x.2) fu x = some res → zW p l e (headSpec (zw yX0_pullAll cX0_pullAll 5 none) ({ frames := 2, cells := 0, slots := 0, locals := 50 } : Room)).room s m args below meth c E 5 (MQ below (zQc E res.2 none) args s 0 0 (zfr E)) 0 0 2 [(0, .ref (zB E + a0)), (1, .ref (zB E + p0)), (2, .ref (zB E + p1)), (3, .int x.2)] [] x.1 := by
    refine z_loop _ ?_
    intro kc2 hk2 x hf
    obtain ⟨h42, x41⟩ := x
    dsimp only at hf ⊢
    unfold F_X0_pullAll_B2 at hf
    have J89 : ∀ (h44 : zH) (x43 : Int32), F_X0_pullAll_J89 n kc2 h44 a0 p0 p1 x43 = some res → zW p l e (headSpec (zw yX0_pullAll cX0_pullAll 5 none) ({ frames := 2, cells := 0, slots := 0, locals := 50 } : Room)).room s m args below meth c E 5 (MQ below (zQc E res.2 none) args s 0 0 (zfr E)) 0 0 89 [(0, .ref (zB E + a0)), (1, .ref (zB E + p0)), (2, .ref (zB E + p1)), (3, .int x43)] [] h44 := by
      intro h44 x43 hf
      unfold F_X0_pullAll_J89 at hf
      refine zr_iinc (v0 := 1) (k := 3) (f := fun v => [(3, .int v), (0, .ref (zB E + a0)), (1, .ref (zB E + p0)), (2, .ref (zB E + p1))]) C hf (by decide) dX0_pullAll_89 rfl (by decide) (fun v => rfl) (fun x45 hf => ?_)
      refine zr_goto (tgt := 2) C dX0_pullAll_92 (by decide) ?_
      refine zsub [1, 2, 3, 0] rfl ?_
      exact hk2 (h44, x45) hf
    have J52 : ∀ (h48 : zH) (x46 : Int32) (x47 : Int32), F_X0_pullAll_J52 n kc2 h48 a0 p0 p1 x46 x47 = some res → zW p l e (headSpec (zw yX0_pullAll cX0_pullAll 5 none) ({ frames := 2, cells := 0, slots := 0, locals := 50 } : Room)).room s m args below meth c E 5 (MQ below (zQc E res.2 none) args s 0 0 (zfr E)) 0 0 52 [(0, .ref (zB E + a0)), (1, .ref (zB E + p0)), (2, .ref (zB E + p1)), (3, .int x46), (4, .int x47)] [] h48 := by
      intro h48 x46 x47 hf
      unfold F_X0_pullAll_J52 at hf
      refine zr_iload C dX0_pullAll_52 4 rfl ?_
      refine zr_aload_n C dX0_pullAll_54 rfl 2 rfl ?_
      refine zr_gr C hf kg_X0_90 (fun _ _ _ => rfl) dX0_pullAll_55 (fun w49 hf => ?_)
      refine zr_iload_n C dX0_pullAll_58 rfl 3 rfl ?_
      refine zr_iaload C hf dX0_pullAll_59 (fun x50 hf => ?_)
      refine zr_ineg C hf dX0_pullAll_60 (fun x51 hf => ?_)
      refine zr_icmp_ge (tgt := 89) C hf dX0_pullAll_61 (by decide) (fun hf => ?_) (fun hf => ?_)
      · refine zsub [0, 1, 2, 3] rfl ?_
        exact J89 h48 x46 hf
      · refine zr_aload_n C dX0_pullAll_64 rfl 0 rfl ?_
        refine zr_gr C hf kg_X0_16 (fun _ _ _ => rfl) dX0_pullAll_65 (fun w52 hf => ?_)
        refine zr_iload_n C dX0_pullAll_68 rfl 3 rfl ?_
        refine zr_iaload C hf dX0_pullAll_69 (fun x53 hf => ?_)
        refine zr_aload_n C dX0_pullAll_70 rfl 1 rfl ?_
        refine zr_callVi (As := []) (rest := [.int x53]) C hf (fun x hx => c_X1_rings l E n h48 p0 x hx) kv_X0_54 rfl rfl (Nat.le_of_ble_eq_true rfl) ⟨rfl, rfl⟩ ⟨Nat.le_of_ble_eq_true rfl, Nat.le_of_ble_eq_true rfl⟩ ⟨Nat.le_of_ble_eq_true rfl, Nat.le_of_ble_eq_true rfl⟩ dX0_pullAll_71 (fun x55 h54 hf => ?_)
        refine zr_iconst (v := 1) C dX0_pullAll_74 (by decide) ?_
        refine zr_isub C hf dX0_pullAll_75 (fun x56 hf => ?_)
        refine zr_icmp_ge (tgt := 89) C hf dX0_pullAll_76 (by decide) (fun hf => ?_) (fun hf => ?_)
        · refine zsub [0, 1, 2, 3] rfl ?_
          exact J89 h54 x46 hf
        · refine zr_aload_n C dX0_pullAll_79 rfl 0 rfl ?_
          refine zr_gr C hf kg_X0_16 (fun _ _ _ => rfl) dX0_pullAll_80 (fun w57 hf => ?_)
          refine zr_iload_n C dX0_pullAll_83 rfl 3 rfl ?_
          refine zr_dup2 C dX0_pullAll_84 rfl rfl ?_
          refine zr_iaload C hf dX0_pullAll_85 (fun x58 hf => ?_)
          refine zr_iconst (v := 1) C dX0_pullAll_86 (by decide) ?_
          refine zr_iadd C hf dX0_pullAll_87 (fun x59 hf => ?_)
          refine zr_iastore C hf dX0_pullAll_88 (fun h60 hf => ?_)
          refine zsub [0, 1, 2, 3] rfl ?_
          exact J89 h60 x46 hf
    refine zr_iload_n C dX0_pullAll_2 rfl 3 rfl ?_
    refine zr_aload_n C dX0_pullAll_3 rfl 2 rfl ?_
    refine zr_gi C hf kg_X0_20 (fun _ _ _ => rfl) dX0_pullAll_4 (fun x61 hf => ?_)
    refine zr_icmp_ge (tgt := 95) C hf dX0_pullAll_7 (by decide) (fun hf => ?_) (fun hf => ?_)
    · exact zr_return C hf hr (Nat.le_of_ble_eq_true rfl) (Nat.le_of_ble_eq_true rfl) dX0_pullAll_95
    · refine zr_aload_n C dX0_pullAll_10 rfl 0 rfl ?_
      refine zr_aload_n C dX0_pullAll_11 rfl 1 rfl ?_
      refine zr_aload_n C dX0_pullAll_12 rfl 2 rfl ?_
      refine zr_iload_n C dX0_pullAll_13 rfl 3 rfl ?_
      refine zr_callVi (As := [.ref (zB E + p0), .ref (zB E + p1), .int x41]) (rest := []) C hf (fun x hx => c_X0_pullOf l E n h42 a0 p0 p1 x41 x hx) kv_X0_86 rfl rfl (Nat.le_of_ble_eq_true rfl) ⟨rfl, rfl⟩ ⟨Nat.le_of_ble_eq_true rfl, Nat.le_of_ble_eq_true rfl⟩ ⟨Nat.le_of_ble_eq_true rfl, Nat.le_of_ble_eq_true rfl⟩ dX0_pullAll_14 (fun x63 h62 hf => ?_)
      refine zr_istore (lo2 := [(4, .int x63), (0, .ref (zB E + a0)), (1, .ref (zB E + p0)), (2, .ref (zB E + p1)), (3, .int x41)]) C dX0_pullAll_17 (by decide) rfl ?_
      refine zr_iload C dX0_pullAll_19 0 rfl ?_
      refine zr_aload_n C dX0_pullAll_21 rfl 3 rfl ?_
      refine zr_gr C hf kg_X0_90 (fun _ _ _ => rfl) dX0_pullAll_22 (fun w64 hf => ?_)
      refine zr_iload_n C dX0_pullAll_25 rfl 4 rfl ?_
      refine zr_iaload C hf dX0_pullAll_26 (fun x65 hf => ?_)
      refine zr_icmp_le (tgt := 52) C hf dX0_pullAll_27 (by decide) (fun hf => ?_) (fun hf => ?_)
      · refine zsub [1, 2, 3, 4, 0] rfl ?_
        exact J52 h62 x41 x63 hf
      · refine zr_aload_n C dX0_pullAll_30 rfl 1 rfl ?_
        refine zr_gr C hf kg_X0_16 (fun _ _ _ => rfl) dX0_pullAll_31 (fun w66 hf => ?_)
        refine zr_iload_n C dX0_pullAll_34 rfl 4 rfl ?_
        refine zr_iaload C hf dX0_pullAll_35 (fun x67 hf => ?_)
        refine zr_if_le (tgt := 52) C hf dX0_pullAll_36 (by decide) (fun hf => ?_) (fun hf => ?_)
        · refine zsub [1, 2, 3, 4, 0] rfl ?_
          exact J52 h62 x41 x63 hf
        · refine zr_aload_n C dX0_pullAll_39 rfl 1 rfl ?_
          refine zr_gr C hf kg_X0_16 (fun _ _ _ => rfl) dX0_pullAll_40 (fun w68 hf => ?_)
          refine zr_iload_n C dX0_pullAll_43 rfl 4 rfl ?_
          refine zr_dup2 C dX0_pullAll_44 rfl rfl ?_
          refine zr_iaload C hf dX0_pullAll_45 (fun x69 hf => ?_)
          refine zr_iconst (v := 1) C dX0_pullAll_46 (by decide) ?_
          refine zr_isub C hf dX0_pullAll_47 (fun x70 hf => ?_)
          refine zr_iastore C hf dX0_pullAll_48 (fun h71 hf => ?_)
          refine zr_goto (tgt := 89) C dX0_pullAll_49 (by decide) ?_
          refine zsub [1, 2, 3, 4] rfl ?_
          exact J89 h71 x41 hf
  refine zsub [1, 2, 3, 0] rfl ?_
  exact L2 n (h, (0 : Int32)) hf
theorem dX0_doTicks_0 : decode cX0_doTicks 0 = .ok (.iconst 0, 1) := by decide +kernel
theorem dX0_doTicks_1 : decode cX0_doTicks 1 = .ok (.istore 5, 2) := by decide +kernel
theorem dX0_doTicks_3 : decode cX0_doTicks 3 = .ok (.iload 5, 2) := by decide +kernel
theorem dX0_doTicks_5 : decode cX0_doTicks 5 = .ok (.iload 4, 2) := by decide +kernel
theorem dX0_doTicks_7 : decode cX0_doTicks 7 = .ok (.if_icmp .ge 35, 3) := by decide +kernel
theorem dX0_doTicks_10 : decode cX0_doTicks 10 = .ok (.aload_n 0, 1) := by decide +kernel
theorem dX0_doTicks_11 : decode cX0_doTicks 11 = .ok (.aload_n 1, 1) := by decide +kernel
theorem dX0_doTicks_12 : decode cX0_doTicks 12 = .ok (.aload_n 3, 1) := by decide +kernel
theorem dX0_doTicks_13 : decode cX0_doTicks 13 = .ok (.invokevirtual 29, 3) := by decide +kernel
theorem dX0_doTicks_16 : decode cX0_doTicks 16 = .ok (.aload_n 0, 1) := by decide +kernel
theorem dX0_doTicks_17 : decode cX0_doTicks 17 = .ok (.aload_n 1, 1) := by decide +kernel
theorem dX0_doTicks_18 : decode cX0_doTicks 18 = .ok (.aload_n 3, 1) := by decide +kernel
theorem dX0_doTicks_19 : decode cX0_doTicks 19 = .ok (.invokevirtual 33, 3) := by decide +kernel
theorem dX0_doTicks_22 : decode cX0_doTicks 22 = .ok (.invokevirtual 39, 3) := by decide +kernel
theorem dX0_doTicks_25 : decode cX0_doTicks 25 = .ok (.aload_n 0, 1) := by decide +kernel
theorem dX0_doTicks_26 : decode cX0_doTicks 26 = .ok (.aload_n 1, 1) := by decide +kernel
theorem dX0_doTicks_27 : decode cX0_doTicks 27 = .ok (.invokevirtual 43, 3) := by decide +kernel
theorem dX0_doTicks_30 : decode cX0_doTicks 30 = .ok (.aload_n 0, 1) := by decide +kernel
theorem dX0_doTicks_31 : decode cX0_doTicks 31 = .ok (.aload_n 1, 1) := by decide +kernel
theorem dX0_doTicks_32 : decode cX0_doTicks 32 = .ok (.aload_n 2, 1) := by decide +kernel
theorem dX0_doTicks_33 : decode cX0_doTicks 33 = .ok (.invokevirtual 47, 3) := by decide +kernel
theorem dX0_doTicks_36 : decode cX0_doTicks 36 = .ok (.iinc 5 1, 3) := by decide +kernel
theorem dX0_doTicks_39 : decode cX0_doTicks 39 = .ok (.goto (-36), 3) := by decide +kernel
theorem dX0_doTicks_42 : decode cX0_doTicks 42 = .ok (.return_, 1) := by decide +kernel
set_option maxHeartbeats 4000000 in
set_option maxRecDepth 100000 in
theorem c_X0_doTicks (l : Launch) (E : zE) (n : Nat) (h : zH) (a0 : Nat) (p0 : Nat) (p1 : Nat) (p2 : Nat) (p3 : Int32) (res : Unit × zH) (hf : F_X0_doTicks n h a0 p0 p1 p2 p3 = some res) : Met l yX0_doTicks (zw yX0_doTicks cX0_doTicks 6 none) ({ frames := 3, cells := 0, slots := 0, locals := 74 } : Room) (zPc E h [.ref (zB E + a0), .ref (zB E + p0), .ref (zB E + p1), .ref (zB E + p2), .int p3]) (zQc E res.2 none) 0 0 (zfr E) := by
  refine zmet (lo := [(0, .ref (zB E + a0)), (1, .ref (zB E + p0)), (2, .ref (zB E + p1)), (3, .ref (zB E + p2)), (4, .int p3)]) (by decide +kernel) (Nat.le_of_ble_eq_true rfl) rfl ?_
  intro p e s m args below meth c C hr hin
  unfold F_X0_doTicks at hf
  refine zr_iconst (v := 0) C dX0_doTicks_0 (by decide) ?_
  refine zr_istore (lo2 := [(5, .int (0 : Int32)), (0, .ref (zB E + a0)), (1, .ref (zB E + p0)), (2, .ref (zB E + p1)), (3, .ref (zB E + p2)), (4, .int p3)]) C dX0_doTicks_1 (by decide) rfl ?_
  have L3 : ∀ (fu : Nat) (x : zH × Int32), zloop (fun kc x => F_X0_doTicks_B3 n kc x.1 a0 p0 p1 p2 p3 x.2) fu x = some res → zW p l e (headSpec (zw yX0_doTicks cX0_doTicks 6 none) ({ frames := 3, cells := 0, slots := 0, locals := 74 } : Room)).room s m args below meth c E 6 (MQ below (zQc E res.2 none) args s 0 0 (zfr E)) 0 0 3 [(0, .ref (zB E + a0)), (1, .ref (zB E + p0)), (2, .ref (zB E + p1)), (3, .ref (zB E + p2)), (4, .int p3), (5, .int x.2)] [] x.1 := by
    refine z_loop _ ?_
    intro kc3 hk3 x hf
    obtain ⟨h16, x15⟩ := x
    dsimp only at hf ⊢
    unfold F_X0_doTicks_B3 at hf
    refine zr_iload C dX0_doTicks_3 5 rfl ?_
    refine zr_iload C dX0_doTicks_5 4 rfl ?_
    refine zr_icmp_ge (tgt := 42) C hf dX0_doTicks_7 (by decide) (fun hf => ?_) (fun hf => ?_)
    · exact zr_return C hf hr (Nat.le_of_ble_eq_true rfl) (Nat.le_of_ble_eq_true rfl) dX0_doTicks_42
    · refine zr_aload_n C dX0_doTicks_10 rfl 0 rfl ?_
      refine zr_aload_n C dX0_doTicks_11 rfl 1 rfl ?_
      refine zr_aload_n C dX0_doTicks_12 rfl 3 rfl ?_
      refine zr_callVv (As := [.ref (zB E + p0), .ref (zB E + p2)]) (rest := []) C hf (fun x hx => c_X0_move l E n h16 a0 p0 p2 x hx) kv_X0_29 rfl rfl (Nat.le_of_ble_eq_true rfl) ⟨rfl, rfl⟩ ⟨Nat.le_of_ble_eq_true rfl, Nat.le_of_ble_eq_true rfl⟩ ⟨Nat.le_of_ble_eq_true rfl, Nat.le_of_ble_eq_true rfl⟩ dX0_doTicks_13 (fun _ h17 hf => ?_)
      refine zr_aload_n C dX0_doTicks_16 rfl 0 rfl ?_
      refine zr_aload_n C dX0_doTicks_17 rfl 1 rfl ?_
      refine zr_aload_n C dX0_doTicks_18 rfl 3 rfl ?_
      refine zr_callVi (As := []) (rest := [.ref (zB E + p0), .ref (zB E + a0)]) C hf (fun x hx => c_X2_base l E n h17 p2 x hx) kv_X0_33 rfl rfl (Nat.le_of_ble_eq_true rfl) ⟨rfl, rfl⟩ ⟨Nat.le_of_ble_eq_true rfl, Nat.le_of_ble_eq_true rfl⟩ ⟨Nat.le_of_ble_eq_true rfl, Nat.le_of_ble_eq_true rfl⟩ dX0_doTicks_19 (fun x19 h18 hf => ?_)
      refine zr_callVv (As := [.ref (zB E + p0), .int x19]) (rest := []) C hf (fun x hx => c_X0_slow l E n h18 a0 p0 x19 x hx) kv_X0_39 rfl rfl (Nat.le_of_ble_eq_true rfl) ⟨rfl, rfl⟩ ⟨Nat.le_of_ble_eq_true rfl, Nat.le_of_ble_eq_true rfl⟩ ⟨Nat.le_of_ble_eq_true rfl, Nat.le_of_ble_eq_true rfl⟩ dX0_doTicks_22 (fun _ h20 hf => ?_)
      refine zr_aload_n C dX0_doTicks_25 rfl 0 rfl ?_
      refine zr_aload_n C dX0_doTicks_26 rfl 1 rfl ?_
      refine zr_callVv (As := [.ref (zB E + p0)]) (rest := []) C hf (fun x hx => c_X0_blend l E n h20 a0 p0 x hx) kv_X0_43 rfl rfl (Nat.le_of_ble_eq_true rfl) ⟨rfl, rfl⟩ ⟨Nat.le_of_ble_eq_true rfl, Nat.le_of_ble_eq_true rfl⟩ ⟨Nat.le_of_ble_eq_true rfl, Nat.le_of_ble_eq_true rfl⟩ dX0_doTicks_27 (fun _ h21 hf => ?_)
      refine zr_aload_n C dX0_doTicks_30 rfl 0 rfl ?_
      refine zr_aload_n C dX0_doTicks_31 rfl 1 rfl ?_
      refine zr_aload_n C dX0_doTicks_32 rfl 2 rfl ?_
      refine zr_callVv (As := [.ref (zB E + p0), .ref (zB E + p1)]) (rest := []) C hf (fun x hx => c_X0_pullAll l E n h21 a0 p0 p1 x hx) kv_X0_47 rfl rfl (Nat.le_of_ble_eq_true rfl) ⟨rfl, rfl⟩ ⟨Nat.le_of_ble_eq_true rfl, Nat.le_of_ble_eq_true rfl⟩ ⟨Nat.le_of_ble_eq_true rfl, Nat.le_of_ble_eq_true rfl⟩ dX0_doTicks_33 (fun _ h22 hf => ?_)
      refine zr_iinc (v0 := 1) (k := 5) (f := fun v => [(5, .int v), (0, .ref (zB E + a0)), (1, .ref (zB E + p0)), (2, .ref (zB E + p1)), (3, .ref (zB E + p2)), (4, .int p3)]) C hf (by decide) dX0_doTicks_36 rfl (by decide) (fun v => rfl) (fun x23 hf => ?_)
      refine zr_goto (tgt := 3) C dX0_doTicks_39 (by decide) ?_
      refine zsub [1, 2, 3, 4, 5, 0] rfl ?_
      exact hk3 (h22, x23) hf
  refine zsub [1, 2, 3, 4, 5, 0] rfl ?_
  exact L3 n (h, (0 : Int32)) hf
theorem dX10_ticks_0 : decode cX10_ticks 0 = .ok (.iload_n 1, 1) := by decide +kernel
theorem dX10_ticks_1 : decode cX10_ticks 1 = .ok (.iconst (-1), 1) := by decide +kernel
theorem dX10_ticks_2 : decode cX10_ticks 2 = .ok (.if_icmp .eq 14, 3) := by decide +kernel
theorem dX10_ticks_5 : decode cX10_ticks 5 = .ok (.aload_n 0, 1) := by decide +kernel
theorem dX10_ticks_6 : decode cX10_ticks 6 = .ok (.iload_n 1, 1) := by decide +kernel
theorem dX10_ticks_7 : decode cX10_ticks 7 = .ok (.invokevirtual 159, 3) := by decide +kernel
theorem dX10_ticks_10 : decode cX10_ticks 10 = .ok (.ifCond .ne 6, 3) := by decide +kernel
theorem dX10_ticks_13 : decode cX10_ticks 13 = .ok (.bipush (-101), 2) := by decide +kernel
theorem dX10_ticks_15 : decode cX10_ticks 15 = .ok (.ireturn, 1) := by decide +kernel
theorem dX10_ticks_16 : decode cX10_ticks 16 = .ok (.aload_n 0, 1) := by decide +kernel
theorem dX10_ticks_17 : decode cX10_ticks 17 = .ok (.invokevirtual 144, 3) := by decide +kernel
theorem dX10_ticks_20 : decode cX10_ticks 20 = .ok (.ifCond .ne 6, 3) := by decide +kernel
theorem dX10_ticks_23 : decode cX10_ticks 23 = .ok (.bipush (-103), 2) := by decide +kernel
theorem dX10_ticks_25 : decode cX10_ticks 25 = .ok (.ireturn, 1) := by decide +kernel
theorem dX10_ticks_26 : decode cX10_ticks 26 = .ok (.iload_n 2, 1) := by decide +kernel
theorem dX10_ticks_27 : decode cX10_ticks 27 = .ok (.iconst 1, 1) := by decide +kernel
theorem dX10_ticks_28 : decode cX10_ticks 28 = .ok (.bipush 100, 2) := by decide +kernel
theorem dX10_ticks_30 : decode cX10_ticks 30 = .ok (.invokestatic 148, 3) := by decide +kernel
theorem dX10_ticks_33 : decode cX10_ticks 33 = .ok (.ifCond .ne 6, 3) := by decide +kernel
theorem dX10_ticks_36 : decode cX10_ticks 36 = .ok (.bipush (-102), 2) := by decide +kernel
theorem dX10_ticks_38 : decode cX10_ticks 38 = .ok (.ireturn, 1) := by decide +kernel
theorem dX10_ticks_39 : decode cX10_ticks 39 = .ok (.aload_n 0, 1) := by decide +kernel
theorem dX10_ticks_40 : decode cX10_ticks 40 = .ok (.getfield 89, 3) := by decide +kernel
theorem dX10_ticks_43 : decode cX10_ticks 43 = .ok (.aload_n 0, 1) := by decide +kernel
theorem dX10_ticks_44 : decode cX10_ticks 44 = .ok (.getfield 85, 3) := by decide +kernel
theorem dX10_ticks_47 : decode cX10_ticks 47 = .ok (.aload_n 0, 1) := by decide +kernel
theorem dX10_ticks_48 : decode cX10_ticks 48 = .ok (.getfield 75, 3) := by decide +kernel
theorem dX10_ticks_51 : decode cX10_ticks 51 = .ok (.getfield 197, 3) := by decide +kernel
theorem dX10_ticks_54 : decode cX10_ticks 54 = .ok (.invokevirtual 200, 3) := by decide +kernel
theorem dX10_ticks_57 : decode cX10_ticks 57 = .ok (.aload_n 0, 1) := by decide +kernel
theorem dX10_ticks_58 : decode cX10_ticks 58 = .ok (.getfield 85, 3) := by decide +kernel
theorem dX10_ticks_61 : decode cX10_ticks 61 = .ok (.aload_n 0, 1) := by decide +kernel
theorem dX10_ticks_62 : decode cX10_ticks 62 = .ok (.getfield 36, 3) := by decide +kernel
theorem dX10_ticks_65 : decode cX10_ticks 65 = .ok (.aload_n 0, 1) := by decide +kernel
theorem dX10_ticks_66 : decode cX10_ticks 66 = .ok (.getfield 75, 3) := by decide +kernel
theorem dX10_ticks_69 : decode cX10_ticks 69 = .ok (.aload_n 0, 1) := by decide +kernel
theorem dX10_ticks_70 : decode cX10_ticks 70 = .ok (.iload_n 1, 1) := by decide +kernel
theorem dX10_ticks_71 : decode cX10_ticks 71 = .ok (.invokevirtual 163, 3) := by decide +kernel
theorem dX10_ticks_74 : decode cX10_ticks 74 = .ok (.iload_n 2, 1) := by decide +kernel
theorem dX10_ticks_75 : decode cX10_ticks 75 = .ok (.invokevirtual 204, 3) := by decide +kernel
theorem dX10_ticks_78 : decode cX10_ticks 78 = .ok (.iconst 0, 1) := by decide +kernel
theorem dX10_ticks_79 : decode cX10_ticks 79 = .ok (.istore_n 3, 1) := by decide +kernel
theorem dX10_ticks_80 : decode cX10_ticks 80 = .ok (.iconst 0, 1) := by decide +kernel
theorem dX10_ticks_81 : decode cX10_ticks 81 = .ok (.istore 4, 2) := by decide +kernel
theorem dX10_ticks_83 : decode cX10_ticks 83 = .ok (.iload 4, 2) := by decide +kernel
theorem dX10_ticks_85 : decode cX10_ticks 85 = .ok (.aload_n 0, 1) := by decide +kernel
theorem dX10_ticks_86 : decode cX10_ticks 86 = .ok (.getfield 75, 3) := by decide +kernel
theorem dX10_ticks_89 : decode cX10_ticks 89 = .ok (.getfield 197, 3) := by decide +kernel
theorem dX10_ticks_92 : decode cX10_ticks 92 = .ok (.if_icmp .ge 40, 3) := by decide +kernel
theorem dX10_ticks_95 : decode cX10_ticks 95 = .ok (.iload_n 3, 1) := by decide +kernel
theorem dX10_ticks_96 : decode cX10_ticks 96 = .ok (.aload_n 0, 1) := by decide +kernel
theorem dX10_ticks_97 : decode cX10_ticks 97 = .ok (.getfield 85, 3) := by decide +kernel
theorem dX10_ticks_100 : decode cX10_ticks 100 = .ok (.getfield 180, 3) := by decide +kernel
theorem dX10_ticks_103 : decode cX10_ticks 103 = .ok (.iload 4, 2) := by decide +kernel
theorem dX10_ticks_105 : decode cX10_ticks 105 = .ok (.iaload, 1) := by decide +kernel
theorem dX10_ticks_106 : decode cX10_ticks 106 = .ok (.aload_n 0, 1) := by decide +kernel
theorem dX10_ticks_107 : decode cX10_ticks 107 = .ok (.getfield 89, 3) := by decide +kernel
theorem dX10_ticks_110 : decode cX10_ticks 110 = .ok (.getfield 180, 3) := by decide +kernel
theorem dX10_ticks_113 : decode cX10_ticks 113 = .ok (.iload 4, 2) := by decide +kernel
theorem dX10_ticks_115 : decode cX10_ticks 115 = .ok (.iaload, 1) := by decide +kernel
theorem dX10_ticks_116 : decode cX10_ticks 116 = .ok (.if_icmp .eq 7, 3) := by decide +kernel
theorem dX10_ticks_119 : decode cX10_ticks 119 = .ok (.iconst 1, 1) := by decide +kernel
theorem dX10_ticks_120 : decode cX10_ticks 120 = .ok (.goto 4, 3) := by decide +kernel
theorem dX10_ticks_123 : decode cX10_ticks 123 = .ok (.iconst 0, 1) := by decide +kernel
theorem dX10_ticks_124 : decode cX10_ticks 124 = .ok (.iadd, 1) := by decide +kernel
theorem dX10_ticks_125 : decode cX10_ticks 125 = .ok (.istore_n 3, 1) := by decide +kernel
theorem dX10_ticks_126 : decode cX10_ticks 126 = .ok (.iinc 4 1, 3) := by decide +kernel
theorem dX10_ticks_129 : decode cX10_ticks 129 = .ok (.goto (-46), 3) := by decide +kernel
theorem dX10_ticks_132 : decode cX10_ticks 132 = .ok (.iload_n 3, 1) := by decide +kernel
theorem dX10_ticks_133 : decode cX10_ticks 133 = .ok (.ireturn, 1) := by decide +kernel
set_option maxHeartbeats 4000000 in
set_option maxRecDepth 100000 in
theorem c_X10_ticks (l : Launch) (E : zE) (n : Nat) (h : zH) (a0 : Nat) (p0 : Int32) (p1 : Int32) (res : Int32 × zH) (hf : F_X10_ticks n h a0 p0 p1 = some res) : Met l yX10_ticks (zw yX10_ticks cX10_ticks 5 (some .int)) ({ frames := 4, cells := 0, slots := 0, locals := 99 } : Room) (zPc E h [.ref (zB E + a0), .int p0, .int p1]) (zQc E res.2 (some (.int res.1))) 0 0 (zfr E) := by
  refine zmet (lo := [(0, .ref (zB E + a0)), (1, .int p0), (2, .int p1)]) (by decide +kernel) (Nat.le_of_ble_eq_true rfl) rfl ?_
  intro p e s m args below meth c C hr hin
  unfold F_X10_ticks at hf
  have J16 : ∀ (h59 : zH) (w56 : Nat) (x57 : Int32) (x58 : Int32), F_X10_ticks_J16 n h59 w56 x57 x58 = some res → zW p l e (headSpec (zw yX10_ticks cX10_ticks 5 (some .int)) ({ frames := 4, cells := 0, slots := 0, locals := 99 } : Room)).room s m args below meth c E 5 (MQ below (zQc E res.2 (some (.int res.1))) args s 0 0 (zfr E)) 0 0 16 [(0, .ref (zB E + w56)), (1, .int x57), (2, .int x58)] [] h59 := by
    intro h59 w56 x57 x58 hf
    unfold F_X10_ticks_J16 at hf
    refine zr_aload_n C dX10_ticks_16 rfl 0 rfl ?_
    refine zr_callVi (As := []) (rest := []) C hf (fun x hx => c_X10_hasCup l E n h59 w56 x hx) kv_X10_144 rfl rfl (Nat.le_of_ble_eq_true rfl) ⟨rfl, rfl⟩ ⟨Nat.le_of_ble_eq_true rfl, Nat.le_of_ble_eq_true rfl⟩ ⟨Nat.le_of_ble_eq_true rfl, Nat.le_of_ble_eq_true rfl⟩ dX10_ticks_17 (fun x61 h60 hf => ?_)
    refine zr_if_ne (tgt := 26) C hf dX10_ticks_20 (by decide) (fun hf => ?_) (fun hf => ?_)
    · refine zr_iload_n C dX10_ticks_26 rfl 2 rfl ?_
      refine zr_iconst (v := 1) C dX10_ticks_27 (by decide) ?_
      refine zr_bipush (v := 100) C dX10_ticks_28 (by decide) ?_
      refine zr_callSi (As := [.int x58, .int (1 : Int32), .int (100 : Int32)]) (rest := []) C hf (fun x hx => c_X10_isWithin l E n h60 x58 (1 : Int32) (100 : Int32) x hx) ks_X10_148 rfl rfl (Nat.le_of_ble_eq_true rfl) ⟨rfl, rfl⟩ ⟨Nat.le_of_ble_eq_true rfl, Nat.le_of_ble_eq_true rfl⟩ ⟨Nat.le_of_ble_eq_true rfl, Nat.le_of_ble_eq_true rfl⟩ dX10_ticks_30 (fun x63 h62 hf => ?_)
      refine zr_if_ne (tgt := 39) C hf dX10_ticks_33 (by decide) (fun hf => ?_) (fun hf => ?_)
      · refine zr_aload_n C dX10_ticks_39 rfl 0 rfl ?_
        refine zr_gr C hf kg_X10_89 (fun _ _ _ => rfl) dX10_ticks_40 (fun w64 hf => ?_)
        refine zr_aload_n C dX10_ticks_43 rfl 0 rfl ?_
        refine zr_gr C hf kg_X10_85 (fun _ _ _ => rfl) dX10_ticks_44 (fun w65 hf => ?_)
        refine zr_aload_n C dX10_ticks_47 rfl 0 rfl ?_
        refine zr_gr C hf kg_X10_75 (fun _ _ _ => rfl) dX10_ticks_48 (fun w66 hf => ?_)
        refine zr_gi C hf kg_X10_197 (fun _ _ _ => rfl) dX10_ticks_51 (fun x67 hf => ?_)
        refine zr_callVv (As := [.ref (zB E + w65), .int x67]) (rest := []) C hf (fun x hx => c_X0_copyFrom l E n h62 w64 w65 x67 x hx) kv_X10_200 rfl rfl (Nat.le_of_ble_eq_true rfl) ⟨rfl, rfl⟩ ⟨Nat.le_of_ble_eq_true rfl, Nat.le_of_ble_eq_true rfl⟩ ⟨Nat.le_of_ble_eq_true rfl, Nat.le_of_ble_eq_true rfl⟩ dX10_ticks_54 (fun _ h68 hf => ?_)
        refine zr_aload_n C dX10_ticks_57 rfl 0 rfl ?_
        refine zr_gr C hf kg_X10_85 (fun _ _ _ => rfl) dX10_ticks_58 (fun w69 hf => ?_)
        refine zr_aload_n C dX10_ticks_61 rfl 0 rfl ?_
        refine zr_gr C hf kg_X10_36 (fun _ _ _ => rfl) dX10_ticks_62 (fun w70 hf => ?_)
        refine zr_aload_n C dX10_ticks_65 rfl 0 rfl ?_
        refine zr_gr C hf kg_X10_75 (fun _ _ _ => rfl) dX10_ticks_66 (fun w71 hf => ?_)
        refine zr_aload_n C dX10_ticks_69 rfl 0 rfl ?_
        refine zr_iload_n C dX10_ticks_70 rfl 1 rfl ?_
        refine zr_callVr (As := [.int x57]) (rest := [.ref (zB E + w71), .ref (zB E + w70), .ref (zB E + w69)]) C hf (fun x hx => c_X10_doingOrRest l E n h68 w56 x57 x hx) kv_X10_163 rfl rfl (Nat.le_of_ble_eq_true rfl) ⟨rfl, rfl⟩ ⟨Nat.le_of_ble_eq_true rfl, Nat.le_of_ble_eq_true rfl⟩ ⟨Nat.le_of_ble_eq_true rfl, Nat.le_of_ble_eq_true rfl⟩ dX10_ticks_71 (fun w73 h72 hf => ?_)
        refine zr_iload_n C dX10_ticks_74 rfl 2 rfl ?_
        refine zr_callVv (As := [.ref (zB E + w70), .ref (zB E + w71), .ref (zB E + w73), .int x58]) (rest := []) C hf (fun x hx => c_X0_doTicks l E n h72 w69 w70 w71 w73 x58 x hx) kv_X10_204 rfl rfl (Nat.le_of_ble_eq_true rfl) ⟨rfl, rfl⟩ ⟨Nat.le_of_ble_eq_true rfl, Nat.le_of_ble_eq_true rfl⟩ ⟨Nat.le_of_ble_eq_true rfl, Nat.le_of_ble_eq_true rfl⟩ dX10_ticks_75 (fun _ h74 hf => ?_)
        refine zr_iconst (v := 0) C dX10_ticks_78 (by decide) ?_
        refine zr_istore_n (lo2 := [(3, .int (0 : Int32)), (0, .ref (zB E + w56)), (1, .int x57), (2, .int x58)]) C dX10_ticks_79 rfl (by decide) rfl ?_
        refine zr_iconst (v := 0) C dX10_ticks_80 (by decide) ?_
        refine zr_istore (lo2 := [(4, .int (0 : Int32)), (3, .int (0 : Int32)), (0, .ref (zB E + w56)), (1, .int x57), (2, .int x58)]) C dX10_ticks_81 (by decide) rfl ?_
        have L83 : ∀ (fu : Nat) (x : zH × Int32 × Int32), zloop (fun kc x => F_X10_ticks_B83 n kc x.1 w56 x.2.1 x.2.2) fu x = some res → zW p l e (headSpec (zw yX10_ticks cX10_ticks 5 (some .int)) ({ frames := 4, cells := 0, slots := 0, locals := 99 } : Room)).room s m args below meth c E 5 (MQ below (zQc E res.2 (some (.int res.1))) args s 0 0 (zfr E)) 0 0 83 [(0, .ref (zB E + w56)), (3, .int x.2.1), (4, .int x.2.2)] [] x.1 := by
          refine z_loop _ ?_
          intro kc83 hk83 x hf
          obtain ⟨h77, x75, x76⟩ := x
          dsimp only at hf ⊢
          unfold F_X10_ticks_B83 at hf
          have J124 : ∀ (h81 : zH) (x78 : Int32) (x79 : Int32) (x80 : Int32), F_X10_ticks_J124 n kc83 h81 w56 x78 x79 x80 = some res → zW p l e (headSpec (zw yX10_ticks cX10_ticks 5 (some .int)) ({ frames := 4, cells := 0, slots := 0, locals := 99 } : Room)).room s m args below meth c E 5 (MQ below (zQc E res.2 (some (.int res.1))) args s 0 0 (zfr E)) 0 0 124 [(0, .ref (zB E + w56)), (4, .int x78)] [.int x80, .int x79] h81 := by
            intro h81 x78 x79 x80 hf
            unfold F_X10_ticks_J124 at hf
            refine zr_iadd C hf dX10_ticks_124 (fun x82 hf => ?_)
            refine zr_istore_n (lo2 := [(3, .int x82), (0, .ref (zB E + w56)), (4, .int x78)]) C dX10_ticks_125 rfl (by decide) rfl ?_
            refine zr_iinc (v0 := 1) (k := 2) (f := fun v => [(4, .int v), (3, .int x82), (0, .ref (zB E + w56))]) C hf (by decide) dX10_ticks_126 rfl (by decide) (fun v => rfl) (fun x83 hf => ?_)
            refine zr_goto (tgt := 83) C dX10_ticks_129 (by decide) ?_
            refine zsub [2, 1, 0] rfl ?_
            exact hk83 (h81, x82, x83) hf
          refine zr_iload C dX10_ticks_83 2 rfl ?_
          refine zr_aload_n C dX10_ticks_85 rfl 0 rfl ?_
          refine zr_gr C hf kg_X10_75 (fun _ _ _ => rfl) dX10_ticks_86 (fun w84 hf => ?_)
          refine zr_gi C hf kg_X10_197 (fun _ _ _ => rfl) dX10_ticks_89 (fun x85 hf => ?_)
          refine zr_icmp_ge (tgt := 132) C hf dX10_ticks_92 (by decide) (fun hf => ?_) (fun hf => ?_)
          · refine zr_iload_n C dX10_ticks_132 rfl 1 rfl ?_
            exact zr_ireturn C hf hr (Nat.le_of_ble_eq_true rfl) (Nat.le_of_ble_eq_true rfl) dX10_ticks_133
          · refine zr_iload_n C dX10_ticks_95 rfl 1 rfl ?_
            refine zr_aload_n C dX10_ticks_96 rfl 0 rfl ?_
            refine zr_gr C hf kg_X10_85 (fun _ _ _ => rfl) dX10_ticks_97 (fun w86 hf => ?_)
            refine zr_gr C hf kg_X10_180 (fun _ _ _ => rfl) dX10_ticks_100 (fun w87 hf => ?_)
            refine zr_iload C dX10_ticks_103 2 rfl ?_
            refine zr_iaload C hf dX10_ticks_105 (fun x88 hf => ?_)
            refine zr_aload_n C dX10_ticks_106 rfl 0 rfl ?_
            refine zr_gr C hf kg_X10_89 (fun _ _ _ => rfl) dX10_ticks_107 (fun w89 hf => ?_)
            refine zr_gr C hf kg_X10_180 (fun _ _ _ => rfl) dX10_ticks_110 (fun w90 hf => ?_)
            refine zr_iload C dX10_ticks_113 2 rfl ?_
            refine zr_iaload C hf dX10_ticks_115 (fun x91 hf => ?_)
            refine zr_icmp_eq (tgt := 123) C hf dX10_ticks_116 (by decide) (fun hf => ?_) (fun hf => ?_)
            · refine zr_iconst (v := 0) C dX10_ticks_123 (by decide) ?_
              refine zsub [0, 2] rfl ?_
              exact J124 h77 x76 x75 (0 : Int32) hf
            · refine zr_iconst (v := 1) C dX10_ticks_119 (by decide) ?_
              refine zr_goto (tgt := 124) C dX10_ticks_120 (by decide) ?_
              refine zsub [0, 2] rfl ?_
              exact J124 h77 x76 x75 (1 : Int32) hf
        refine zsub [2, 1, 0] rfl ?_
        exact L83 n (h74, (0 : Int32), (0 : Int32)) hf
      · refine zr_bipush (v := -102) C dX10_ticks_36 (by decide) ?_
        exact zr_ireturn C hf hr (Nat.le_of_ble_eq_true rfl) (Nat.le_of_ble_eq_true rfl) dX10_ticks_38
    · refine zr_bipush (v := -103) C dX10_ticks_23 (by decide) ?_
      exact zr_ireturn C hf hr (Nat.le_of_ble_eq_true rfl) (Nat.le_of_ble_eq_true rfl) dX10_ticks_25
  refine zr_iload_n C dX10_ticks_0 rfl 1 rfl ?_
  refine zr_iconst (v := -1) C dX10_ticks_1 (by decide) ?_
  refine zr_icmp_eq (tgt := 16) C hf dX10_ticks_2 (by decide) (fun hf => ?_) (fun hf => ?_)
  · exact J16 h a0 p0 p1 hf
  · refine zr_aload_n C dX10_ticks_5 rfl 0 rfl ?_
    refine zr_iload_n C dX10_ticks_6 rfl 1 rfl ?_
    refine zr_callVi (As := [.int p0]) (rest := []) C hf (fun x hx => c_X10_hasDoing l E n h a0 p0 x hx) kv_X10_159 rfl rfl (Nat.le_of_ble_eq_true rfl) ⟨rfl, rfl⟩ ⟨Nat.le_of_ble_eq_true rfl, Nat.le_of_ble_eq_true rfl⟩ ⟨Nat.le_of_ble_eq_true rfl, Nat.le_of_ble_eq_true rfl⟩ dX10_ticks_7 (fun x93 h92 hf => ?_)
    refine zr_if_ne (tgt := 16) C hf dX10_ticks_10 (by decide) (fun hf => ?_) (fun hf => ?_)
    · exact J16 h92 a0 p0 p1 hf
    · refine zr_bipush (v := -101) C dX10_ticks_13 (by decide) ?_
      exact zr_ireturn C hf hr (Nat.le_of_ble_eq_true rfl) (Nat.le_of_ble_eq_true rfl) dX10_ticks_15
theorem dX10_still_0 : decode cX10_still 0 = .ok (.aload_n 0, 1) := by decide +kernel
theorem dX10_still_1 : decode cX10_still 1 = .ok (.invokevirtual 144, 3) := by decide +kernel
theorem dX10_still_4 : decode cX10_still 4 = .ok (.ifCond .ne 6, 3) := by decide +kernel
theorem dX10_still_7 : decode cX10_still 7 = .ok (.bipush (-103), 2) := by decide +kernel
theorem dX10_still_9 : decode cX10_still 9 = .ok (.ireturn, 1) := by decide +kernel
theorem dX10_still_10 : decode cX10_still 10 = .ok (.aload_n 0, 1) := by decide +kernel
theorem dX10_still_11 : decode cX10_still 11 = .ok (.getfield 85, 3) := by decide +kernel
theorem dX10_still_14 : decode cX10_still 14 = .ok (.aload_n 0, 1) := by decide +kernel
theorem dX10_still_15 : decode cX10_still 15 = .ok (.getfield 75, 3) := by decide +kernel
theorem dX10_still_18 : decode cX10_still 18 = .ok (.invokevirtual 131, 3) := by decide +kernel
theorem dX10_still_21 : decode cX10_still 21 = .ok (.iconst 1, 1) := by decide +kernel
theorem dX10_still_22 : decode cX10_still 22 = .ok (.ireturn, 1) := by decide +kernel
set_option maxHeartbeats 4000000 in
set_option maxRecDepth 100000 in
theorem c_X10_still (l : Launch) (E : zE) (n : Nat) (h : zH) (a0 : Nat) (res : Int32 × zH) (hf : F_X10_still n h a0 = some res) : Met l yX10_still (zw yX10_still cX10_still 1 (some .int)) ({ frames := 2, cells := 0, slots := 0, locals := 40 } : Room) (zPc E h [.ref (zB E + a0)]) (zQc E res.2 (some (.int res.1))) 0 0 (zfr E) := by
  refine zmet (lo := [(0, .ref (zB E + a0))]) (by decide +kernel) (Nat.le_of_ble_eq_true rfl) rfl ?_
  intro p e s m args below meth c C hr hin
  unfold F_X10_still at hf
  refine zr_aload_n C dX10_still_0 rfl 0 rfl ?_
  refine zr_callVi (As := []) (rest := []) C hf (fun x hx => c_X10_hasCup l E n h a0 x hx) kv_X10_144 rfl rfl (Nat.le_of_ble_eq_true rfl) ⟨rfl, rfl⟩ ⟨Nat.le_of_ble_eq_true rfl, Nat.le_of_ble_eq_true rfl⟩ ⟨Nat.le_of_ble_eq_true rfl, Nat.le_of_ble_eq_true rfl⟩ dX10_still_1 (fun x2 h1 hf => ?_)
  refine zr_if_ne (tgt := 10) C hf dX10_still_4 (by decide) (fun hf => ?_) (fun hf => ?_)
  · refine zr_aload_n C dX10_still_10 rfl 0 rfl ?_
    refine zr_gr C hf kg_X10_85 (fun _ _ _ => rfl) dX10_still_11 (fun w3 hf => ?_)
    refine zr_aload_n C dX10_still_14 rfl 0 rfl ?_
    refine zr_gr C hf kg_X10_75 (fun _ _ _ => rfl) dX10_still_15 (fun w4 hf => ?_)
    refine zr_callVv (As := [.ref (zB E + w4)]) (rest := []) C hf (fun x hx => c_X0_calm l E n h1 w3 w4 x hx) kv_X10_131 rfl rfl (Nat.le_of_ble_eq_true rfl) ⟨rfl, rfl⟩ ⟨Nat.le_of_ble_eq_true rfl, Nat.le_of_ble_eq_true rfl⟩ ⟨Nat.le_of_ble_eq_true rfl, Nat.le_of_ble_eq_true rfl⟩ dX10_still_18 (fun _ h5 hf => ?_)
    refine zr_iconst (v := 1) C dX10_still_21 (by decide) ?_
    exact zr_ireturn C hf hr (Nat.le_of_ble_eq_true rfl) (Nat.le_of_ble_eq_true rfl) dX10_still_22
  · refine zr_bipush (v := -103) C dX10_still_7 (by decide) ?_
    exact zr_ireturn C hf hr (Nat.le_of_ble_eq_true rfl) (Nat.le_of_ble_eq_true rfl) dX10_still_9
theorem dX1_hasHeight_0 : decode cX1_hasHeight 0 = .ok (.iload_n 1, 1) := by decide +kernel
theorem dX1_hasHeight_1 : decode cX1_hasHeight 1 = .ok (.ifCond .lt 17, 3) := by decide +kernel
theorem dX1_hasHeight_4 : decode cX1_hasHeight 4 = .ok (.iload_n 1, 1) := by decide +kernel
theorem dX1_hasHeight_5 : decode cX1_hasHeight 5 = .ok (.aload_n 0, 1) := by decide +kernel
theorem dX1_hasHeight_6 : decode cX1_hasHeight 6 = .ok (.getfield 9, 3) := by decide +kernel
theorem dX1_hasHeight_9 : decode cX1_hasHeight 9 = .ok (.iconst 1, 1) := by decide +kernel
theorem dX1_hasHeight_10 : decode cX1_hasHeight 10 = .ok (.iaload, 1) := by decide +kernel
theorem dX1_hasHeight_11 : decode cX1_hasHeight 11 = .ok (.if_icmp .ge 7, 3) := by decide +kernel
theorem dX1_hasHeight_14 : decode cX1_hasHeight 14 = .ok (.iconst 1, 1) := by decide +kernel
theorem dX1_hasHeight_15 : decode cX1_hasHeight 15 = .ok (.goto 4, 3) := by decide +kernel
theorem dX1_hasHeight_18 : decode cX1_hasHeight 18 = .ok (.iconst 0, 1) := by decide +kernel
theorem dX1_hasHeight_19 : decode cX1_hasHeight 19 = .ok (.ireturn, 1) := by decide +kernel
set_option maxHeartbeats 4000000 in
set_option maxRecDepth 100000 in
theorem c_X1_hasHeight (l : Launch) (E : zE) (n : Nat) (h : zH) (a0 : Nat) (p0 : Int32) (res : Int32 × zH) (hf : F_X1_hasHeight n h a0 p0 = some res) : Met l yX1_hasHeight (zw yX1_hasHeight cX1_hasHeight 2 (some .boolean)) ({ frames := 0, cells := 0, slots := 0, locals := 0 } : Room) (zPc E h [.ref (zB E + a0), .int p0]) (zQc E res.2 (some (.int res.1))) 0 0 (zfr E) := by
  refine zmet (lo := [(0, .ref (zB E + a0)), (1, .int p0)]) (by decide +kernel) (Nat.le_of_ble_eq_true rfl) rfl ?_
  intro p e s m args below meth c C hr hin
  unfold F_X1_hasHeight at hf
  have J19 : ∀ (h4 : zH) (x3 : Int32), F_X1_hasHeight_J19 n h4 x3 = some res → zW p l e (headSpec (zw yX1_hasHeight cX1_hasHeight 2 (some .boolean)) ({ frames := 0, cells := 0, slots := 0, locals := 0 } : Room)).room s m args below meth c E 2 (MQ below (zQc E res.2 (some (.int res.1))) args s 0 0 (zfr E)) 0 0 19 [] [.int x3] h4 := by
    intro h4 x3 hf
    unfold F_X1_hasHeight_J19 at hf
    exact zr_zreturn C hf hr (Nat.le_of_ble_eq_true rfl) (Nat.le_of_ble_eq_true rfl) dX1_hasHeight_19
  have J18 : ∀ (h6 : zH), F_X1_hasHeight_J18 n h6 = some res → zW p l e (headSpec (zw yX1_hasHeight cX1_hasHeight 2 (some .boolean)) ({ frames := 0, cells := 0, slots := 0, locals := 0 } : Room)).room s m args below meth c E 2 (MQ below (zQc E res.2 (some (.int res.1))) args s 0 0 (zfr E)) 0 0 18 [] [] h6 := by
    intro h6 hf
    unfold F_X1_hasHeight_J18 at hf
    refine zr_iconst (v := 0) C dX1_hasHeight_18 (by decide) ?_
    exact J19 h6 (0 : Int32) hf
  refine zr_iload_n C dX1_hasHeight_0 rfl 1 rfl ?_
  refine zr_if_lt (tgt := 18) C hf dX1_hasHeight_1 (by decide) (fun hf => ?_) (fun hf => ?_)
  · refine zsub [] rfl ?_
    exact J18 h hf
  · refine zr_iload_n C dX1_hasHeight_4 rfl 1 rfl ?_
    refine zr_aload_n C dX1_hasHeight_5 rfl 0 rfl ?_
    refine zr_gr C hf kg_X1_9 (fun _ _ _ => rfl) dX1_hasHeight_6 (fun w7 hf => ?_)
    refine zr_iconst (v := 1) C dX1_hasHeight_9 (by decide) ?_
    refine zr_iaload C hf dX1_hasHeight_10 (fun x8 hf => ?_)
    refine zr_icmp_ge (tgt := 18) C hf dX1_hasHeight_11 (by decide) (fun hf => ?_) (fun hf => ?_)
    · refine zsub [] rfl ?_
      exact J18 h hf
    · refine zr_iconst (v := 1) C dX1_hasHeight_14 (by decide) ?_
      refine zr_goto (tgt := 19) C dX1_hasHeight_15 (by decide) ?_
      refine zsub [] rfl ?_
      exact J19 h (1 : Int32) hf
theorem dX10_round_0 : decode cX10_round 0 = .ok (.aload_n 0, 1) := by decide +kernel
theorem dX10_round_1 : decode cX10_round 1 = .ok (.getfield 36, 3) := by decide +kernel
theorem dX10_round_4 : decode cX10_round 4 = .ok (.iload_n 1, 1) := by decide +kernel
theorem dX10_round_5 : decode cX10_round 5 = .ok (.invokevirtual 170, 3) := by decide +kernel
theorem dX10_round_8 : decode cX10_round 8 = .ok (.ifCond .eq 14, 3) := by decide +kernel
theorem dX10_round_11 : decode cX10_round 11 = .ok (.aload_n 0, 1) := by decide +kernel
theorem dX10_round_12 : decode cX10_round 12 = .ok (.getfield 36, 3) := by decide +kernel
theorem dX10_round_15 : decode cX10_round 15 = .ok (.iload_n 2, 1) := by decide +kernel
theorem dX10_round_16 : decode cX10_round 16 = .ok (.invokevirtual 208, 3) := by decide +kernel
theorem dX10_round_19 : decode cX10_round 19 = .ok (.ifCond .ne 7, 3) := by decide +kernel
theorem dX10_round_22 : decode cX10_round 22 = .ok (.sipush (-1001), 3) := by decide +kernel
theorem dX10_round_25 : decode cX10_round 25 = .ok (.ireturn, 1) := by decide +kernel
theorem dX10_round_26 : decode cX10_round 26 = .ok (.aload_n 0, 1) := by decide +kernel
theorem dX10_round_27 : decode cX10_round 27 = .ok (.getfield 85, 3) := by decide +kernel
theorem dX10_round_30 : decode cX10_round 30 = .ok (.getfield 211, 3) := by decide +kernel
theorem dX10_round_33 : decode cX10_round 33 = .ok (.iload_n 1, 1) := by decide +kernel
theorem dX10_round_34 : decode cX10_round 34 = .ok (.aaload, 1) := by decide +kernel
theorem dX10_round_35 : decode cX10_round 35 = .ok (.iload_n 2, 1) := by decide +kernel
theorem dX10_round_36 : decode cX10_round 36 = .ok (.iaload, 1) := by decide +kernel
theorem dX10_round_37 : decode cX10_round 37 = .ok (.ireturn, 1) := by decide +kernel
set_option maxHeartbeats 4000000 in
set_option maxRecDepth 100000 in
theorem c_X10_round (l : Launch) (E : zE) (n : Nat) (h : zH) (a0 : Nat) (p0 : Int32) (p1 : Int32) (res : Int32 × zH) (hf : F_X10_round n h a0 p0 p1 = some res) : Met l yX10_round (zw yX10_round cX10_round 3 (some .int)) ({ frames := 1, cells := 0, slots := 0, locals := 21 } : Room) (zPc E h [.ref (zB E + a0), .int p0, .int p1]) (zQc E res.2 (some (.int res.1))) 0 0 (zfr E) := by
  refine zmet (lo := [(0, .ref (zB E + a0)), (1, .int p0), (2, .int p1)]) (by decide +kernel) (Nat.le_of_ble_eq_true rfl) rfl ?_
  intro p e s m args below meth c C hr hin
  unfold F_X10_round at hf
  have J22 : ∀ (h2 : zH), F_X10_round_J22 n h2 = some res → zW p l e (headSpec (zw yX10_round cX10_round 3 (some .int)) ({ frames := 1, cells := 0, slots := 0, locals := 21 } : Room)).room s m args below meth c E 3 (MQ below (zQc E res.2 (some (.int res.1))) args s 0 0 (zfr E)) 0 0 22 [] [] h2 := by
    intro h2 hf
    unfold F_X10_round_J22 at hf
    refine zr_sipush (v := -1001) C dX10_round_22 (by decide) ?_
    exact zr_ireturn C hf hr (Nat.le_of_ble_eq_true rfl) (Nat.le_of_ble_eq_true rfl) dX10_round_25
  refine zr_aload_n C dX10_round_0 rfl 0 rfl ?_
  refine zr_gr C hf kg_X10_36 (fun _ _ _ => rfl) dX10_round_1 (fun w3 hf => ?_)
  refine zr_iload_n C dX10_round_4 rfl 1 rfl ?_
  refine zr_callVi (As := [.int p0]) (rest := []) C hf (fun x hx => c_X1_hasRing l E n h w3 p0 x hx) kv_X10_170 rfl rfl (Nat.le_of_ble_eq_true rfl) ⟨rfl, rfl⟩ ⟨Nat.le_of_ble_eq_true rfl, Nat.le_of_ble_eq_true rfl⟩ ⟨Nat.le_of_ble_eq_true rfl, Nat.le_of_ble_eq_true rfl⟩ dX10_round_5 (fun x5 h4 hf => ?_)
  refine zr_if_eq (tgt := 22) C hf dX10_round_8 (by decide) (fun hf => ?_) (fun hf => ?_)
  · refine zsub [] rfl ?_
    exact J22 h4 hf
  · refine zr_aload_n C dX10_round_11 rfl 0 rfl ?_
    refine zr_gr C hf kg_X10_36 (fun _ _ _ => rfl) dX10_round_12 (fun w6 hf => ?_)
    refine zr_iload_n C dX10_round_15 rfl 2 rfl ?_
    refine zr_callVi (As := [.int p1]) (rest := []) C hf (fun x hx => c_X1_hasHeight l E n h4 w6 p1 x hx) kv_X10_208 rfl rfl (Nat.le_of_ble_eq_true rfl) ⟨rfl, rfl⟩ ⟨Nat.le_of_ble_eq_true rfl, Nat.le_of_ble_eq_true rfl⟩ ⟨Nat.le_of_ble_eq_true rfl, Nat.le_of_ble_eq_true rfl⟩ dX10_round_16 (fun x8 h7 hf => ?_)
    refine zr_if_ne (tgt := 26) C hf dX10_round_19 (by decide) (fun hf => ?_) (fun hf => ?_)
    · refine zr_aload_n C dX10_round_26 rfl 0 rfl ?_
      refine zr_gr C hf kg_X10_85 (fun _ _ _ => rfl) dX10_round_27 (fun w9 hf => ?_)
      refine zr_gr C hf kg_X10_211 (fun _ _ _ => rfl) dX10_round_30 (fun w10 hf => ?_)
      refine zr_iload_n C dX10_round_33 rfl 1 rfl ?_
      refine zr_aaload (t0 := 3) C hf (by decide) rfl rfl dX10_round_34 (fun w11 hf => ?_)
      refine zr_iload_n C dX10_round_35 rfl 2 rfl ?_
      refine zr_iaload C hf dX10_round_36 (fun x12 hf => ?_)
      exact zr_ireturn C hf hr (Nat.le_of_ble_eq_true rfl) (Nat.le_of_ble_eq_true rfl) dX10_round_37
    · refine zsub [] rfl ?_
      exact J22 h7 hf
theorem dX10_second_0 : decode cX10_second 0 = .ok (.aload_n 0, 1) := by decide +kernel
theorem dX10_second_1 : decode cX10_second 1 = .ok (.getfield 36, 3) := by decide +kernel
theorem dX10_second_4 : decode cX10_second 4 = .ok (.iload_n 1, 1) := by decide +kernel
theorem dX10_second_5 : decode cX10_second 5 = .ok (.invokevirtual 170, 3) := by decide +kernel
theorem dX10_second_8 : decode cX10_second 8 = .ok (.ifCond .eq 21, 3) := by decide +kernel
theorem dX10_second_11 : decode cX10_second 11 = .ok (.aload_n 0, 1) := by decide +kernel
theorem dX10_second_12 : decode cX10_second 12 = .ok (.getfield 85, 3) := by decide +kernel
theorem dX10_second_15 : decode cX10_second 15 = .ok (.iload_n 1, 1) := by decide +kernel
theorem dX10_second_16 : decode cX10_second 16 = .ok (.aload_n 0, 1) := by decide +kernel
theorem dX10_second_17 : decode cX10_second 17 = .ok (.getfield 36, 3) := by decide +kernel
theorem dX10_second_20 : decode cX10_second 20 = .ok (.invokevirtual 215, 3) := by decide +kernel
theorem dX10_second_23 : decode cX10_second 23 = .ok (.invokevirtual 218, 3) := by decide +kernel
theorem dX10_second_26 : decode cX10_second 26 = .ok (.goto 6, 3) := by decide +kernel
theorem dX10_second_29 : decode cX10_second 29 = .ok (.sipush (-1001), 3) := by decide +kernel
theorem dX10_second_32 : decode cX10_second 32 = .ok (.ireturn, 1) := by decide +kernel
set_option maxHeartbeats 4000000 in
set_option maxRecDepth 100000 in
theorem c_X10_second (l : Launch) (E : zE) (n : Nat) (h : zH) (a0 : Nat) (p0 : Int32) (res : Int32 × zH) (hf : F_X10_second n h a0 p0 = some res) : Met l yX10_second (zw yX10_second cX10_second 2 (some .int)) ({ frames := 1, cells := 0, slots := 0, locals := 25 } : Room) (zPc E h [.ref (zB E + a0), .int p0]) (zQc E res.2 (some (.int res.1))) 0 0 (zfr E) := by
  refine zmet (lo := [(0, .ref (zB E + a0)), (1, .int p0)]) (by decide +kernel) (Nat.le_of_ble_eq_true rfl) rfl ?_
  intro p e s m args below meth c C hr hin
  unfold F_X10_second at hf
  have J32 : ∀ (h4 : zH) (x3 : Int32), F_X10_second_J32 n h4 x3 = some res → zW p l e (headSpec (zw yX10_second cX10_second 2 (some .int)) ({ frames := 1, cells := 0, slots := 0, locals := 25 } : Room)).room s m args below meth c E 2 (MQ below (zQc E res.2 (some (.int res.1))) args s 0 0 (zfr E)) 0 0 32 [] [.int x3] h4 := by
    intro h4 x3 hf
    unfold F_X10_second_J32 at hf
    exact zr_ireturn C hf hr (Nat.le_of_ble_eq_true rfl) (Nat.le_of_ble_eq_true rfl) dX10_second_32
  refine zr_aload_n C dX10_second_0 rfl 0 rfl ?_
  refine zr_gr C hf kg_X10_36 (fun _ _ _ => rfl) dX10_second_1 (fun w5 hf => ?_)
  refine zr_iload_n C dX10_second_4 rfl 1 rfl ?_
  refine zr_callVi (As := [.int p0]) (rest := []) C hf (fun x hx => c_X1_hasRing l E n h w5 p0 x hx) kv_X10_170 rfl rfl (Nat.le_of_ble_eq_true rfl) ⟨rfl, rfl⟩ ⟨Nat.le_of_ble_eq_true rfl, Nat.le_of_ble_eq_true rfl⟩ ⟨Nat.le_of_ble_eq_true rfl, Nat.le_of_ble_eq_true rfl⟩ dX10_second_5 (fun x7 h6 hf => ?_)
  refine zr_if_eq (tgt := 29) C hf dX10_second_8 (by decide) (fun hf => ?_) (fun hf => ?_)
  · refine zr_sipush (v := -1001) C dX10_second_29 (by decide) ?_
    refine zsub [] rfl ?_
    exact J32 h6 (-1001 : Int32) hf
  · refine zr_aload_n C dX10_second_11 rfl 0 rfl ?_
    refine zr_gr C hf kg_X10_85 (fun _ _ _ => rfl) dX10_second_12 (fun w8 hf => ?_)
    refine zr_iload_n C dX10_second_15 rfl 1 rfl ?_
    refine zr_aload_n C dX10_second_16 rfl 0 rfl ?_
    refine zr_gr C hf kg_X10_36 (fun _ _ _ => rfl) dX10_second_17 (fun w9 hf => ?_)
    refine zr_callVi (As := []) (rest := [.int p0, .ref (zB E + w8)]) C hf (fun x hx => c_X1_heights l E n h6 w9 x hx) kv_X10_215 rfl rfl (Nat.le_of_ble_eq_true rfl) ⟨rfl, rfl⟩ ⟨Nat.le_of_ble_eq_true rfl, Nat.le_of_ble_eq_true rfl⟩ ⟨Nat.le_of_ble_eq_true rfl, Nat.le_of_ble_eq_true rfl⟩ dX10_second_20 (fun x11 h10 hf => ?_)
    refine zr_callVi (As := [.int p0, .int x11]) (rest := []) C hf (fun x hx => c_X0_secondTurning l E n h10 w8 p0 x11 x hx) kv_X10_218 rfl rfl (Nat.le_of_ble_eq_true rfl) ⟨rfl, rfl⟩ ⟨Nat.le_of_ble_eq_true rfl, Nat.le_of_ble_eq_true rfl⟩ ⟨Nat.le_of_ble_eq_true rfl, Nat.le_of_ble_eq_true rfl⟩ dX10_second_23 (fun x13 h12 hf => ?_)
    refine zr_goto (tgt := 32) C dX10_second_26 (by decide) ?_
    refine zsub [] rfl ?_
    exact J32 h12 x13 hf
theorem dX10_would_0 : decode cX10_would 0 = .ok (.aload_n 0, 1) := by decide +kernel
theorem dX10_would_1 : decode cX10_would 1 = .ok (.iload_n 1, 1) := by decide +kernel
theorem dX10_would_2 : decode cX10_would 2 = .ok (.invokevirtual 159, 3) := by decide +kernel
theorem dX10_would_5 : decode cX10_would 5 = .ok (.ifCond .eq 14, 3) := by decide +kernel
theorem dX10_would_8 : decode cX10_would 8 = .ok (.aload_n 0, 1) := by decide +kernel
theorem dX10_would_9 : decode cX10_would 9 = .ok (.getfield 36, 3) := by decide +kernel
theorem dX10_would_12 : decode cX10_would 12 = .ok (.iload_n 3, 1) := by decide +kernel
theorem dX10_would_13 : decode cX10_would 13 = .ok (.invokevirtual 170, 3) := by decide +kernel
theorem dX10_would_16 : decode cX10_would 16 = .ok (.ifCond .ne 7, 3) := by decide +kernel
theorem dX10_would_19 : decode cX10_would 19 = .ok (.sipush (-1001), 3) := by decide +kernel
theorem dX10_would_22 : decode cX10_would 22 = .ok (.ireturn, 1) := by decide +kernel
theorem dX10_would_23 : decode cX10_would 23 = .ok (.iload_n 2, 1) := by decide +kernel
theorem dX10_would_24 : decode cX10_would 24 = .ok (.iconst 1, 1) := by decide +kernel
theorem dX10_would_25 : decode cX10_would 25 = .ok (.bipush 100, 2) := by decide +kernel
theorem dX10_would_27 : decode cX10_would 27 = .ok (.invokestatic 148, 3) := by decide +kernel
theorem dX10_would_30 : decode cX10_would 30 = .ok (.ifCond .ne 7, 3) := by decide +kernel
theorem dX10_would_33 : decode cX10_would 33 = .ok (.sipush (-1002), 3) := by decide +kernel
theorem dX10_would_36 : decode cX10_would 36 = .ok (.ireturn, 1) := by decide +kernel
theorem dX10_would_37 : decode cX10_would 37 = .ok (.aload_n 0, 1) := by decide +kernel
theorem dX10_would_38 : decode cX10_would 38 = .ok (.getfield 89, 3) := by decide +kernel
theorem dX10_would_41 : decode cX10_would 41 = .ok (.aload_n 0, 1) := by decide +kernel
theorem dX10_would_42 : decode cX10_would 42 = .ok (.getfield 75, 3) := by decide +kernel
theorem dX10_would_45 : decode cX10_would 45 = .ok (.invokevirtual 131, 3) := by decide +kernel
theorem dX10_would_48 : decode cX10_would 48 = .ok (.aload_n 0, 1) := by decide +kernel
theorem dX10_would_49 : decode cX10_would 49 = .ok (.getfield 89, 3) := by decide +kernel
theorem dX10_would_52 : decode cX10_would 52 = .ok (.aload_n 0, 1) := by decide +kernel
theorem dX10_would_53 : decode cX10_would 53 = .ok (.getfield 36, 3) := by decide +kernel
theorem dX10_would_56 : decode cX10_would 56 = .ok (.aload_n 0, 1) := by decide +kernel
theorem dX10_would_57 : decode cX10_would 57 = .ok (.getfield 75, 3) := by decide +kernel
theorem dX10_would_60 : decode cX10_would 60 = .ok (.aload_n 0, 1) := by decide +kernel
theorem dX10_would_61 : decode cX10_would 61 = .ok (.iload_n 1, 1) := by decide +kernel
theorem dX10_would_62 : decode cX10_would 62 = .ok (.invokevirtual 163, 3) := by decide +kernel
theorem dX10_would_65 : decode cX10_would 65 = .ok (.iload_n 2, 1) := by decide +kernel
theorem dX10_would_66 : decode cX10_would 66 = .ok (.invokevirtual 204, 3) := by decide +kernel
theorem dX10_would_69 : decode cX10_would 69 = .ok (.aload_n 0, 1) := by decide +kernel
theorem dX10_would_70 : decode cX10_would 70 = .ok (.getfield 89, 3) := by decide +kernel
theorem dX10_would_73 : decode cX10_would 73 = .ok (.iload_n 3, 1) := by decide +kernel
theorem dX10_would_74 : decode cX10_would 74 = .ok (.aload_n 0, 1) := by decide +kernel
theorem dX10_would_75 : decode cX10_would 75 = .ok (.getfield 36, 3) := by decide +kernel
theorem dX10_would_78 : decode cX10_would 78 = .ok (.invokevirtual 215, 3) := by decide +kernel
theorem dX10_would_81 : decode cX10_would 81 = .ok (.invokevirtual 218, 3) := by decide +kernel
theorem dX10_would_84 : decode cX10_would 84 = .ok (.ireturn, 1) := by decide +kernel
set_option maxHeartbeats 4000000 in
set_option maxRecDepth 100000 in
theorem c_X10_would (l : Launch) (E : zE) (n : Nat) (h : zH) (a0 : Nat) (p0 : Int32) (p1 : Int32) (p2 : Int32) (res : Int32 × zH) (hf : F_X10_would n h a0 p0 p1 p2 = some res) : Met l yX10_would (zw yX10_would cX10_would 4 (some .int)) ({ frames := 4, cells := 0, slots := 0, locals := 99 } : Room) (zPc E h [.ref (zB E + a0), .int p0, .int p1, .int p2]) (zQc E res.2 (some (.int res.1))) 0 0 (zfr E) := by
  refine zmet (lo := [(0, .ref (zB E + a0)), (1, .int p0), (2, .int p1), (3, .int p2)]) (by decide +kernel) (Nat.le_of_ble_eq_true rfl) rfl ?_
  intro p e s m args below meth c C hr hin
  unfold F_X10_would at hf
  have J19 : ∀ (h2 : zH), F_X10_would_J19 n h2 = some res → zW p l e (headSpec (zw yX10_would cX10_would 4 (some .int)) ({ frames := 4, cells := 0, slots := 0, locals := 99 } : Room)).room s m args below meth c E 4 (MQ below (zQc E res.2 (some (.int res.1))) args s 0 0 (zfr E)) 0 0 19 [] [] h2 := by
    intro h2 hf
    unfold F_X10_would_J19 at hf
    refine zr_sipush (v := -1001) C dX10_would_19 (by decide) ?_
    exact zr_ireturn C hf hr (Nat.le_of_ble_eq_true rfl) (Nat.le_of_ble_eq_true rfl) dX10_would_22
  refine zr_aload_n C dX10_would_0 rfl 0 rfl ?_
  refine zr_iload_n C dX10_would_1 rfl 1 rfl ?_
  refine zr_callVi (As := [.int p0]) (rest := []) C hf (fun x hx => c_X10_hasDoing l E n h a0 p0 x hx) kv_X10_159 rfl rfl (Nat.le_of_ble_eq_true rfl) ⟨rfl, rfl⟩ ⟨Nat.le_of_ble_eq_true rfl, Nat.le_of_ble_eq_true rfl⟩ ⟨Nat.le_of_ble_eq_true rfl, Nat.le_of_ble_eq_true rfl⟩ dX10_would_2 (fun x4 h3 hf => ?_)
  refine zr_if_eq (tgt := 19) C hf dX10_would_5 (by decide) (fun hf => ?_) (fun hf => ?_)
  · refine zsub [] rfl ?_
    exact J19 h3 hf
  · refine zr_aload_n C dX10_would_8 rfl 0 rfl ?_
    refine zr_gr C hf kg_X10_36 (fun _ _ _ => rfl) dX10_would_9 (fun w5 hf => ?_)
    refine zr_iload_n C dX10_would_12 rfl 3 rfl ?_
    refine zr_callVi (As := [.int p2]) (rest := []) C hf (fun x hx => c_X1_hasRing l E n h3 w5 p2 x hx) kv_X10_170 rfl rfl (Nat.le_of_ble_eq_true rfl) ⟨rfl, rfl⟩ ⟨Nat.le_of_ble_eq_true rfl, Nat.le_of_ble_eq_true rfl⟩ ⟨Nat.le_of_ble_eq_true rfl, Nat.le_of_ble_eq_true rfl⟩ dX10_would_13 (fun x7 h6 hf => ?_)
    refine zr_if_ne (tgt := 23) C hf dX10_would_16 (by decide) (fun hf => ?_) (fun hf => ?_)
    · refine zr_iload_n C dX10_would_23 rfl 2 rfl ?_
      refine zr_iconst (v := 1) C dX10_would_24 (by decide) ?_
      refine zr_bipush (v := 100) C dX10_would_25 (by decide) ?_
      refine zr_callSi (As := [.int p1, .int (1 : Int32), .int (100 : Int32)]) (rest := []) C hf (fun x hx => c_X10_isWithin l E n h6 p1 (1 : Int32) (100 : Int32) x hx) ks_X10_148 rfl rfl (Nat.le_of_ble_eq_true rfl) ⟨rfl, rfl⟩ ⟨Nat.le_of_ble_eq_true rfl, Nat.le_of_ble_eq_true rfl⟩ ⟨Nat.le_of_ble_eq_true rfl, Nat.le_of_ble_eq_true rfl⟩ dX10_would_27 (fun x9 h8 hf => ?_)
      refine zr_if_ne (tgt := 37) C hf dX10_would_30 (by decide) (fun hf => ?_) (fun hf => ?_)
      · refine zr_aload_n C dX10_would_37 rfl 0 rfl ?_
        refine zr_gr C hf kg_X10_89 (fun _ _ _ => rfl) dX10_would_38 (fun w10 hf => ?_)
        refine zr_aload_n C dX10_would_41 rfl 0 rfl ?_
        refine zr_gr C hf kg_X10_75 (fun _ _ _ => rfl) dX10_would_42 (fun w11 hf => ?_)
        refine zr_callVv (As := [.ref (zB E + w11)]) (rest := []) C hf (fun x hx => c_X0_calm l E n h8 w10 w11 x hx) kv_X10_131 rfl rfl (Nat.le_of_ble_eq_true rfl) ⟨rfl, rfl⟩ ⟨Nat.le_of_ble_eq_true rfl, Nat.le_of_ble_eq_true rfl⟩ ⟨Nat.le_of_ble_eq_true rfl, Nat.le_of_ble_eq_true rfl⟩ dX10_would_45 (fun _ h12 hf => ?_)
        refine zr_aload_n C dX10_would_48 rfl 0 rfl ?_
        refine zr_gr C hf kg_X10_89 (fun _ _ _ => rfl) dX10_would_49 (fun w13 hf => ?_)
        refine zr_aload_n C dX10_would_52 rfl 0 rfl ?_
        refine zr_gr C hf kg_X10_36 (fun _ _ _ => rfl) dX10_would_53 (fun w14 hf => ?_)
        refine zr_aload_n C dX10_would_56 rfl 0 rfl ?_
        refine zr_gr C hf kg_X10_75 (fun _ _ _ => rfl) dX10_would_57 (fun w15 hf => ?_)
        refine zr_aload_n C dX10_would_60 rfl 0 rfl ?_
        refine zr_iload_n C dX10_would_61 rfl 1 rfl ?_
        refine zr_callVr (As := [.int p0]) (rest := [.ref (zB E + w15), .ref (zB E + w14), .ref (zB E + w13)]) C hf (fun x hx => c_X10_doingOrRest l E n h12 a0 p0 x hx) kv_X10_163 rfl rfl (Nat.le_of_ble_eq_true rfl) ⟨rfl, rfl⟩ ⟨Nat.le_of_ble_eq_true rfl, Nat.le_of_ble_eq_true rfl⟩ ⟨Nat.le_of_ble_eq_true rfl, Nat.le_of_ble_eq_true rfl⟩ dX10_would_62 (fun w17 h16 hf => ?_)
        refine zr_iload_n C dX10_would_65 rfl 2 rfl ?_
        refine zr_callVv (As := [.ref (zB E + w14), .ref (zB E + w15), .ref (zB E + w17), .int p1]) (rest := []) C hf (fun x hx => c_X0_doTicks l E n h16 w13 w14 w15 w17 p1 x hx) kv_X10_204 rfl rfl (Nat.le_of_ble_eq_true rfl) ⟨rfl, rfl⟩ ⟨Nat.le_of_ble_eq_true rfl, Nat.le_of_ble_eq_true rfl⟩ ⟨Nat.le_of_ble_eq_true rfl, Nat.le_of_ble_eq_true rfl⟩ dX10_would_66 (fun _ h18 hf => ?_)
        refine zr_aload_n C dX10_would_69 rfl 0 rfl ?_
        refine zr_gr C hf kg_X10_89 (fun _ _ _ => rfl) dX10_would_70 (fun w19 hf => ?_)
        refine zr_iload_n C dX10_would_73 rfl 3 rfl ?_
        refine zr_aload_n C dX10_would_74 rfl 0 rfl ?_
        refine zr_gr C hf kg_X10_36 (fun _ _ _ => rfl) dX10_would_75 (fun w20 hf => ?_)
        refine zr_callVi (As := []) (rest := [.int p2, .ref (zB E + w19)]) C hf (fun x hx => c_X1_heights l E n h18 w20 x hx) kv_X10_215 rfl rfl (Nat.le_of_ble_eq_true rfl) ⟨rfl, rfl⟩ ⟨Nat.le_of_ble_eq_true rfl, Nat.le_of_ble_eq_true rfl⟩ ⟨Nat.le_of_ble_eq_true rfl, Nat.le_of_ble_eq_true rfl⟩ dX10_would_78 (fun x22 h21 hf => ?_)
        refine zr_callVi (As := [.int p2, .int x22]) (rest := []) C hf (fun x hx => c_X0_secondTurning l E n h21 w19 p2 x22 x hx) kv_X10_218 rfl rfl (Nat.le_of_ble_eq_true rfl) ⟨rfl, rfl⟩ ⟨Nat.le_of_ble_eq_true rfl, Nat.le_of_ble_eq_true rfl⟩ ⟨Nat.le_of_ble_eq_true rfl, Nat.le_of_ble_eq_true rfl⟩ dX10_would_81 (fun x24 h23 hf => ?_)
        exact zr_ireturn C hf hr (Nat.le_of_ble_eq_true rfl) (Nat.le_of_ble_eq_true rfl) dX10_would_84
      · refine zr_sipush (v := -1002) C dX10_would_33 (by decide) ?_
        exact zr_ireturn C hf hr (Nat.le_of_ble_eq_true rfl) (Nat.le_of_ble_eq_true rfl) dX10_would_36
    · refine zsub [] rfl ?_
      exact J19 h6 hf
theorem dX10_hasRow_0 : decode cX10_hasRow 0 = .ok (.iload_n 1, 1) := by decide +kernel
theorem dX10_hasRow_1 : decode cX10_hasRow 1 = .ok (.ifCond .lt 15, 3) := by decide +kernel
theorem dX10_hasRow_4 : decode cX10_hasRow 4 = .ok (.iload_n 1, 1) := by decide +kernel
theorem dX10_hasRow_5 : decode cX10_hasRow 5 = .ok (.aload_n 0, 1) := by decide +kernel
theorem dX10_hasRow_6 : decode cX10_hasRow 6 = .ok (.getfield 67, 3) := by decide +kernel
theorem dX10_hasRow_9 : decode cX10_hasRow 9 = .ok (.if_icmp .ge 7, 3) := by decide +kernel
theorem dX10_hasRow_12 : decode cX10_hasRow 12 = .ok (.iconst 1, 1) := by decide +kernel
theorem dX10_hasRow_13 : decode cX10_hasRow 13 = .ok (.goto 4, 3) := by decide +kernel
theorem dX10_hasRow_16 : decode cX10_hasRow 16 = .ok (.iconst 0, 1) := by decide +kernel
theorem dX10_hasRow_17 : decode cX10_hasRow 17 = .ok (.ireturn, 1) := by decide +kernel
set_option maxHeartbeats 4000000 in
set_option maxRecDepth 100000 in
theorem c_X10_hasRow (l : Launch) (E : zE) (n : Nat) (h : zH) (a0 : Nat) (p0 : Int32) (res : Int32 × zH) (hf : F_X10_hasRow n h a0 p0 = some res) : Met l yX10_hasRow (zw yX10_hasRow cX10_hasRow 2 (some .boolean)) ({ frames := 0, cells := 0, slots := 0, locals := 0 } : Room) (zPc E h [.ref (zB E + a0), .int p0]) (zQc E res.2 (some (.int res.1))) 0 0 (zfr E) := by
  refine zmet (lo := [(0, .ref (zB E + a0)), (1, .int p0)]) (by decide +kernel) (Nat.le_of_ble_eq_true rfl) rfl ?_
  intro p e s m args below meth c C hr hin
  unfold F_X10_hasRow at hf
  have J17 : ∀ (h4 : zH) (x3 : Int32), F_X10_hasRow_J17 n h4 x3 = some res → zW p l e (headSpec (zw yX10_hasRow cX10_hasRow 2 (some .boolean)) ({ frames := 0, cells := 0, slots := 0, locals := 0 } : Room)).room s m args below meth c E 2 (MQ below (zQc E res.2 (some (.int res.1))) args s 0 0 (zfr E)) 0 0 17 [] [.int x3] h4 := by
    intro h4 x3 hf
    unfold F_X10_hasRow_J17 at hf
    exact zr_zreturn C hf hr (Nat.le_of_ble_eq_true rfl) (Nat.le_of_ble_eq_true rfl) dX10_hasRow_17
  have J16 : ∀ (h6 : zH), F_X10_hasRow_J16 n h6 = some res → zW p l e (headSpec (zw yX10_hasRow cX10_hasRow 2 (some .boolean)) ({ frames := 0, cells := 0, slots := 0, locals := 0 } : Room)).room s m args below meth c E 2 (MQ below (zQc E res.2 (some (.int res.1))) args s 0 0 (zfr E)) 0 0 16 [] [] h6 := by
    intro h6 hf
    unfold F_X10_hasRow_J16 at hf
    refine zr_iconst (v := 0) C dX10_hasRow_16 (by decide) ?_
    exact J17 h6 (0 : Int32) hf
  refine zr_iload_n C dX10_hasRow_0 rfl 1 rfl ?_
  refine zr_if_lt (tgt := 16) C hf dX10_hasRow_1 (by decide) (fun hf => ?_) (fun hf => ?_)
  · refine zsub [] rfl ?_
    exact J16 h hf
  · refine zr_iload_n C dX10_hasRow_4 rfl 1 rfl ?_
    refine zr_aload_n C dX10_hasRow_5 rfl 0 rfl ?_
    refine zr_gi C hf kg_X10_67 (fun _ _ _ => rfl) dX10_hasRow_6 (fun x7 hf => ?_)
    refine zr_icmp_ge (tgt := 16) C hf dX10_hasRow_9 (by decide) (fun hf => ?_) (fun hf => ?_)
    · refine zsub [] rfl ?_
      exact J16 h hf
    · refine zr_iconst (v := 1) C dX10_hasRow_12 (by decide) ?_
      refine zr_goto (tgt := 17) C dX10_hasRow_13 (by decide) ?_
      refine zsub [] rfl ?_
      exact J17 h (1 : Int32) hf
theorem dX10_tryRow_0 : decode cX10_tryRow 0 = .ok (.aload_n 0, 1) := by decide +kernel
theorem dX10_tryRow_1 : decode cX10_tryRow 1 = .ok (.getfield 89, 3) := by decide +kernel
theorem dX10_tryRow_4 : decode cX10_tryRow 4 = .ok (.aload_n 2, 1) := by decide +kernel
theorem dX10_tryRow_5 : decode cX10_tryRow 5 = .ok (.invokevirtual 131, 3) := by decide +kernel
theorem dX10_tryRow_8 : decode cX10_tryRow 8 = .ok (.iconst 0, 1) := by decide +kernel
theorem dX10_tryRow_9 : decode cX10_tryRow 9 = .ok (.istore_n 3, 1) := by decide +kernel
theorem dX10_tryRow_10 : decode cX10_tryRow 10 = .ok (.iload_n 3, 1) := by decide +kernel
theorem dX10_tryRow_11 : decode cX10_tryRow 11 = .ok (.aload_n 1, 1) := by decide +kernel
theorem dX10_tryRow_12 : decode cX10_tryRow 12 = .ok (.getfield 333, 3) := by decide +kernel
theorem dX10_tryRow_15 : decode cX10_tryRow 15 = .ok (.if_icmp .ge 37, 3) := by decide +kernel
theorem dX10_tryRow_18 : decode cX10_tryRow 18 = .ok (.aload_n 0, 1) := by decide +kernel
theorem dX10_tryRow_19 : decode cX10_tryRow 19 = .ok (.getfield 89, 3) := by decide +kernel
theorem dX10_tryRow_22 : decode cX10_tryRow 22 = .ok (.aload_n 0, 1) := by decide +kernel
theorem dX10_tryRow_23 : decode cX10_tryRow 23 = .ok (.getfield 36, 3) := by decide +kernel
theorem dX10_tryRow_26 : decode cX10_tryRow 26 = .ok (.aload_n 2, 1) := by decide +kernel
theorem dX10_tryRow_27 : decode cX10_tryRow 27 = .ok (.aload_n 0, 1) := by decide +kernel
theorem dX10_tryRow_28 : decode cX10_tryRow 28 = .ok (.aload_n 1, 1) := by decide +kernel
theorem dX10_tryRow_29 : decode cX10_tryRow 29 = .ok (.getfield 336, 3) := by decide +kernel
theorem dX10_tryRow_32 : decode cX10_tryRow 32 = .ok (.iload_n 3, 1) := by decide +kernel
theorem dX10_tryRow_33 : decode cX10_tryRow 33 = .ok (.iaload, 1) := by decide +kernel
theorem dX10_tryRow_34 : decode cX10_tryRow 34 = .ok (.invokevirtual 163, 3) := by decide +kernel
theorem dX10_tryRow_37 : decode cX10_tryRow 37 = .ok (.aload_n 1, 1) := by decide +kernel
theorem dX10_tryRow_38 : decode cX10_tryRow 38 = .ok (.getfield 339, 3) := by decide +kernel
theorem dX10_tryRow_41 : decode cX10_tryRow 41 = .ok (.iload_n 3, 1) := by decide +kernel
theorem dX10_tryRow_42 : decode cX10_tryRow 42 = .ok (.iaload, 1) := by decide +kernel
theorem dX10_tryRow_43 : decode cX10_tryRow 43 = .ok (.invokevirtual 204, 3) := by decide +kernel
theorem dX10_tryRow_46 : decode cX10_tryRow 46 = .ok (.iinc 3 1, 3) := by decide +kernel
theorem dX10_tryRow_49 : decode cX10_tryRow 49 = .ok (.goto (-39), 3) := by decide +kernel
theorem dX10_tryRow_52 : decode cX10_tryRow 52 = .ok (.aload_n 0, 1) := by decide +kernel
theorem dX10_tryRow_53 : decode cX10_tryRow 53 = .ok (.getfield 89, 3) := by decide +kernel
theorem dX10_tryRow_56 : decode cX10_tryRow 56 = .ok (.aload_n 0, 1) := by decide +kernel
theorem dX10_tryRow_57 : decode cX10_tryRow 57 = .ok (.getfield 36, 3) := by decide +kernel
theorem dX10_tryRow_60 : decode cX10_tryRow 60 = .ok (.aload_n 2, 1) := by decide +kernel
theorem dX10_tryRow_61 : decode cX10_tryRow 61 = .ok (.aload_n 0, 1) := by decide +kernel
theorem dX10_tryRow_62 : decode cX10_tryRow 62 = .ok (.getfield 21, 3) := by decide +kernel
theorem dX10_tryRow_65 : decode cX10_tryRow 65 = .ok (.bipush 60, 2) := by decide +kernel
theorem dX10_tryRow_67 : decode cX10_tryRow 67 = .ok (.invokevirtual 204, 3) := by decide +kernel
theorem dX10_tryRow_70 : decode cX10_tryRow 70 = .ok (.return_, 1) := by decide +kernel
set_option maxHeartbeats 4000000 in
set_option maxRecDepth 100000 in
theorem c_X10_tryRow (l : Launch) (E : zE) (n : Nat) (h : zH) (a0 : Nat) (p0 : Nat) (p1 : Nat) (res : Unit × zH) (hf : F_X10_tryRow n h a0 p0 p1 = some res) : Met l yX10_tryRow (zw yX10_tryRow cX10_tryRow 4 none) ({ frames := 4, cells := 0, slots := 0, locals := 99 } : Room) (zPc E h [.ref (zB E + a0), .ref (zB E + p0), .ref (zB E + p1)]) (zQc E res.2 none) 0 0 (zfr E) := by
  refine zmet (lo := [(0, .ref (zB E + a0)), (1, .ref (zB E + p0)), (2, .ref (zB E + p1))]) (by decide +kernel) (Nat.le_of_ble_eq_true rfl) rfl ?_
  intro p e s m args below meth c C hr hin
  unfold F_X10_tryRow at hf
  refine zr_aload_n C dX10_tryRow_0 rfl 0 rfl ?_
  refine zr_gr C hf kg_X10_89 (fun _ _ _ => rfl) dX10_tryRow_1 (fun w1 hf => ?_)
  refine zr_aload_n C dX10_tryRow_4 rfl 2 rfl ?_
  refine zr_callVv (As := [.ref (zB E + p1)]) (rest := []) C hf (fun x hx => c_X0_calm l E n h w1 p1 x hx) kv_X10_131 rfl rfl (Nat.le_of_ble_eq_true rfl) ⟨rfl, rfl⟩ ⟨Nat.le_of_ble_eq_true rfl, Nat.le_of_ble_eq_true rfl⟩ ⟨Nat.le_of_ble_eq_true rfl, Nat.le_of_ble_eq_true rfl⟩ dX10_tryRow_5 (fun _ h2 hf => ?_)
  refine zr_iconst (v := 0) C dX10_tryRow_8 (by decide) ?_
  refine zr_istore_n (lo2 := [(3, .int (0 : Int32)), (0, .ref (zB E + a0)), (1, .ref (zB E + p0)), (2, .ref (zB E + p1))]) C dX10_tryRow_9 rfl (by decide) rfl ?_
  have L10 : ∀ (fu : Nat) (x : zH × Int32), zloop (fun kc x => F_X10_tryRow_B10 n kc x.1 a0 p0 p1 x.2) fu x = some res → zW p l e (headSpec (zw yX10_tryRow cX10_tryRow 4 none) ({ frames := 4, cells := 0, slots := 0, locals := 99 } : Room)).room s m args below meth c E 4 (MQ below (zQc E res.2 none) args s 0 0 (zfr E)) 0 0 10 [(0, .ref (zB E + a0)), (1, .ref (zB E + p0)), (2, .ref (zB E + p1)), (3, .int x.2)] [] x.1 := by
    refine z_loop _ ?_
    intro kc10 hk10 x hf
    obtain ⟨h24, x23⟩ := x
    dsimp only at hf ⊢
    unfold F_X10_tryRow_B10 at hf
    refine zr_iload_n C dX10_tryRow_10 rfl 3 rfl ?_
    refine zr_aload_n C dX10_tryRow_11 rfl 1 rfl ?_
    refine zr_gi C hf kg_X10_333 (fun _ _ _ => rfl) dX10_tryRow_12 (fun x25 hf => ?_)
    refine zr_icmp_ge (tgt := 52) C hf dX10_tryRow_15 (by decide) (fun hf => ?_) (fun hf => ?_)
    · refine zr_aload_n C dX10_tryRow_52 rfl 0 rfl ?_
      refine zr_gr C hf kg_X10_89 (fun _ _ _ => rfl) dX10_tryRow_53 (fun w26 hf => ?_)
      refine zr_aload_n C dX10_tryRow_56 rfl 0 rfl ?_
      refine zr_gr C hf kg_X10_36 (fun _ _ _ => rfl) dX10_tryRow_57 (fun w27 hf => ?_)
      refine zr_aload_n C dX10_tryRow_60 rfl 2 rfl ?_
      refine zr_aload_n C dX10_tryRow_61 rfl 0 rfl ?_
      refine zr_gr C hf kg_X10_21 (fun _ _ _ => rfl) dX10_tryRow_62 (fun w28 hf => ?_)
      refine zr_bipush (v := 60) C dX10_tryRow_65 (by decide) ?_
      refine zr_callVv (As := [.ref (zB E + w27), .ref (zB E + p1), .ref (zB E + w28), .int (60 : Int32)]) (rest := []) C hf (fun x hx => c_X0_doTicks l E n h24 w26 w27 p1 w28 (60 : Int32) x hx) kv_X10_204 rfl rfl (Nat.le_of_ble_eq_true rfl) ⟨rfl, rfl⟩ ⟨Nat.le_of_ble_eq_true rfl, Nat.le_of_ble_eq_true rfl⟩ ⟨Nat.le_of_ble_eq_true rfl, Nat.le_of_ble_eq_true rfl⟩ dX10_tryRow_67 (fun _ h29 hf => ?_)
      exact zr_return C hf hr (Nat.le_of_ble_eq_true rfl) (Nat.le_of_ble_eq_true rfl) dX10_tryRow_70
    · refine zr_aload_n C dX10_tryRow_18 rfl 0 rfl ?_
      refine zr_gr C hf kg_X10_89 (fun _ _ _ => rfl) dX10_tryRow_19 (fun w30 hf => ?_)
      refine zr_aload_n C dX10_tryRow_22 rfl 0 rfl ?_
      refine zr_gr C hf kg_X10_36 (fun _ _ _ => rfl) dX10_tryRow_23 (fun w31 hf => ?_)
      refine zr_aload_n C dX10_tryRow_26 rfl 2 rfl ?_
      refine zr_aload_n C dX10_tryRow_27 rfl 0 rfl ?_
      refine zr_aload_n C dX10_tryRow_28 rfl 1 rfl ?_
      refine zr_gr C hf kg_X10_336 (fun _ _ _ => rfl) dX10_tryRow_29 (fun w32 hf => ?_)
      refine zr_iload_n C dX10_tryRow_32 rfl 3 rfl ?_
      refine zr_iaload C hf dX10_tryRow_33 (fun x33 hf => ?_)
      refine zr_callVr (As := [.int x33]) (rest := [.ref (zB E + p1), .ref (zB E + w31), .ref (zB E + w30)]) C hf (fun x hx => c_X10_doingOrRest l E n h24 a0 x33 x hx) kv_X10_163 rfl rfl (Nat.le_of_ble_eq_true rfl) ⟨rfl, rfl⟩ ⟨Nat.le_of_ble_eq_true rfl, Nat.le_of_ble_eq_true rfl⟩ ⟨Nat.le_of_ble_eq_true rfl, Nat.le_of_ble_eq_true rfl⟩ dX10_tryRow_34 (fun w35 h34 hf => ?_)
      refine zr_aload_n C dX10_tryRow_37 rfl 1 rfl ?_
      refine zr_gr C hf kg_X10_339 (fun _ _ _ => rfl) dX10_tryRow_38 (fun w36 hf => ?_)
      refine zr_iload_n C dX10_tryRow_41 rfl 3 rfl ?_
      refine zr_iaload C hf dX10_tryRow_42 (fun x37 hf => ?_)
      refine zr_callVv (As := [.ref (zB E + w31), .ref (zB E + p1), .ref (zB E + w35), .int x37]) (rest := []) C hf (fun x hx => c_X0_doTicks l E n h34 w30 w31 p1 w35 x37 x hx) kv_X10_204 rfl rfl (Nat.le_of_ble_eq_true rfl) ⟨rfl, rfl⟩ ⟨Nat.le_of_ble_eq_true rfl, Nat.le_of_ble_eq_true rfl⟩ ⟨Nat.le_of_ble_eq_true rfl, Nat.le_of_ble_eq_true rfl⟩ dX10_tryRow_43 (fun _ h38 hf => ?_)
      refine zr_iinc (v0 := 1) (k := 3) (f := fun v => [(3, .int v), (0, .ref (zB E + a0)), (1, .ref (zB E + p0)), (2, .ref (zB E + p1))]) C hf (by decide) dX10_tryRow_46 rfl (by decide) (fun v => rfl) (fun x39 hf => ?_)
      refine zr_goto (tgt := 10) C dX10_tryRow_49 (by decide) ?_
      refine zsub [1, 2, 3, 0] rfl ?_
      exact hk10 (h38, x39) hf
  refine zsub [1, 2, 3, 0] rfl ?_
  exact L10 n (h2, (0 : Int32)) hf
theorem dX10_ends_0 : decode cX10_ends 0 = .ok (.aload_n 0, 1) := by decide +kernel
theorem dX10_ends_1 : decode cX10_ends 1 = .ok (.iload_n 1, 1) := by decide +kernel
theorem dX10_ends_2 : decode cX10_ends 2 = .ok (.invokevirtual 222, 3) := by decide +kernel
theorem dX10_ends_5 : decode cX10_ends 5 = .ok (.ifCond .eq 14, 3) := by decide +kernel
theorem dX10_ends_8 : decode cX10_ends 8 = .ok (.aload_n 0, 1) := by decide +kernel
theorem dX10_ends_9 : decode cX10_ends 9 = .ok (.getfield 75, 3) := by decide +kernel
theorem dX10_ends_12 : decode cX10_ends 12 = .ok (.iload_n 2, 1) := by decide +kernel
theorem dX10_ends_13 : decode cX10_ends 13 = .ok (.invokevirtual 177, 3) := by decide +kernel
theorem dX10_ends_16 : decode cX10_ends 16 = .ok (.ifCond .ne 6, 3) := by decide +kernel
theorem dX10_ends_19 : decode cX10_ends 19 = .ok (.bipush (-101), 2) := by decide +kernel
theorem dX10_ends_21 : decode cX10_ends 21 = .ok (.ireturn, 1) := by decide +kernel
theorem dX10_ends_22 : decode cX10_ends 22 = .ok (.aload_n 0, 1) := by decide +kernel
theorem dX10_ends_23 : decode cX10_ends 23 = .ok (.aload_n 0, 1) := by decide +kernel
theorem dX10_ends_24 : decode cX10_ends 24 = .ok (.getfield 58, 3) := by decide +kernel
theorem dX10_ends_27 : decode cX10_ends 27 = .ok (.iload_n 1, 1) := by decide +kernel
theorem dX10_ends_28 : decode cX10_ends 28 = .ok (.aaload, 1) := by decide +kernel
theorem dX10_ends_29 : decode cX10_ends 29 = .ok (.aload_n 0, 1) := by decide +kernel
theorem dX10_ends_30 : decode cX10_ends 30 = .ok (.getfield 75, 3) := by decide +kernel
theorem dX10_ends_33 : decode cX10_ends 33 = .ok (.invokevirtual 225, 3) := by decide +kernel
theorem dX10_ends_36 : decode cX10_ends 36 = .ok (.aload_n 0, 1) := by decide +kernel
theorem dX10_ends_37 : decode cX10_ends 37 = .ok (.getfield 89, 3) := by decide +kernel
theorem dX10_ends_40 : decode cX10_ends 40 = .ok (.getfield 180, 3) := by decide +kernel
theorem dX10_ends_43 : decode cX10_ends 43 = .ok (.iload_n 2, 1) := by decide +kernel
theorem dX10_ends_44 : decode cX10_ends 44 = .ok (.iaload, 1) := by decide +kernel
theorem dX10_ends_45 : decode cX10_ends 45 = .ok (.ireturn, 1) := by decide +kernel
set_option maxHeartbeats 4000000 in
set_option maxRecDepth 100000 in
theorem c_X10_ends (l : Launch) (E : zE) (n : Nat) (h : zH) (a0 : Nat) (p0 : Int32) (p1 : Int32) (res : Int32 × zH) (hf : F_X10_ends n h a0 p0 p1 = some res) : Met l yX10_ends (zw yX10_ends cX10_ends 3 (some .int)) ({ frames := 5, cells := 0, slots := 0, locals := 122 } : Room) (zPc E h [.ref (zB E + a0), .int p0, .int p1]) (zQc E res.2 (some (.int res.1))) 0 0 (zfr E) := by
  refine zmet (lo := [(0, .ref (zB E + a0)), (1, .int p0), (2, .int p1)]) (by decide +kernel) (Nat.le_of_ble_eq_true rfl) rfl ?_
  intro p e s m args below meth c C hr hin
  unfold F_X10_ends at hf
  have J19 : ∀ (h2 : zH), F_X10_ends_J19 n h2 = some res → zW p l e (headSpec (zw yX10_ends cX10_ends 3 (some .int)) ({ frames := 5, cells := 0, slots := 0, locals := 122 } : Room)).room s m args below meth c E 3 (MQ below (zQc E res.2 (some (.int res.1))) args s 0 0 (zfr E)) 0 0 19 [] [] h2 := by
    intro h2 hf
    unfold F_X10_ends_J19 at hf
    refine zr_bipush (v := -101) C dX10_ends_19 (by decide) ?_
    exact zr_ireturn C hf hr (Nat.le_of_ble_eq_true rfl) (Nat.le_of_ble_eq_true rfl) dX10_ends_21
  refine zr_aload_n C dX10_ends_0 rfl 0 rfl ?_
  refine zr_iload_n C dX10_ends_1 rfl 1 rfl ?_
  refine zr_callVi (As := [.int p0]) (rest := []) C hf (fun x hx => c_X10_hasRow l E n h a0 p0 x hx) kv_X10_222 rfl rfl (Nat.le_of_ble_eq_true rfl) ⟨rfl, rfl⟩ ⟨Nat.le_of_ble_eq_true rfl, Nat.le_of_ble_eq_true rfl⟩ ⟨Nat.le_of_ble_eq_true rfl, Nat.le_of_ble_eq_true rfl⟩ dX10_ends_2 (fun x4 h3 hf => ?_)
  refine zr_if_eq (tgt := 19) C hf dX10_ends_5 (by decide) (fun hf => ?_) (fun hf => ?_)
  · refine zsub [] rfl ?_
    exact J19 h3 hf
  · refine zr_aload_n C dX10_ends_8 rfl 0 rfl ?_
    refine zr_gr C hf kg_X10_75 (fun _ _ _ => rfl) dX10_ends_9 (fun w5 hf => ?_)
    refine zr_iload_n C dX10_ends_12 rfl 2 rfl ?_
    refine zr_callVi (As := [.int p1]) (rest := []) C hf (fun x hx => c_X4_has l E n h3 w5 p1 x hx) kv_X10_177 rfl rfl (Nat.le_of_ble_eq_true rfl) ⟨rfl, rfl⟩ ⟨Nat.le_of_ble_eq_true rfl, Nat.le_of_ble_eq_true rfl⟩ ⟨Nat.le_of_ble_eq_true rfl, Nat.le_of_ble_eq_true rfl⟩ dX10_ends_13 (fun x7 h6 hf => ?_)
    refine zr_if_ne (tgt := 22) C hf dX10_ends_16 (by decide) (fun hf => ?_) (fun hf => ?_)
    · refine zr_aload_n C dX10_ends_22 rfl 0 rfl ?_
      refine zr_aload_n C dX10_ends_23 rfl 0 rfl ?_
      refine zr_gr C hf kg_X10_58 (fun _ _ _ => rfl) dX10_ends_24 (fun w8 hf => ?_)
      refine zr_iload_n C dX10_ends_27 rfl 1 rfl ?_
      refine zr_aaload (t0 := 5) C hf (by decide) rfl rfl dX10_ends_28 (fun w9 hf => ?_)
      refine zr_aload_n C dX10_ends_29 rfl 0 rfl ?_
      refine zr_gr C hf kg_X10_75 (fun _ _ _ => rfl) dX10_ends_30 (fun w10 hf => ?_)
      refine zr_callVv (As := [.ref (zB E + w9), .ref (zB E + w10)]) (rest := []) C hf (fun x hx => c_X10_tryRow l E n h6 a0 w9 w10 x hx) kv_X10_225 rfl rfl (Nat.le_of_ble_eq_true rfl) ⟨rfl, rfl⟩ ⟨Nat.le_of_ble_eq_true rfl, Nat.le_of_ble_eq_true rfl⟩ ⟨Nat.le_of_ble_eq_true rfl, Nat.le_of_ble_eq_true rfl⟩ dX10_ends_33 (fun _ h11 hf => ?_)
      refine zr_aload_n C dX10_ends_36 rfl 0 rfl ?_
      refine zr_gr C hf kg_X10_89 (fun _ _ _ => rfl) dX10_ends_37 (fun w12 hf => ?_)
      refine zr_gr C hf kg_X10_180 (fun _ _ _ => rfl) dX10_ends_40 (fun w13 hf => ?_)
      refine zr_iload_n C dX10_ends_43 rfl 2 rfl ?_
      refine zr_iaload C hf dX10_ends_44 (fun x14 hf => ?_)
      exact zr_ireturn C hf hr (Nat.le_of_ble_eq_true rfl) (Nat.le_of_ble_eq_true rfl) dX10_ends_45
    · refine zsub [] rfl ?_
      exact J19 h6 hf
theorem dX10_lies_0 : decode cX10_lies 0 = .ok (.aload_n 0, 1) := by decide +kernel
theorem dX10_lies_1 : decode cX10_lies 1 = .ok (.iload_n 1, 1) := by decide +kernel
theorem dX10_lies_2 : decode cX10_lies 2 = .ok (.invokevirtual 222, 3) := by decide +kernel
theorem dX10_lies_5 : decode cX10_lies 5 = .ok (.ifCond .eq 14, 3) := by decide +kernel
theorem dX10_lies_8 : decode cX10_lies 8 = .ok (.aload_n 0, 1) := by decide +kernel
theorem dX10_lies_9 : decode cX10_lies 9 = .ok (.getfield 75, 3) := by decide +kernel
theorem dX10_lies_12 : decode cX10_lies 12 = .ok (.iload_n 2, 1) := by decide +kernel
theorem dX10_lies_13 : decode cX10_lies 13 = .ok (.invokevirtual 177, 3) := by decide +kernel
theorem dX10_lies_16 : decode cX10_lies 16 = .ok (.ifCond .ne 6, 3) := by decide +kernel
theorem dX10_lies_19 : decode cX10_lies 19 = .ok (.bipush (-101), 2) := by decide +kernel
theorem dX10_lies_21 : decode cX10_lies 21 = .ok (.ireturn, 1) := by decide +kernel
theorem dX10_lies_22 : decode cX10_lies 22 = .ok (.aload_n 0, 1) := by decide +kernel
theorem dX10_lies_23 : decode cX10_lies 23 = .ok (.aload_n 0, 1) := by decide +kernel
theorem dX10_lies_24 : decode cX10_lies 24 = .ok (.getfield 58, 3) := by decide +kernel
theorem dX10_lies_27 : decode cX10_lies 27 = .ok (.iload_n 1, 1) := by decide +kernel
theorem dX10_lies_28 : decode cX10_lies 28 = .ok (.aaload, 1) := by decide +kernel
theorem dX10_lies_29 : decode cX10_lies 29 = .ok (.aload_n 0, 1) := by decide +kernel
theorem dX10_lies_30 : decode cX10_lies 30 = .ok (.getfield 75, 3) := by decide +kernel
theorem dX10_lies_33 : decode cX10_lies 33 = .ok (.invokevirtual 225, 3) := by decide +kernel
theorem dX10_lies_36 : decode cX10_lies 36 = .ok (.aload_n 0, 1) := by decide +kernel
theorem dX10_lies_37 : decode cX10_lies 37 = .ok (.getfield 89, 3) := by decide +kernel
theorem dX10_lies_40 : decode cX10_lies 40 = .ok (.getfield 180, 3) := by decide +kernel
theorem dX10_lies_43 : decode cX10_lies 43 = .ok (.iload_n 2, 1) := by decide +kernel
theorem dX10_lies_44 : decode cX10_lies 44 = .ok (.iaload, 1) := by decide +kernel
theorem dX10_lies_45 : decode cX10_lies 45 = .ok (.istore_n 3, 1) := by decide +kernel
theorem dX10_lies_46 : decode cX10_lies 46 = .ok (.iload_n 3, 1) := by decide +kernel
theorem dX10_lies_47 : decode cX10_lies 47 = .ok (.ifCond .ne 7, 3) := by decide +kernel
theorem dX10_lies_50 : decode cX10_lies 50 = .ok (.iconst 0, 1) := by decide +kernel
theorem dX10_lies_51 : decode cX10_lies 51 = .ok (.goto 21, 3) := by decide +kernel
theorem dX10_lies_54 : decode cX10_lies 54 = .ok (.iload_n 3, 1) := by decide +kernel
theorem dX10_lies_55 : decode cX10_lies 55 = .ok (.aload_n 0, 1) := by decide +kernel
theorem dX10_lies_56 : decode cX10_lies 56 = .ok (.getfield 36, 3) := by decide +kernel
theorem dX10_lies_59 : decode cX10_lies 59 = .ok (.invokevirtual 138, 3) := by decide +kernel
theorem dX10_lies_62 : decode cX10_lies 62 = .ok (.iconst 1, 1) := by decide +kernel
theorem dX10_lies_63 : decode cX10_lies 63 = .ok (.isub, 1) := by decide +kernel
theorem dX10_lies_64 : decode cX10_lies 64 = .ok (.if_icmp .ne 7, 3) := by decide +kernel
theorem dX10_lies_67 : decode cX10_lies 67 = .ok (.iconst 2, 1) := by decide +kernel
theorem dX10_lies_68 : decode cX10_lies 68 = .ok (.goto 4, 3) := by decide +kernel
theorem dX10_lies_71 : decode cX10_lies 71 = .ok (.iconst 1, 1) := by decide +kernel
theorem dX10_lies_72 : decode cX10_lies 72 = .ok (.ireturn, 1) := by decide +kernel
set_option maxHeartbeats 4000000 in
set_option maxRecDepth 100000 in
theorem c_X10_lies (l : Launch) (E : zE) (n : Nat) (h : zH) (a0 : Nat) (p0 : Int32) (p1 : Int32) (res : Int32 × zH) (hf : F_X10_lies n h a0 p0 p1 = some res) : Met l yX10_lies (zw yX10_lies cX10_lies 4 (some .int)) ({ frames := 5, cells := 0, slots := 0, locals := 122 } : Room) (zPc E h [.ref (zB E + a0), .int p0, .int p1]) (zQc E res.2 (some (.int res.1))) 0 0 (zfr E) := by
  refine zmet (lo := [(0, .ref (zB E + a0)), (1, .int p0), (2, .int p1)]) (by decide +kernel) (Nat.le_of_ble_eq_true rfl) rfl ?_
  intro p e s m args below meth c C hr hin
  unfold F_X10_lies at hf
  have J72 : ∀ (h4 : zH) (x3 : Int32), F_X10_lies_J72 n h4 x3 = some res → zW p l e (headSpec (zw yX10_lies cX10_lies 4 (some .int)) ({ frames := 5, cells := 0, slots := 0, locals := 122 } : Room)).room s m args below meth c E 4 (MQ below (zQc E res.2 (some (.int res.1))) args s 0 0 (zfr E)) 0 0 72 [] [.int x3] h4 := by
    intro h4 x3 hf
    unfold F_X10_lies_J72 at hf
    exact zr_ireturn C hf hr (Nat.le_of_ble_eq_true rfl) (Nat.le_of_ble_eq_true rfl) dX10_lies_72
  have J19 : ∀ (h6 : zH), F_X10_lies_J19 n h6 = some res → zW p l e (headSpec (zw yX10_lies cX10_lies 4 (some .int)) ({ frames := 5, cells := 0, slots := 0, locals := 122 } : Room)).room s m args below meth c E 4 (MQ below (zQc E res.2 (some (.int res.1))) args s 0 0 (zfr E)) 0 0 19 [] [] h6 := by
    intro h6 hf
    unfold F_X10_lies_J19 at hf
    refine zr_bipush (v := -101) C dX10_lies_19 (by decide) ?_
    exact zr_ireturn C hf hr (Nat.le_of_ble_eq_true rfl) (Nat.le_of_ble_eq_true rfl) dX10_lies_21
  refine zr_aload_n C dX10_lies_0 rfl 0 rfl ?_
  refine zr_iload_n C dX10_lies_1 rfl 1 rfl ?_
  refine zr_callVi (As := [.int p0]) (rest := []) C hf (fun x hx => c_X10_hasRow l E n h a0 p0 x hx) kv_X10_222 rfl rfl (Nat.le_of_ble_eq_true rfl) ⟨rfl, rfl⟩ ⟨Nat.le_of_ble_eq_true rfl, Nat.le_of_ble_eq_true rfl⟩ ⟨Nat.le_of_ble_eq_true rfl, Nat.le_of_ble_eq_true rfl⟩ dX10_lies_2 (fun x8 h7 hf => ?_)
  refine zr_if_eq (tgt := 19) C hf dX10_lies_5 (by decide) (fun hf => ?_) (fun hf => ?_)
  · refine zsub [] rfl ?_
    exact J19 h7 hf
  · refine zr_aload_n C dX10_lies_8 rfl 0 rfl ?_
    refine zr_gr C hf kg_X10_75 (fun _ _ _ => rfl) dX10_lies_9 (fun w9 hf => ?_)
    refine zr_iload_n C dX10_lies_12 rfl 2 rfl ?_
    refine zr_callVi (As := [.int p1]) (rest := []) C hf (fun x hx => c_X4_has l E n h7 w9 p1 x hx) kv_X10_177 rfl rfl (Nat.le_of_ble_eq_true rfl) ⟨rfl, rfl⟩ ⟨Nat.le_of_ble_eq_true rfl, Nat.le_of_ble_eq_true rfl⟩ ⟨Nat.le_of_ble_eq_true rfl, Nat.le_of_ble_eq_true rfl⟩ dX10_lies_13 (fun x11 h10 hf => ?_)
    refine zr_if_ne (tgt := 22) C hf dX10_lies_16 (by decide) (fun hf => ?_) (fun hf => ?_)
    · refine zr_aload_n C dX10_lies_22 rfl 0 rfl ?_
      refine zr_aload_n C dX10_lies_23 rfl 0 rfl ?_
      refine zr_gr C hf kg_X10_58 (fun _ _ _ => rfl) dX10_lies_24 (fun w12 hf => ?_)
      refine zr_iload_n C dX10_lies_27 rfl 1 rfl ?_
      refine zr_aaload (t0 := 5) C hf (by decide) rfl rfl dX10_lies_28 (fun w13 hf => ?_)
      refine zr_aload_n C dX10_lies_29 rfl 0 rfl ?_
      refine zr_gr C hf kg_X10_75 (fun _ _ _ => rfl) dX10_lies_30 (fun w14 hf => ?_)
      refine zr_callVv (As := [.ref (zB E + w13), .ref (zB E + w14)]) (rest := []) C hf (fun x hx => c_X10_tryRow l E n h10 a0 w13 w14 x hx) kv_X10_225 rfl rfl (Nat.le_of_ble_eq_true rfl) ⟨rfl, rfl⟩ ⟨Nat.le_of_ble_eq_true rfl, Nat.le_of_ble_eq_true rfl⟩ ⟨Nat.le_of_ble_eq_true rfl, Nat.le_of_ble_eq_true rfl⟩ dX10_lies_33 (fun _ h15 hf => ?_)
      refine zr_aload_n C dX10_lies_36 rfl 0 rfl ?_
      refine zr_gr C hf kg_X10_89 (fun _ _ _ => rfl) dX10_lies_37 (fun w16 hf => ?_)
      refine zr_gr C hf kg_X10_180 (fun _ _ _ => rfl) dX10_lies_40 (fun w17 hf => ?_)
      refine zr_iload_n C dX10_lies_43 rfl 2 rfl ?_
      refine zr_iaload C hf dX10_lies_44 (fun x18 hf => ?_)
      refine zr_istore_n (lo2 := [(3, .int x18), (0, .ref (zB E + a0)), (1, .int p0), (2, .int p1)]) C dX10_lies_45 rfl (by decide) rfl ?_
      refine zr_iload_n C dX10_lies_46 rfl 0 rfl ?_
      refine zr_if_ne (tgt := 54) C hf dX10_lies_47 (by decide) (fun hf => ?_) (fun hf => ?_)
      · refine zr_iload_n C dX10_lies_54 rfl 0 rfl ?_
        refine zr_aload_n C dX10_lies_55 rfl 1 rfl ?_
        refine zr_gr C hf kg_X10_36 (fun _ _ _ => rfl) dX10_lies_56 (fun w19 hf => ?_)
        refine zr_callVi (As := []) (rest := [.int x18]) C hf (fun x hx => c_X1_rings l E n h15 w19 x hx) kv_X10_138 rfl rfl (Nat.le_of_ble_eq_true rfl) ⟨rfl, rfl⟩ ⟨Nat.le_of_ble_eq_true rfl, Nat.le_of_ble_eq_true rfl⟩ ⟨Nat.le_of_ble_eq_true rfl, Nat.le_of_ble_eq_true rfl⟩ dX10_lies_59 (fun x21 h20 hf => ?_)
        refine zr_iconst (v := 1) C dX10_lies_62 (by decide) ?_
        refine zr_isub C hf dX10_lies_63 (fun x22 hf => ?_)
        refine zr_icmp_ne (tgt := 71) C hf dX10_lies_64 (by decide) (fun hf => ?_) (fun hf => ?_)
        · refine zr_iconst (v := 1) C dX10_lies_71 (by decide) ?_
          refine zsub [] rfl ?_
          exact J72 h20 (1 : Int32) hf
        · refine zr_iconst (v := 2) C dX10_lies_67 (by decide) ?_
          refine zr_goto (tgt := 72) C dX10_lies_68 (by decide) ?_
          refine zsub [] rfl ?_
          exact J72 h20 (2 : Int32) hf
      · refine zr_iconst (v := 0) C dX10_lies_50 (by decide) ?_
        refine zr_goto (tgt := 72) C dX10_lies_51 (by decide) ?_
        refine zsub [] rfl ?_
        exact J72 h15 (0 : Int32) hf
    · refine zsub [] rfl ?_
      exact J19 h10 hf
theorem dX10_line_0 : decode cX10_line 0 = .ok (.aload_n 0, 1) := by decide +kernel
theorem dX10_line_1 : decode cX10_line 1 = .ok (.iload_n 1, 1) := by decide +kernel
theorem dX10_line_2 : decode cX10_line 2 = .ok (.invokevirtual 222, 3) := by decide +kernel
theorem dX10_line_5 : decode cX10_line 5 = .ok (.ifCond .eq 14, 3) := by decide +kernel
theorem dX10_line_8 : decode cX10_line 8 = .ok (.aload_n 0, 1) := by decide +kernel
theorem dX10_line_9 : decode cX10_line 9 = .ok (.getfield 36, 3) := by decide +kernel
theorem dX10_line_12 : decode cX10_line 12 = .ok (.iload_n 2, 1) := by decide +kernel
theorem dX10_line_13 : decode cX10_line 13 = .ok (.invokevirtual 170, 3) := by decide +kernel
theorem dX10_line_16 : decode cX10_line 16 = .ok (.ifCond .ne 6, 3) := by decide +kernel
theorem dX10_line_19 : decode cX10_line 19 = .ok (.bipush (-101), 2) := by decide +kernel
theorem dX10_line_21 : decode cX10_line 21 = .ok (.ireturn, 1) := by decide +kernel
theorem dX10_line_22 : decode cX10_line 22 = .ok (.iload_n 3, 1) := by decide +kernel
theorem dX10_line_23 : decode cX10_line 23 = .ok (.iconst 0, 1) := by decide +kernel
theorem dX10_line_24 : decode cX10_line 24 = .ok (.bipush 9, 2) := by decide +kernel
theorem dX10_line_26 : decode cX10_line 26 = .ok (.invokestatic 148, 3) := by decide +kernel
theorem dX10_line_29 : decode cX10_line 29 = .ok (.ifCond .ne 6, 3) := by decide +kernel
theorem dX10_line_32 : decode cX10_line 32 = .ok (.bipush (-102), 2) := by decide +kernel
theorem dX10_line_34 : decode cX10_line 34 = .ok (.ireturn, 1) := by decide +kernel
theorem dX10_line_35 : decode cX10_line 35 = .ok (.aload_n 0, 1) := by decide +kernel
theorem dX10_line_36 : decode cX10_line 36 = .ok (.getfield 79, 3) := by decide +kernel
theorem dX10_line_39 : decode cX10_line 39 = .ok (.invokevirtual 129, 3) := by decide +kernel
theorem dX10_line_42 : decode cX10_line 42 = .ok (.iconst 0, 1) := by decide +kernel
theorem dX10_line_43 : decode cX10_line 43 = .ok (.istore 4, 2) := by decide +kernel
theorem dX10_line_45 : decode cX10_line 45 = .ok (.iload 4, 2) := by decide +kernel
theorem dX10_line_47 : decode cX10_line 47 = .ok (.bipush 10, 2) := by decide +kernel
theorem dX10_line_49 : decode cX10_line 49 = .ok (.if_icmp .ge 21, 3) := by decide +kernel
theorem dX10_line_52 : decode cX10_line 52 = .ok (.aload_n 0, 1) := by decide +kernel
theorem dX10_line_53 : decode cX10_line 53 = .ok (.getfield 79, 3) := by decide +kernel
theorem dX10_line_56 : decode cX10_line 56 = .ok (.iload_n 2, 1) := by decide +kernel
theorem dX10_line_57 : decode cX10_line 57 = .ok (.iload 4, 2) := by decide +kernel
theorem dX10_line_59 : decode cX10_line 59 = .ok (.iload_n 3, 1) := by decide +kernel
theorem dX10_line_60 : decode cX10_line 60 = .ok (.invokevirtual 173, 3) := by decide +kernel
theorem dX10_line_63 : decode cX10_line 63 = .ok (.pop, 1) := by decide +kernel
theorem dX10_line_64 : decode cX10_line 64 = .ok (.iinc 4 1, 3) := by decide +kernel
theorem dX10_line_67 : decode cX10_line 67 = .ok (.goto (-22), 3) := by decide +kernel
theorem dX10_line_70 : decode cX10_line 70 = .ok (.aload_n 0, 1) := by decide +kernel
theorem dX10_line_71 : decode cX10_line 71 = .ok (.aload_n 0, 1) := by decide +kernel
theorem dX10_line_72 : decode cX10_line 72 = .ok (.getfield 58, 3) := by decide +kernel
theorem dX10_line_75 : decode cX10_line 75 = .ok (.iload_n 1, 1) := by decide +kernel
theorem dX10_line_76 : decode cX10_line 76 = .ok (.aaload, 1) := by decide +kernel
theorem dX10_line_77 : decode cX10_line 77 = .ok (.aload_n 0, 1) := by decide +kernel
theorem dX10_line_78 : decode cX10_line 78 = .ok (.getfield 79, 3) := by decide +kernel
theorem dX10_line_81 : decode cX10_line 81 = .ok (.invokevirtual 225, 3) := by decide +kernel
theorem dX10_line_84 : decode cX10_line 84 = .ok (.iconst 0, 1) := by decide +kernel
theorem dX10_line_85 : decode cX10_line 85 = .ok (.istore 4, 2) := by decide +kernel
theorem dX10_line_87 : decode cX10_line 87 = .ok (.iload 4, 2) := by decide +kernel
theorem dX10_line_89 : decode cX10_line 89 = .ok (.bipush 10, 2) := by decide +kernel
theorem dX10_line_91 : decode cX10_line 91 = .ok (.if_icmp .ge 25, 3) := by decide +kernel
theorem dX10_line_94 : decode cX10_line 94 = .ok (.aload_n 0, 1) := by decide +kernel
theorem dX10_line_95 : decode cX10_line 95 = .ok (.getfield 89, 3) := by decide +kernel
theorem dX10_line_98 : decode cX10_line 98 = .ok (.getfield 180, 3) := by decide +kernel
theorem dX10_line_101 : decode cX10_line 101 = .ok (.iload 4, 2) := by decide +kernel
theorem dX10_line_103 : decode cX10_line 103 = .ok (.iaload, 1) := by decide +kernel
theorem dX10_line_104 : decode cX10_line 104 = .ok (.ifCond .eq 6, 3) := by decide +kernel
theorem dX10_line_107 : decode cX10_line 107 = .ok (.iload 4, 2) := by decide +kernel
theorem dX10_line_109 : decode cX10_line 109 = .ok (.ireturn, 1) := by decide +kernel
theorem dX10_line_110 : decode cX10_line 110 = .ok (.iinc 4 1, 3) := by decide +kernel
theorem dX10_line_113 : decode cX10_line 113 = .ok (.goto (-26), 3) := by decide +kernel
theorem dX10_line_116 : decode cX10_line 116 = .ok (.iconst (-1), 1) := by decide +kernel
theorem dX10_line_117 : decode cX10_line 117 = .ok (.ireturn, 1) := by decide +kernel
set_option maxHeartbeats 4000000 in
set_option maxRecDepth 100000 in
theorem c_X10_line (l : Launch) (E : zE) (n : Nat) (h : zH) (a0 : Nat) (p0 : Int32) (p1 : Int32) (p2 : Int32) (res : Int32 × zH) (hf : F_X10_line n h a0 p0 p1 p2 = some res) : Met l yX10_line (zw yX10_line cX10_line 5 (some .int)) ({ frames := 5, cells := 0, slots := 0, locals := 122 } : Room) (zPc E h [.ref (zB E + a0), .int p0, .int p1, .int p2]) (zQc E res.2 (some (.int res.1))) 0 0 (zfr E) := by
  refine zmet (lo := [(0, .ref (zB E + a0)), (1, .int p0), (2, .int p1), (3, .int p2)]) (by decide +kernel) (Nat.le_of_ble_eq_true rfl) rfl ?_
  intro p e s m args below meth c C hr hin
  unfold F_X10_line at hf
  have J19 : ∀ (h2 : zH), F_X10_line_J19 n h2 = some res → zW p l e (headSpec (zw yX10_line cX10_line 5 (some .int)) ({ frames := 5, cells := 0, slots := 0, locals := 122 } : Room)).room s m args below meth c E 5 (MQ below (zQc E res.2 (some (.int res.1))) args s 0 0 (zfr E)) 0 0 19 [] [] h2 := by
    intro h2 hf
    unfold F_X10_line_J19 at hf
    refine zr_bipush (v := -101) C dX10_line_19 (by decide) ?_
    exact zr_ireturn C hf hr (Nat.le_of_ble_eq_true rfl) (Nat.le_of_ble_eq_true rfl) dX10_line_21
  refine zr_aload_n C dX10_line_0 rfl 0 rfl ?_
  refine zr_iload_n C dX10_line_1 rfl 1 rfl ?_
  refine zr_callVi (As := [.int p0]) (rest := []) C hf (fun x hx => c_X10_hasRow l E n h a0 p0 x hx) kv_X10_222 rfl rfl (Nat.le_of_ble_eq_true rfl) ⟨rfl, rfl⟩ ⟨Nat.le_of_ble_eq_true rfl, Nat.le_of_ble_eq_true rfl⟩ ⟨Nat.le_of_ble_eq_true rfl, Nat.le_of_ble_eq_true rfl⟩ dX10_line_2 (fun x4 h3 hf => ?_)
  refine zr_if_eq (tgt := 19) C hf dX10_line_5 (by decide) (fun hf => ?_) (fun hf => ?_)
  · refine zsub [] rfl ?_
    exact J19 h3 hf
  · refine zr_aload_n C dX10_line_8 rfl 0 rfl ?_
    refine zr_gr C hf kg_X10_36 (fun _ _ _ => rfl) dX10_line_9 (fun w5 hf => ?_)
    refine zr_iload_n C dX10_line_12 rfl 2 rfl ?_
    refine zr_callVi (As := [.int p1]) (rest := []) C hf (fun x hx => c_X1_hasRing l E n h3 w5 p1 x hx) kv_X10_170 rfl rfl (Nat.le_of_ble_eq_true rfl) ⟨rfl, rfl⟩ ⟨Nat.le_of_ble_eq_true rfl, Nat.le_of_ble_eq_true rfl⟩ ⟨Nat.le_of_ble_eq_true rfl, Nat.le_of_ble_eq_true rfl⟩ dX10_line_13 (fun x7 h6 hf => ?_)
    refine zr_if_ne (tgt := 22) C hf dX10_line_16 (by decide) (fun hf => ?_) (fun hf => ?_)
    · refine zr_iload_n C dX10_line_22 rfl 3 rfl ?_
      refine zr_iconst (v := 0) C dX10_line_23 (by decide) ?_
      refine zr_bipush (v := 9) C dX10_line_24 (by decide) ?_
      refine zr_callSi (As := [.int p2, .int (0 : Int32), .int (9 : Int32)]) (rest := []) C hf (fun x hx => c_X10_isWithin l E n h6 p2 (0 : Int32) (9 : Int32) x hx) ks_X10_148 rfl rfl (Nat.le_of_ble_eq_true rfl) ⟨rfl, rfl⟩ ⟨Nat.le_of_ble_eq_true rfl, Nat.le_of_ble_eq_true rfl⟩ ⟨Nat.le_of_ble_eq_true rfl, Nat.le_of_ble_eq_true rfl⟩ dX10_line_26 (fun x9 h8 hf => ?_)
      refine zr_if_ne (tgt := 35) C hf dX10_line_29 (by decide) (fun hf => ?_) (fun hf => ?_)
      · refine zr_aload_n C dX10_line_35 rfl 0 rfl ?_
        refine zr_gr C hf kg_X10_79 (fun _ _ _ => rfl) dX10_line_36 (fun w10 hf => ?_)
        refine zr_callVv (As := []) (rest := []) C hf (fun x hx => c_X4_clear l E n h8 w10 x hx) kv_X10_129 rfl rfl (Nat.le_of_ble_eq_true rfl) ⟨rfl, rfl⟩ ⟨Nat.le_of_ble_eq_true rfl, Nat.le_of_ble_eq_true rfl⟩ ⟨Nat.le_of_ble_eq_true rfl, Nat.le_of_ble_eq_true rfl⟩ dX10_line_39 (fun _ h11 hf => ?_)
        refine zr_iconst (v := 0) C dX10_line_42 (by decide) ?_
        refine zr_istore (lo2 := [(4, .int (0 : Int32)), (0, .ref (zB E + a0)), (1, .int p0), (2, .int p1), (3, .int p2)]) C dX10_line_43 (by decide) rfl ?_
        have L45 : ∀ (fu : Nat) (x : zH × Int32), zloop (fun kc x => F_X10_line_B45 n kc x.1 a0 p0 p1 p2 x.2) fu x = some res → zW p l e (headSpec (zw yX10_line cX10_line 5 (some .int)) ({ frames := 5, cells := 0, slots := 0, locals := 122 } : Room)).room s m args below meth c E 5 (MQ below (zQc E res.2 (some (.int res.1))) args s 0 0 (zfr E)) 0 0 45 [(0, .ref (zB E + a0)), (1, .int p0), (2, .int p1), (3, .int p2), (4, .int x.2)] [] x.1 := by
          refine z_loop _ ?_
          intro kc45 hk45 x hf
          obtain ⟨h40, x39⟩ := x
          dsimp only at hf ⊢
          unfold F_X10_line_B45 at hf
          refine zr_iload C dX10_line_45 4 rfl ?_
          refine zr_bipush (v := 10) C dX10_line_47 (by decide) ?_
          refine zr_icmp_ge (tgt := 70) C hf dX10_line_49 (by decide) (fun hf => ?_) (fun hf => ?_)
          · refine zr_aload_n C dX10_line_70 rfl 0 rfl ?_
            refine zr_aload_n C dX10_line_71 rfl 0 rfl ?_
            refine zr_gr C hf kg_X10_58 (fun _ _ _ => rfl) dX10_line_72 (fun w41 hf => ?_)
            refine zr_iload_n C dX10_line_75 rfl 1 rfl ?_
            refine zr_aaload (t0 := 5) C hf (by decide) rfl rfl dX10_line_76 (fun w42 hf => ?_)
            refine zr_aload_n C dX10_line_77 rfl 0 rfl ?_
            refine zr_gr C hf kg_X10_79 (fun _ _ _ => rfl) dX10_line_78 (fun w43 hf => ?_)
            refine zr_callVv (As := [.ref (zB E + w42), .ref (zB E + w43)]) (rest := []) C hf (fun x hx => c_X10_tryRow l E n h40 a0 w42 w43 x hx) kv_X10_225 rfl rfl (Nat.le_of_ble_eq_true rfl) ⟨rfl, rfl⟩ ⟨Nat.le_of_ble_eq_true rfl, Nat.le_of_ble_eq_true rfl⟩ ⟨Nat.le_of_ble_eq_true rfl, Nat.le_of_ble_eq_true rfl⟩ dX10_line_81 (fun _ h44 hf => ?_)
            refine zr_iconst (v := 0) C dX10_line_84 (by decide) ?_
            refine zr_istore (lo2 := [(4, .int (0 : Int32)), (0, .ref (zB E + a0)), (1, .int p0), (2, .int p1), (3, .int p2)]) C dX10_line_85 (by decide) rfl ?_
            have L87 : ∀ (fu : Nat) (x : zH × Int32), zloop (fun kc x => F_X10_line_B87 n kc x.1 a0 x.2) fu x = some res → zW p l e (headSpec (zw yX10_line cX10_line 5 (some .int)) ({ frames := 5, cells := 0, slots := 0, locals := 122 } : Room)).room s m args below meth c E 5 (MQ below (zQc E res.2 (some (.int res.1))) args s 0 0 (zfr E)) 0 0 87 [(0, .ref (zB E + a0)), (4, .int x.2)] [] x.1 := by
              refine z_loop _ ?_
              intro kc87 hk87 x hf
              obtain ⟨h46, x45⟩ := x
              dsimp only at hf ⊢
              unfold F_X10_line_B87 at hf
              refine zr_iload C dX10_line_87 1 rfl ?_
              refine zr_bipush (v := 10) C dX10_line_89 (by decide) ?_
              refine zr_icmp_ge (tgt := 116) C hf dX10_line_91 (by decide) (fun hf => ?_) (fun hf => ?_)
              · refine zr_iconst (v := -1) C dX10_line_116 (by decide) ?_
                exact zr_ireturn C hf hr (Nat.le_of_ble_eq_true rfl) (Nat.le_of_ble_eq_true rfl) dX10_line_117
              · refine zr_aload_n C dX10_line_94 rfl 0 rfl ?_
                refine zr_gr C hf kg_X10_89 (fun _ _ _ => rfl) dX10_line_95 (fun w47 hf => ?_)
                refine zr_gr C hf kg_X10_180 (fun _ _ _ => rfl) dX10_line_98 (fun w48 hf => ?_)
                refine zr_iload C dX10_line_101 1 rfl ?_
                refine zr_iaload C hf dX10_line_103 (fun x49 hf => ?_)
                refine zr_if_eq (tgt := 110) C hf dX10_line_104 (by decide) (fun hf => ?_) (fun hf => ?_)
                · refine zr_iinc (v0 := 1) (k := 1) (f := fun v => [(4, .int v), (0, .ref (zB E + a0))]) C hf (by decide) dX10_line_110 rfl (by decide) (fun v => rfl) (fun x50 hf => ?_)
                  refine zr_goto (tgt := 87) C dX10_line_113 (by decide) ?_
                  refine zsub [1, 0] rfl ?_
                  exact hk87 (h46, x50) hf
                · refine zr_iload C dX10_line_107 1 rfl ?_
                  exact zr_ireturn C hf hr (Nat.le_of_ble_eq_true rfl) (Nat.le_of_ble_eq_true rfl) dX10_line_109
            refine zsub [1, 0] rfl ?_
            exact L87 n (h44, (0 : Int32)) hf
          · refine zr_aload_n C dX10_line_52 rfl 0 rfl ?_
            refine zr_gr C hf kg_X10_79 (fun _ _ _ => rfl) dX10_line_53 (fun w51 hf => ?_)
            refine zr_iload_n C dX10_line_56 rfl 2 rfl ?_
            refine zr_iload C dX10_line_57 4 rfl ?_
            refine zr_iload_n C dX10_line_59 rfl 3 rfl ?_
            refine zr_callVi (As := [.int p1, .int x39, .int p2]) (rest := []) C hf (fun x hx => c_X4_add l E n h40 w51 p1 x39 p2 x hx) kv_X10_173 rfl rfl (Nat.le_of_ble_eq_true rfl) ⟨rfl, rfl⟩ ⟨Nat.le_of_ble_eq_true rfl, Nat.le_of_ble_eq_true rfl⟩ ⟨Nat.le_of_ble_eq_true rfl, Nat.le_of_ble_eq_true rfl⟩ dX10_line_60 (fun x53 h52 hf => ?_)
            refine zr_pop C dX10_line_63 rfl ?_
            refine zr_iinc (v0 := 1) (k := 4) (f := fun v => [(4, .int v), (0, .ref (zB E + a0)), (1, .int p0), (2, .int p1), (3, .int p2)]) C hf (by decide) dX10_line_64 rfl (by decide) (fun v => rfl) (fun x54 hf => ?_)
            refine zr_goto (tgt := 45) C dX10_line_67 (by decide) ?_
            refine zsub [1, 2, 3, 4, 0] rfl ?_
            exact hk45 (h52, x54) hf
        refine zsub [1, 2, 3, 4, 0] rfl ?_
        exact L45 n (h11, (0 : Int32)) hf
      · refine zr_bipush (v := -102) C dX10_line_32 (by decide) ?_
        exact zr_ireturn C hf hr (Nat.le_of_ble_eq_true rfl) (Nat.le_of_ble_eq_true rfl) dX10_line_34
    · refine zsub [] rfl ?_
      exact J19 h6 hf
