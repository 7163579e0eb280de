theorem dX8_takes_0 : decode cX8_takes 0 = .ok (.aload_n 0, 1) := by decide +kernel
theorem dX8_takes_1 : decode cX8_takes 1 = .ok (.getfield 22, 3) := by decide +kernel
theorem dX8_takes_4 : decode cX8_takes 4 = .ok (.tableswitch 73 0 2 #[28, 37, 64], 28) := by decide +kernel
theorem dX8_takes_32 : decode cX8_takes 32 = .ok (.aload_n 0, 1) := by decide +kernel
theorem dX8_takes_33 : decode cX8_takes 33 = .ok (.iload_n 1, 1) := by decide +kernel
theorem dX8_takes_34 : decode cX8_takes 34 = .ok (.invokestatic 25, 3) := by decide +kernel
theorem dX8_takes_37 : decode cX8_takes 37 = .ok (.invokevirtual 29, 3) := by decide +kernel
theorem dX8_takes_40 : decode cX8_takes 40 = .ok (.ireturn, 1) := by decide +kernel
theorem dX8_takes_41 : decode cX8_takes 41 = .ok (.aload_n 0, 1) := by decide +kernel
theorem dX8_takes_42 : decode cX8_takes 42 = .ok (.iload_n 1, 1) := by decide +kernel
theorem dX8_takes_43 : decode cX8_takes 43 = .ok (.bipush 42, 2) := by decide +kernel
theorem dX8_takes_45 : decode cX8_takes 45 = .ok (.if_icmp .ne 7, 3) := by decide +kernel
theorem dX8_takes_48 : decode cX8_takes 48 = .ok (.iconst 2, 1) := by decide +kernel
theorem dX8_takes_49 : decode cX8_takes 49 = .ok (.goto 4, 3) := by decide +kernel
theorem dX8_takes_52 : decode cX8_takes 52 = .ok (.iconst 1, 1) := by decide +kernel
theorem dX8_takes_53 : decode cX8_takes 53 = .ok (.putfield 22, 3) := by decide +kernel
theorem dX8_takes_56 : decode cX8_takes 56 = .ok (.iload_n 1, 1) := by decide +kernel
theorem dX8_takes_57 : decode cX8_takes 57 = .ok (.bipush 42, 2) := by decide +kernel
theorem dX8_takes_59 : decode cX8_takes 59 = .ok (.if_icmp .ne 7, 3) := by decide +kernel
theorem dX8_takes_62 : decode cX8_takes 62 = .ok (.iconst 1, 1) := by decide +kernel
theorem dX8_takes_63 : decode cX8_takes 63 = .ok (.goto 4, 3) := by decide +kernel
theorem dX8_takes_66 : decode cX8_takes 66 = .ok (.iconst 0, 1) := by decide +kernel
theorem dX8_takes_67 : decode cX8_takes 67 = .ok (.ireturn, 1) := by decide +kernel
theorem dX8_takes_68 : decode cX8_takes 68 = .ok (.aload_n 0, 1) := by decide +kernel
theorem dX8_takes_69 : decode cX8_takes 69 = .ok (.iload_n 1, 1) := by decide +kernel
theorem dX8_takes_70 : decode cX8_takes 70 = .ok (.invokestatic 25, 3) := by decide +kernel
theorem dX8_takes_73 : decode cX8_takes 73 = .ok (.invokevirtual 33, 3) := by decide +kernel
theorem dX8_takes_76 : decode cX8_takes 76 = .ok (.ireturn, 1) := by decide +kernel
theorem dX8_takes_77 : decode cX8_takes 77 = .ok (.aload_n 0, 1) := by decide +kernel
theorem dX8_takes_78 : decode cX8_takes 78 = .ok (.iload_n 1, 1) := by decide +kernel
theorem dX8_takes_79 : decode cX8_takes 79 = .ok (.invokevirtual 36, 3) := by decide +kernel
theorem dX8_takes_82 : decode cX8_takes 82 = .ok (.ireturn, 1) := by decide +kernel
set_option maxHeartbeats 4000000 in
set_option maxRecDepth 100000 in
theorem c_X8_takes (l : Launch) (E : zE) (n : Nat) (h : zH) (a0 : Nat) (p0 : Int32) (res : Int32 × zH) (hf : F_X8_takes n h a0 p0 = some res) : Met l yX8_takes (zw yX8_takes cX8_takes 2 (some .boolean)) ({ frames := 3, cells := 0, slots := 0, locals := 65 } : Room) (zPc E h [.ref (zB E + a0), .int p0]) (zQc E res.2 (some (.int res.1))) 0 0 (zfr E) := by
  refine zmet (lo := [(0, .ref (zB E + a0)), (1, .int p0)]) (by decide +kernel) (Nat.le_of_ble_eq_true rfl) rfl ?_
  intro p e s m args below meth c C hr hin
  unfold F_X8_takes at hf
  have J67 : ∀ (h4 : zH) (x3 : Int32), F_X8_takes_J67 n h4 x3 = some res → zW p l e (headSpec (zw yX8_takes cX8_takes 2 (some .boolean)) ({ frames := 3, cells := 0, slots := 0, locals := 65 } : Room)).room s m args below meth c E 2 (MQ below (zQc E res.2 (some (.int res.1))) args s 0 0 (zfr E)) 0 0 67 [] [.int x3] h4 := by
    intro h4 x3 hf
    unfold F_X8_takes_J67 at hf
    exact zr_zreturn C hf hr (Nat.le_of_ble_eq_true rfl) (Nat.le_of_ble_eq_true rfl) dX8_takes_67
  have J53 : ∀ (h13 : zH) (x10 : Int32) (w11 : Nat) (x12 : Int32), F_X8_takes_J53 n h13 x10 w11 x12 = some res → zW p l e (headSpec (zw yX8_takes cX8_takes 2 (some .boolean)) ({ frames := 3, cells := 0, slots := 0, locals := 65 } : Room)).room s m args below meth c E 2 (MQ below (zQc E res.2 (some (.int res.1))) args s 0 0 (zfr E)) 0 0 53 [(1, .int x10)] [.int x12, .ref (zB E + w11)] h13 := by
    intro h13 x10 w11 x12 hf
    unfold F_X8_takes_J53 at hf
    refine zr_si C hf kp_X8_22 (fun _ _ _ => rfl) rfl dX8_takes_53 (fun h14 hf => ?_)
    refine zr_iload_n C dX8_takes_56 rfl 0 rfl ?_
    refine zr_bipush (v := 42) C dX8_takes_57 (by decide) ?_
    refine zr_icmp_ne (tgt := 66) C hf dX8_takes_59 (by decide) (fun hf => ?_) (fun hf => ?_)
    · refine zr_iconst (v := 0) C dX8_takes_66 (by decide) ?_
      refine zsub [] rfl ?_
      exact J67 h14 (0 : Int32) hf
    · refine zr_iconst (v := 1) C dX8_takes_62 (by decide) ?_
      refine zr_goto (tgt := 67) C dX8_takes_63 (by decide) ?_
      refine zsub [] rfl ?_
      exact J67 h14 (1 : Int32) hf
  refine zr_aload_n C dX8_takes_0 rfl 0 rfl ?_
  refine zr_gi C hf kg_X8_22 (fun _ _ _ => rfl) dX8_takes_1 (fun x15 hf => ?_)
  refine zr_ite hf (fun hx hf => zr_tableOut (tgt := 77) C dX8_takes_4 hx (by decide) ?_) (fun hx hf => ?_)
  · refine zr_aload_n C dX8_takes_77 rfl 0 rfl ?_
    refine zr_iload_n C dX8_takes_78 rfl 1 rfl ?_
    refine zr_callVi (As := [.int p0]) (rest := []) C hf (fun x hx => c_X8_takesMore l E n h a0 p0 x hx) kv_X8_36 rfl rfl (Nat.le_of_ble_eq_true rfl) ⟨rfl, rfl⟩ ⟨Nat.le_of_ble_eq_true rfl, Nat.le_of_ble_eq_true rfl⟩ ⟨Nat.le_of_ble_eq_true rfl, Nat.le_of_ble_eq_true rfl⟩ dX8_takes_79 (fun x17 h16 hf => ?_)
    exact zr_zreturn C hf hr (Nat.le_of_ble_eq_true rfl) (Nat.le_of_ble_eq_true rfl) dX8_takes_82
  · refine zr_ite hf (fun he hf => zr_tableIn (off := 28) (tgt := 32) C dX8_takes_4 (by rw [he]; decide) (by rw [he]; decide) (by rw [he]; decide +kernel) (by decide) ?_) (fun _ hf => ?_)
    · refine zr_aload_n C dX8_takes_32 rfl 0 rfl ?_
      refine zr_iload_n C dX8_takes_33 rfl 1 rfl ?_
      refine zr_callSUi (As := [.int p0]) (rest := [.ref (zB E + a0)]) C hf (fun x hx => c_X9_digitOf l E n h p0 x hx) ku_X8_25 rfl rfl (Nat.le_of_ble_eq_true rfl) ⟨rfl, rfl⟩ ⟨Nat.le_of_ble_eq_true rfl, Nat.le_of_ble_eq_true rfl⟩ ⟨Nat.le_of_ble_eq_true rfl, Nat.le_of_ble_eq_true rfl⟩ dX8_takes_34 (fun x19 h18 hf => ?_)
      refine zr_callVi (As := [.int x19]) (rest := []) C hf (fun x hx => c_X8_takesDoing l E n h18 a0 x19 x hx) kv_X8_29 rfl rfl (Nat.le_of_ble_eq_true rfl) ⟨rfl, rfl⟩ ⟨Nat.le_of_ble_eq_true rfl, Nat.le_of_ble_eq_true rfl⟩ ⟨Nat.le_of_ble_eq_true rfl, Nat.le_of_ble_eq_true rfl⟩ dX8_takes_37 (fun x21 h20 hf => ?_)
      exact zr_zreturn C hf hr (Nat.le_of_ble_eq_true rfl) (Nat.le_of_ble_eq_true rfl) dX8_takes_40
    refine zr_ite hf (fun he hf => zr_tableIn (off := 37) (tgt := 41) C dX8_takes_4 (by rw [he]; decide) (by rw [he]; decide) (by rw [he]; decide +kernel) (by decide) ?_) (fun _ hf => ?_)
    · refine zr_aload_n C dX8_takes_41 rfl 0 rfl ?_
      refine zr_iload_n C dX8_takes_42 rfl 1 rfl ?_
      refine zr_bipush (v := 42) C dX8_takes_43 (by decide) ?_
      refine zr_icmp_ne (tgt := 52) C hf dX8_takes_45 (by decide) (fun hf => ?_) (fun hf => ?_)
      · refine zr_iconst (v := 1) C dX8_takes_52 (by decide) ?_
        refine zsub [1] rfl ?_
        exact J53 h p0 a0 (1 : Int32) hf
      · refine zr_iconst (v := 2) C dX8_takes_48 (by decide) ?_
        refine zr_goto (tgt := 53) C dX8_takes_49 (by decide) ?_
        refine zsub [1] rfl ?_
        exact J53 h p0 a0 (2 : Int32) hf
    refine zr_ite hf (fun he hf => zr_tableIn (off := 64) (tgt := 68) C dX8_takes_4 (by rw [he]; decide) (by rw [he]; decide) (by rw [he]; decide +kernel) (by decide) ?_) (fun _ hf => ?_)
    · refine zr_aload_n C dX8_takes_68 rfl 0 rfl ?_
      refine zr_iload_n C dX8_takes_69 rfl 1 rfl ?_
      refine zr_callSUi (As := [.int p0]) (rest := [.ref (zB E + a0)]) C hf (fun x hx => c_X9_digitOf l E n h p0 x hx) ku_X8_25 rfl rfl (Nat.le_of_ble_eq_true rfl) ⟨rfl, rfl⟩ ⟨Nat.le_of_ble_eq_true rfl, Nat.le_of_ble_eq_true rfl⟩ ⟨Nat.le_of_ble_eq_true rfl, Nat.le_of_ble_eq_true rfl⟩ dX8_takes_70 (fun x23 h22 hf => ?_)
      refine zr_callVi (As := [.int x23]) (rest := []) C hf (fun x hx => c_X8_takesFirstDigit l E n h22 a0 x23 x hx) kv_X8_33 rfl rfl (Nat.le_of_ble_eq_true rfl) ⟨rfl, rfl⟩ ⟨Nat.le_of_ble_eq_true rfl, Nat.le_of_ble_eq_true rfl⟩ ⟨Nat.le_of_ble_eq_true rfl, Nat.le_of_ble_eq_true rfl⟩ dX8_takes_73 (fun x25 h24 hf => ?_)
      exact zr_zreturn C hf hr (Nat.le_of_ble_eq_true rfl) (Nat.le_of_ble_eq_true rfl) dX8_takes_76
    cases hf
theorem dX5_firstWrong_0 : decode cX5_firstWrong 0 = .ok (.aload_n 1, 1) := by decide +kernel
theorem dX5_firstWrong_1 : decode cX5_firstWrong 1 = .ok (.invokevirtual 29, 3) := by decide +kernel
theorem dX5_firstWrong_4 : decode cX5_firstWrong 4 = .ok (.iconst 0, 1) := by decide +kernel
theorem dX5_firstWrong_5 : decode cX5_firstWrong 5 = .ok (.istore_n 2, 1) := by decide +kernel
theorem dX5_firstWrong_6 : decode cX5_firstWrong 6 = .ok (.iload_n 2, 1) := by decide +kernel
theorem dX5_firstWrong_7 : decode cX5_firstWrong 7 = .ok (.aload_n 0, 1) := by decide +kernel
theorem dX5_firstWrong_8 : decode cX5_firstWrong 8 = .ok (.getfield 15, 3) := by decide +kernel
theorem dX5_firstWrong_11 : decode cX5_firstWrong 11 = .ok (.if_icmp .ge 24, 3) := by decide +kernel
theorem dX5_firstWrong_14 : decode cX5_firstWrong 14 = .ok (.aload_n 1, 1) := by decide +kernel
theorem dX5_firstWrong_15 : decode cX5_firstWrong 15 = .ok (.aload_n 0, 1) := by decide +kernel
theorem dX5_firstWrong_16 : decode cX5_firstWrong 16 = .ok (.getfield 9, 3) := by decide +kernel
theorem dX5_firstWrong_19 : decode cX5_firstWrong 19 = .ok (.iload_n 2, 1) := by decide +kernel
theorem dX5_firstWrong_20 : decode cX5_firstWrong 20 = .ok (.iaload, 1) := by decide +kernel
theorem dX5_firstWrong_21 : decode cX5_firstWrong 21 = .ok (.invokevirtual 34, 3) := by decide +kernel
theorem dX5_firstWrong_24 : decode cX5_firstWrong 24 = .ok (.ifCond .ne 5, 3) := by decide +kernel
theorem dX5_firstWrong_27 : decode cX5_firstWrong 27 = .ok (.iload_n 2, 1) := by decide +kernel
theorem dX5_firstWrong_28 : decode cX5_firstWrong 28 = .ok (.ireturn, 1) := by decide +kernel
theorem dX5_firstWrong_29 : decode cX5_firstWrong 29 = .ok (.iinc 2 1, 3) := by decide +kernel
theorem dX5_firstWrong_32 : decode cX5_firstWrong 32 = .ok (.goto (-26), 3) := by decide +kernel
theorem dX5_firstWrong_35 : decode cX5_firstWrong 35 = .ok (.aload_n 0, 1) := by decide +kernel
theorem dX5_firstWrong_36 : decode cX5_firstWrong 36 = .ok (.getfield 15, 3) := by decide +kernel
theorem dX5_firstWrong_39 : decode cX5_firstWrong 39 = .ok (.ireturn, 1) := by decide +kernel
set_option maxHeartbeats 4000000 in
set_option maxRecDepth 100000 in
theorem c_X5_firstWrong (l : Launch) (E : zE) (n : Nat) (h : zH) (a0 : Nat) (p0 : Nat) (res : Int32 × zH) (hf : F_X5_firstWrong n h a0 p0 = some res) : Met l yX5_firstWrong (zw yX5_firstWrong cX5_firstWrong 3 (some .int)) ({ frames := 5, cells := 0, slots := 0, locals := 144 } : Room) (zPc E h [.ref (zB E + a0), .ref (zB E + p0)]) (zQc E res.2 (some (.int res.1))) 0 0 (zfr E) := by
  refine zmet (lo := [(0, .ref (zB E + a0)), (1, .ref (zB E + p0))]) (by decide +kernel) (Nat.le_of_ble_eq_true rfl) rfl ?_
  intro p e s m args below meth c C hr hin
  unfold F_X5_firstWrong at hf
  have J4 : ∀ (h34 : zH) (w32 : Nat) (w33 : Nat), F_X5_firstWrong_J4 n h34 w32 w33 = some res → zW p l e (headSpec (zw yX5_firstWrong cX5_firstWrong 3 (some .int)) ({ frames := 5, cells := 0, slots := 0, locals := 144 } : Room)).room s m args below meth c E 3 (MQ below (zQc E res.2 (some (.int res.1))) args s 0 0 (zfr E)) 0 0 4 [(0, .ref (zB E + w32)), (1, .ref (zB E + w33))] [] h34 := by
    intro h34 w32 w33 hf
    unfold F_X5_firstWrong_J4 at hf
    refine zr_iconst (v := 0) C dX5_firstWrong_4 (by decide) ?_
    refine zr_istore_n (lo2 := [(2, .int (0 : Int32)), (0, .ref (zB E + w32)), (1, .ref (zB E + w33))]) C dX5_firstWrong_5 rfl (by decide) rfl ?_
    have L6 : ∀ (fu : Nat) (x : zH × Int32), zloop (fun kc x => F_X5_firstWrong_B6 n kc x.1 w32 w33 x.2) fu x = some res → zW p l e (headSpec (zw yX5_firstWrong cX5_firstWrong 3 (some .int)) ({ frames := 5, cells := 0, slots := 0, locals := 144 } : Room)).room s m args below meth c E 3 (MQ below (zQc E res.2 (some (.int res.1))) args s 0 0 (zfr E)) 0 0 6 [(0, .ref (zB E + w32)), (1, .ref (zB E + w33)), (2, .int x.2)] [] x.1 := by
      refine z_loop _ ?_
      intro kc6 hk6 x hf
      obtain ⟨h36, x35⟩ := x
      dsimp only at hf ⊢
      unfold F_X5_firstWrong_B6 at hf
      have J24 : ∀ (h39 : zH) (x37 : Int32) (x38 : Int32), F_X5_firstWrong_J24 n kc6 h39 w32 w33 x37 x38 = some res → zW p l e (headSpec (zw yX5_firstWrong cX5_firstWrong 3 (some .int)) ({ frames := 5, cells := 0, slots := 0, locals := 144 } : Room)).room s m args below meth c E 3 (MQ below (zQc E res.2 (some (.int res.1))) args s 0 0 (zfr E)) 0 0 24 [(0, .ref (zB E + w32)), (1, .ref (zB E + w33)), (2, .int x37)] [.int x38] h39 := by
        intro h39 x37 x38 hf
        unfold F_X5_firstWrong_J24 at hf
        refine zr_if_ne (tgt := 29) C hf dX5_firstWrong_24 (by decide) (fun hf => ?_) (fun hf => ?_)
        · refine zr_iinc (v0 := 1) (k := 2) (f := fun v => [(2, .int v), (0, .ref (zB E + w32)), (1, .ref (zB E + w33))]) C hf (by decide) dX5_firstWrong_29 rfl (by decide) (fun v => rfl) (fun x40 hf => ?_)
          refine zr_goto (tgt := 6) C dX5_firstWrong_32 (by decide) ?_
          refine zsub [1, 2, 0] rfl ?_
          exact hk6 (h39, x40) hf
        · refine zr_iload_n C dX5_firstWrong_27 rfl 2 rfl ?_
          exact zr_ireturn C hf hr (Nat.le_of_ble_eq_true rfl) (Nat.le_of_ble_eq_true rfl) dX5_firstWrong_28
      refine zr_iload_n C dX5_firstWrong_6 rfl 2 rfl ?_
      refine zr_aload_n C dX5_firstWrong_7 rfl 0 rfl ?_
      refine zr_gi C hf kg_X5_15 (fun _ _ _ => rfl) dX5_firstWrong_8 (fun x41 hf => ?_)
      refine zr_icmp_ge (tgt := 35) C hf dX5_firstWrong_11 (by decide) (fun hf => ?_) (fun hf => ?_)
      · refine zr_aload_n C dX5_firstWrong_35 rfl 0 rfl ?_
        refine zr_gi C hf kg_X5_15 (fun _ _ _ => rfl) dX5_firstWrong_36 (fun x42 hf => ?_)
        exact zr_ireturn C hf hr (Nat.le_of_ble_eq_true rfl) (Nat.le_of_ble_eq_true rfl) dX5_firstWrong_39
      · refine zr_aload_n C dX5_firstWrong_14 rfl 1 rfl ?_
        refine zr_aload_n C dX5_firstWrong_15 rfl 0 rfl ?_
        refine zr_gr C hf kg_X5_9 (fun _ _ _ => rfl) dX5_firstWrong_16 (fun w43 hf => ?_)
        refine zr_iload_n C dX5_firstWrong_19 rfl 2 rfl ?_
        refine zr_iaload C hf dX5_firstWrong_20 (fun x44 hf => ?_)
        refine zr_ite hf (fun _ hf => ?_) (fun _ hf => ?_)
        · refine zr_callAi (As := [.int x44]) (rest := []) C hf (fun x hx => c_X1_takes l E n h36 w33 x44 x hx) ka_X5_34_X1 rfl rfl (Nat.le_of_ble_eq_true rfl) ⟨rfl, rfl⟩ ⟨Nat.le_of_ble_eq_true rfl, Nat.le_of_ble_eq_true rfl⟩ ⟨Nat.le_of_ble_eq_true rfl, Nat.le_of_ble_eq_true rfl⟩ dX5_firstWrong_21 (fun x46 h45 hf => ?_)
          exact J24 h45 x35 x46 hf
        refine zr_ite hf (fun _ hf => ?_) (fun _ hf => ?_)
        · refine zr_callAi (As := [.int x44]) (rest := []) C hf (fun x hx => c_X7_takes l E n h36 w33 x44 x hx) ka_X5_34_X7 rfl rfl (Nat.le_of_ble_eq_true rfl) ⟨rfl, rfl⟩ ⟨Nat.le_of_ble_eq_true rfl, Nat.le_of_ble_eq_true rfl⟩ ⟨Nat.le_of_ble_eq_true rfl, Nat.le_of_ble_eq_true rfl⟩ dX5_firstWrong_21 (fun x46 h45 hf => ?_)
          exact J24 h45 x35 x46 hf
        refine zr_callAi (As := [.int x44]) (rest := []) C hf (fun x hx => c_X8_takes l E n h36 w33 x44 x hx) ka_X5_34_X8 rfl rfl (Nat.le_of_ble_eq_true rfl) ⟨rfl, rfl⟩ ⟨Nat.le_of_ble_eq_true rfl, Nat.le_of_ble_eq_true rfl⟩ ⟨Nat.le_of_ble_eq_true rfl, Nat.le_of_ble_eq_true rfl⟩ dX5_firstWrong_21 (fun x46 h45 hf => ?_)
        exact J24 h45 x35 x46 hf
    refine zsub [1, 2, 0] rfl ?_
    exact L6 n (h34, (0 : Int32)) hf
  refine zr_aload_n C dX5_firstWrong_0 rfl 1 rfl ?_
  refine zr_ite hf (fun _ hf => ?_) (fun _ hf => ?_)
  · refine zr_callAv (As := []) (rest := []) C hf (fun x hx => c_X1_begin l E n h p0 x hx) ka_X5_29_X1 rfl rfl (Nat.le_of_ble_eq_true rfl) ⟨rfl, rfl⟩ ⟨Nat.le_of_ble_eq_true rfl, Nat.le_of_ble_eq_true rfl⟩ ⟨Nat.le_of_ble_eq_true rfl, Nat.le_of_ble_eq_true rfl⟩ dX5_firstWrong_1 (fun _ h47 hf => ?_)
    exact J4 h47 a0 p0 hf
  refine zr_ite hf (fun _ hf => ?_) (fun _ hf => ?_)
  · refine zr_callAv (As := []) (rest := []) C hf (fun x hx => c_X7_begin l E n h p0 x hx) ka_X5_29_X7 rfl rfl (Nat.le_of_ble_eq_true rfl) ⟨rfl, rfl⟩ ⟨Nat.le_of_ble_eq_true rfl, Nat.le_of_ble_eq_true rfl⟩ ⟨Nat.le_of_ble_eq_true rfl, Nat.le_of_ble_eq_true rfl⟩ dX5_firstWrong_1 (fun _ h47 hf => ?_)
    exact J4 h47 a0 p0 hf
  refine zr_callAv (As := []) (rest := []) C hf (fun x hx => c_X8_begin l E n h p0 x hx) ka_X5_29_X8 rfl rfl (Nat.le_of_ble_eq_true rfl) ⟨rfl, rfl⟩ ⟨Nat.le_of_ble_eq_true rfl, Nat.le_of_ble_eq_true rfl⟩ ⟨Nat.le_of_ble_eq_true rfl, Nat.le_of_ble_eq_true rfl⟩ dX5_firstWrong_1 (fun _ h47 hf => ?_)
  exact J4 h47 a0 p0 hf
theorem dX10_fault_0 : decode cX10_fault 0 = .ok (.iload_n 1, 1) := by decide +kernel
theorem dX10_fault_1 : decode cX10_fault 1 = .ok (.tableswitch 63 0 2 #[27, 39, 51], 27) := by decide +kernel
theorem dX10_fault_28 : decode cX10_fault 28 = .ok (.aload_n 0, 1) := by decide +kernel
theorem dX10_fault_29 : decode cX10_fault 29 = .ok (.getfield 10, 3) := by decide +kernel
theorem dX10_fault_32 : decode cX10_fault 32 = .ok (.aload_n 0, 1) := by decide +kernel
theorem dX10_fault_33 : decode cX10_fault 33 = .ok (.getfield 40, 3) := by decide +kernel
theorem dX10_fault_36 : decode cX10_fault 36 = .ok (.invokevirtual 121, 3) := by decide +kernel
theorem dX10_fault_39 : decode cX10_fault 39 = .ok (.ireturn, 1) := by decide +kernel
theorem dX10_fault_40 : decode cX10_fault 40 = .ok (.aload_n 0, 1) := by decide +kernel
theorem dX10_fault_41 : decode cX10_fault 41 = .ok (.getfield 10, 3) := by decide +kernel
theorem dX10_fault_44 : decode cX10_fault 44 = .ok (.aload_n 0, 1) := by decide +kernel
theorem dX10_fault_45 : decode cX10_fault 45 = .ok (.getfield 63, 3) := by decide +kernel
theorem dX10_fault_48 : decode cX10_fault 48 = .ok (.invokevirtual 121, 3) := by decide +kernel
theorem dX10_fault_51 : decode cX10_fault 51 = .ok (.ireturn, 1) := by decide +kernel
theorem dX10_fault_52 : decode cX10_fault 52 = .ok (.aload_n 0, 1) := by decide +kernel
theorem dX10_fault_53 : decode cX10_fault 53 = .ok (.getfield 10, 3) := by decide +kernel
theorem dX10_fault_56 : decode cX10_fault 56 = .ok (.aload_n 0, 1) := by decide +kernel
theorem dX10_fault_57 : decode cX10_fault 57 = .ok (.getfield 53, 3) := by decide +kernel
theorem dX10_fault_60 : decode cX10_fault 60 = .ok (.invokevirtual 121, 3) := by decide +kernel
theorem dX10_fault_63 : decode cX10_fault 63 = .ok (.ireturn, 1) := by decide +kernel
theorem dX10_fault_64 : decode cX10_fault 64 = .ok (.bipush (-102), 2) := by decide +kernel
theorem dX10_fault_66 : decode cX10_fault 66 = .ok (.ireturn, 1) := by decide +kernel
set_option maxHeartbeats 4000000 in
set_option maxRecDepth 100000 in
theorem c_X10_fault (l : Launch) (E : zE) (n : Nat) (h : zH) (a0 : Nat) (p0 : Int32) (res : Int32 × zH) (hf : F_X10_fault n h a0 p0 = some res) : Met l yX10_fault (zw yX10_fault cX10_fault 2 (some .int)) ({ frames := 6, cells := 0, slots := 0, locals := 166 } : Room) (zPc E h [.ref (zB E + a0), .int p0]) (zQc E res.2 (some (.int res.1))) 0 0 (zfr E) := by
  refine zmet (lo := [(0, .ref (zB E + a0)), (1, .int p0)]) (by decide +kernel) (Nat.le_of_ble_eq_true rfl) rfl ?_
  intro p e s m args below meth c C hr hin
  unfold F_X10_fault at hf
  refine zr_iload_n C dX10_fault_0 rfl 1 rfl ?_
  refine zr_ite hf (fun hx hf => zr_tableOut (tgt := 64) C dX10_fault_1 hx (by decide) ?_) (fun hx hf => ?_)
  · refine zr_bipush (v := -102) C dX10_fault_64 (by decide) ?_
    exact zr_ireturn C hf hr (Nat.le_of_ble_eq_true rfl) (Nat.le_of_ble_eq_true rfl) dX10_fault_66
  · refine zr_ite hf (fun he hf => zr_tableIn (off := 27) (tgt := 28) C dX10_fault_1 (by rw [he]; decide) (by rw [he]; decide) (by rw [he]; decide +kernel) (by decide) ?_) (fun _ hf => ?_)
    · refine zr_aload_n C dX10_fault_28 rfl 0 rfl ?_
      refine zr_gr C hf kg_X10_10 (fun _ _ _ => rfl) dX10_fault_29 (fun w1 hf => ?_)
      refine zr_aload_n C dX10_fault_32 rfl 0 rfl ?_
      refine zr_gr C hf kg_X10_40 (fun _ _ _ => rfl) dX10_fault_33 (fun w2 hf => ?_)
      refine zr_callVi (As := [.ref (zB E + w2)]) (rest := []) C hf (fun x hx => c_X5_firstWrong l E n h w1 w2 x hx) kv_X10_121 rfl rfl (Nat.le_of_ble_eq_true rfl) ⟨rfl, rfl⟩ ⟨Nat.le_of_ble_eq_true rfl, Nat.le_of_ble_eq_true rfl⟩ ⟨Nat.le_of_ble_eq_true rfl, Nat.le_of_ble_eq_true rfl⟩ dX10_fault_36 (fun x4 h3 hf => ?_)
      exact zr_ireturn C hf hr (Nat.le_of_ble_eq_true rfl) (Nat.le_of_ble_eq_true rfl) dX10_fault_39
    refine zr_ite hf (fun he hf => zr_tableIn (off := 39) (tgt := 40) C dX10_fault_1 (by rw [he]; decide) (by rw [he]; decide) (by rw [he]; decide +kernel) (by decide) ?_) (fun _ hf => ?_)
    · refine zr_aload_n C dX10_fault_40 rfl 0 rfl ?_
      refine zr_gr C hf kg_X10_10 (fun _ _ _ => rfl) dX10_fault_41 (fun w5 hf => ?_)
      refine zr_aload_n C dX10_fault_44 rfl 0 rfl ?_
      refine zr_gr C hf kg_X10_63 (fun _ _ _ => rfl) dX10_fault_45 (fun w6 hf => ?_)
      refine zr_callVi (As := [.ref (zB E + w6)]) (rest := []) C hf (fun x hx => c_X5_firstWrong l E n h w5 w6 x hx) kv_X10_121 rfl rfl (Nat.le_of_ble_eq_true rfl) ⟨rfl, rfl⟩ ⟨Nat.le_of_ble_eq_true rfl, Nat.le_of_ble_eq_true rfl⟩ ⟨Nat.le_of_ble_eq_true rfl, Nat.le_of_ble_eq_true rfl⟩ dX10_fault_48 (fun x8 h7 hf => ?_)
      exact zr_ireturn C hf hr (Nat.le_of_ble_eq_true rfl) (Nat.le_of_ble_eq_true rfl) dX10_fault_51
    refine zr_ite hf (fun he hf => zr_tableIn (off := 51) (tgt := 52) C dX10_fault_1 (by rw [he]; decide) (by rw [he]; decide) (by rw [he]; decide +kernel) (by decide) ?_) (fun _ hf => ?_)
    · refine zr_aload_n C dX10_fault_52 rfl 0 rfl ?_
      refine zr_gr C hf kg_X10_10 (fun _ _ _ => rfl) dX10_fault_53 (fun w9 hf => ?_)
      refine zr_aload_n C dX10_fault_56 rfl 0 rfl ?_
      refine zr_gr C hf kg_X10_53 (fun _ _ _ => rfl) dX10_fault_57 (fun w10 hf => ?_)
      refine zr_callVi (As := [.ref (zB E + w10)]) (rest := []) C hf (fun x hx => c_X5_firstWrong l E n h w9 w10 x hx) kv_X10_121 rfl rfl (Nat.le_of_ble_eq_true rfl) ⟨rfl, rfl⟩ ⟨Nat.le_of_ble_eq_true rfl, Nat.le_of_ble_eq_true rfl⟩ ⟨Nat.le_of_ble_eq_true rfl, Nat.le_of_ble_eq_true rfl⟩ dX10_fault_60 (fun x12 h11 hf => ?_)
      exact zr_ireturn C hf hr (Nat.le_of_ble_eq_true rfl) (Nat.le_of_ble_eq_true rfl) dX10_fault_63
    cases hf
theorem dX1_isWhole_0 : decode cX1_isWhole 0 = .ok (.aload_n 0, 1) := by decide +kernel
theorem dX1_isWhole_1 : decode cX1_isWhole 1 = .ok (.getfield 13, 3) := by decide +kernel
theorem dX1_isWhole_4 : decode cX1_isWhole 4 = .ok (.bipush 10, 2) := by decide +kernel
theorem dX1_isWhole_6 : decode cX1_isWhole 6 = .ok (.if_icmp .lt 7, 3) := by decide +kernel
theorem dX1_isWhole_9 : decode cX1_isWhole 9 = .ok (.iconst 1, 1) := by decide +kernel
theorem dX1_isWhole_10 : decode cX1_isWhole 10 = .ok (.goto 4, 3) := by decide +kernel
theorem dX1_isWhole_13 : decode cX1_isWhole 13 = .ok (.iconst 0, 1) := by decide +kernel
theorem dX1_isWhole_14 : decode cX1_isWhole 14 = .ok (.ireturn, 1) := by decide +kernel
set_option maxHeartbeats 4000000 in
set_option maxRecDepth 100000 in
theorem c_X1_isWhole (l : Launch) (E : zE) (n : Nat) (h : zH) (a0 : Nat) (res : Int32 × zH) (hf : F_X1_isWhole n h a0 = some res) : Met l yX1_isWhole (zw yX1_isWhole cX1_isWhole 1 (some .boolean)) ({ frames := 0, cells := 0, slots := 0, locals := 0 } : Room) (zPc E h [.ref (zB E + a0)]) (zQc E res.2 (some (.int res.1))) 0 0 (zfr E) := by
  refine zmet (lo := [(0, .ref (zB E + a0))]) (by decide +kernel) (Nat.le_of_ble_eq_true rfl) rfl ?_
  intro p e s m args below meth c C hr hin
  unfold F_X1_isWhole at hf
  have J14 : ∀ (h4 : zH) (x3 : Int32), F_X1_isWhole_J14 n h4 x3 = some res → zW p l e (headSpec (zw yX1_isWhole cX1_isWhole 1 (some .boolean)) ({ frames := 0, cells := 0, slots := 0, locals := 0 } : Room)).room s m args below meth c E 1 (MQ below (zQc E res.2 (some (.int res.1))) args s 0 0 (zfr E)) 0 0 14 [] [.int x3] h4 := by
    intro h4 x3 hf
    unfold F_X1_isWhole_J14 at hf
    exact zr_zreturn C hf hr (Nat.le_of_ble_eq_true rfl) (Nat.le_of_ble_eq_true rfl) dX1_isWhole_14
  refine zr_aload_n C dX1_isWhole_0 rfl 0 rfl ?_
  refine zr_gi C hf kg_X1_13 (fun _ _ _ => rfl) dX1_isWhole_1 (fun x5 hf => ?_)
  refine zr_bipush (v := 10) C dX1_isWhole_4 (by decide) ?_
  refine zr_icmp_lt (tgt := 13) C hf dX1_isWhole_6 (by decide) (fun hf => ?_) (fun hf => ?_)
  · refine zr_iconst (v := 0) C dX1_isWhole_13 (by decide) ?_
    refine zsub [] rfl ?_
    exact J14 h (0 : Int32) hf
  · refine zr_iconst (v := 1) C dX1_isWhole_9 (by decide) ?_
    refine zr_goto (tgt := 14) C dX1_isWhole_10 (by decide) ?_
    refine zsub [] rfl ?_
    exact J14 h (1 : Int32) hf
theorem dX7_isWhole_0 : decode cX7_isWhole 0 = .ok (.aload_n 0, 1) := by decide +kernel
theorem dX7_isWhole_1 : decode cX7_isWhole 1 = .ok (.getfield 29, 3) := by decide +kernel
theorem dX7_isWhole_4 : decode cX7_isWhole 4 = .ok (.ifCond .eq 15, 3) := by decide +kernel
theorem dX7_isWhole_7 : decode cX7_isWhole 7 = .ok (.aload_n 0, 1) := by decide +kernel
theorem dX7_isWhole_8 : decode cX7_isWhole 8 = .ok (.getfield 25, 3) := by decide +kernel
theorem dX7_isWhole_11 : decode cX7_isWhole 11 = .ok (.iconst 4, 1) := by decide +kernel
theorem dX7_isWhole_12 : decode cX7_isWhole 12 = .ok (.if_icmp .lt 7, 3) := by decide +kernel
theorem dX7_isWhole_15 : decode cX7_isWhole 15 = .ok (.iconst 1, 1) := by decide +kernel
theorem dX7_isWhole_16 : decode cX7_isWhole 16 = .ok (.goto 4, 3) := by decide +kernel
theorem dX7_isWhole_19 : decode cX7_isWhole 19 = .ok (.iconst 0, 1) := by decide +kernel
theorem dX7_isWhole_20 : decode cX7_isWhole 20 = .ok (.ireturn, 1) := by decide +kernel
set_option maxHeartbeats 4000000 in
set_option maxRecDepth 100000 in
theorem c_X7_isWhole (l : Launch) (E : zE) (n : Nat) (h : zH) (a0 : Nat) (res : Int32 × zH) (hf : F_X7_isWhole n h a0 = some res) : Met l yX7_isWhole (zw yX7_isWhole cX7_isWhole 1 (some .boolean)) ({ frames := 0, cells := 0, slots := 0, locals := 0 } : Room) (zPc E h [.ref (zB E + a0)]) (zQc E res.2 (some (.int res.1))) 0 0 (zfr E) := by
  refine zmet (lo := [(0, .ref (zB E + a0))]) (by decide +kernel) (Nat.le_of_ble_eq_true rfl) rfl ?_
  intro p e s m args below meth c C hr hin
  unfold F_X7_isWhole at hf
  have J20 : ∀ (h4 : zH) (x3 : Int32), F_X7_isWhole_J20 n h4 x3 = some res → zW p l e (headSpec (zw yX7_isWhole cX7_isWhole 1 (some .boolean)) ({ frames := 0, cells := 0, slots := 0, locals := 0 } : Room)).room s m args below meth c E 1 (MQ below (zQc E res.2 (some (.int res.1))) args s 0 0 (zfr E)) 0 0 20 [] [.int x3] h4 := by
    intro h4 x3 hf
    unfold F_X7_isWhole_J20 at hf
    exact zr_zreturn C hf hr (Nat.le_of_ble_eq_true rfl) (Nat.le_of_ble_eq_true rfl) dX7_isWhole_20
  have J19 : ∀ (h6 : zH), F_X7_isWhole_J19 n h6 = some res → zW p l e (headSpec (zw yX7_isWhole cX7_isWhole 1 (some .boolean)) ({ frames := 0, cells := 0, slots := 0, locals := 0 } : Room)).room s m args below meth c E 1 (MQ below (zQc E res.2 (some (.int res.1))) args s 0 0 (zfr E)) 0 0 19 [] [] h6 := by
    intro h6 hf
    unfold F_X7_isWhole_J19 at hf
    refine zr_iconst (v := 0) C dX7_isWhole_19 (by decide) ?_
    exact J20 h6 (0 : Int32) hf
  refine zr_aload_n C dX7_isWhole_0 rfl 0 rfl ?_
  refine zr_gi C hf kg_X7_29 (fun _ _ _ => rfl) dX7_isWhole_1 (fun x7 hf => ?_)
  refine zr_if_eq (tgt := 19) C hf dX7_isWhole_4 (by decide) (fun hf => ?_) (fun hf => ?_)
  · refine zsub [] rfl ?_
    exact J19 h hf
  · refine zr_aload_n C dX7_isWhole_7 rfl 0 rfl ?_
    refine zr_gi C hf kg_X7_25 (fun _ _ _ => rfl) dX7_isWhole_8 (fun x8 hf => ?_)
    refine zr_iconst (v := 4) C dX7_isWhole_11 (by decide) ?_
    refine zr_icmp_lt (tgt := 19) C hf dX7_isWhole_12 (by decide) (fun hf => ?_) (fun hf => ?_)
    · refine zsub [] rfl ?_
      exact J19 h hf
    · refine zr_iconst (v := 1) C dX7_isWhole_15 (by decide) ?_
      refine zr_goto (tgt := 20) C dX7_isWhole_16 (by decide) ?_
      refine zsub [] rfl ?_
      exact J20 h (1 : Int32) hf
theorem dX8_isWhole_0 : decode cX8_isWhole 0 = .ok (.aload_n 0, 1) := by decide +kernel
theorem dX8_isWhole_1 : decode cX8_isWhole 1 = .ok (.getfield 22, 3) := by decide +kernel
theorem dX8_isWhole_4 : decode cX8_isWhole 4 = .ok (.iconst 3, 1) := by decide +kernel
theorem dX8_isWhole_5 : decode cX8_isWhole 5 = .ok (.if_icmp .ne 7, 3) := by decide +kernel
theorem dX8_isWhole_8 : decode cX8_isWhole 8 = .ok (.iconst 1, 1) := by decide +kernel
theorem dX8_isWhole_9 : decode cX8_isWhole 9 = .ok (.goto 4, 3) := by decide +kernel
theorem dX8_isWhole_12 : decode cX8_isWhole 12 = .ok (.iconst 0, 1) := by decide +kernel
theorem dX8_isWhole_13 : decode cX8_isWhole 13 = .ok (.ireturn, 1) := by decide +kernel
set_option maxHeartbeats 4000000 in
set_option maxRecDepth 100000 in
theorem c_X8_isWhole (l : Launch) (E : zE) (n : Nat) (h : zH) (a0 : Nat) (res : Int32 × zH) (hf : F_X8_isWhole n h a0 = some res) : Met l yX8_isWhole (zw yX8_isWhole cX8_isWhole 1 (some .boolean)) ({ frames := 0, cells := 0, slots := 0, locals := 0 } : Room) (zPc E h [.ref (zB E + a0)]) (zQc E res.2 (some (.int res.1))) 0 0 (zfr E) := by
  refine zmet (lo := [(0, .ref (zB E + a0))]) (by decide +kernel) (Nat.le_of_ble_eq_true rfl) rfl ?_
  intro p e s m args below meth c C hr hin
  unfold F_X8_isWhole at hf
  have J13 : ∀ (h4 : zH) (x3 : Int32), F_X8_isWhole_J13 n h4 x3 = some res → zW p l e (headSpec (zw yX8_isWhole cX8_isWhole 1 (some .boolean)) ({ frames := 0, cells := 0, slots := 0, locals := 0 } : Room)).room s m args below meth c E 1 (MQ below (zQc E res.2 (some (.int res.1))) args s 0 0 (zfr E)) 0 0 13 [] [.int x3] h4 := by
    intro h4 x3 hf
    unfold F_X8_isWhole_J13 at hf
    exact zr_zreturn C hf hr (Nat.le_of_ble_eq_true rfl) (Nat.le_of_ble_eq_true rfl) dX8_isWhole_13
  refine zr_aload_n C dX8_isWhole_0 rfl 0 rfl ?_
  refine zr_gi C hf kg_X8_22 (fun _ _ _ => rfl) dX8_isWhole_1 (fun x5 hf => ?_)
  refine zr_iconst (v := 3) C dX8_isWhole_4 (by decide) ?_
  refine zr_icmp_ne (tgt := 12) C hf dX8_isWhole_5 (by decide) (fun hf => ?_) (fun hf => ?_)
  · refine zr_iconst (v := 0) C dX8_isWhole_12 (by decide) ?_
    refine zsub [] rfl ?_
    exact J13 h (0 : Int32) hf
  · refine zr_iconst (v := 1) C dX8_isWhole_8 (by decide) ?_
    refine zr_goto (tgt := 13) C dX8_isWhole_9 (by decide) ?_
    refine zsub [] rfl ?_
    exact J13 h (1 : Int32) hf
theorem dX5_reads_0 : decode cX5_reads 0 = .ok (.aload_n 0, 1) := by decide +kernel
theorem dX5_reads_1 : decode cX5_reads 1 = .ok (.aload_n 1, 1) := by decide +kernel
theorem dX5_reads_2 : decode cX5_reads 2 = .ok (.invokevirtual 38, 3) := by decide +kernel
theorem dX5_reads_5 : decode cX5_reads 5 = .ok (.aload_n 0, 1) := by decide +kernel
theorem dX5_reads_6 : decode cX5_reads 6 = .ok (.getfield 15, 3) := by decide +kernel
theorem dX5_reads_9 : decode cX5_reads 9 = .ok (.if_icmp .ne 14, 3) := by decide +kernel
theorem dX5_reads_12 : decode cX5_reads 12 = .ok (.aload_n 1, 1) := by decide +kernel
theorem dX5_reads_13 : decode cX5_reads 13 = .ok (.invokevirtual 42, 3) := by decide +kernel
theorem dX5_reads_16 : decode cX5_reads 16 = .ok (.ifCond .eq 7, 3) := by decide +kernel
theorem dX5_reads_19 : decode cX5_reads 19 = .ok (.iconst 1, 1) := by decide +kernel
theorem dX5_reads_20 : decode cX5_reads 20 = .ok (.goto 4, 3) := by decide +kernel
theorem dX5_reads_23 : decode cX5_reads 23 = .ok (.iconst 0, 1) := by decide +kernel
theorem dX5_reads_24 : decode cX5_reads 24 = .ok (.ireturn, 1) := by decide +kernel
set_option maxHeartbeats 4000000 in
set_option maxRecDepth 100000 in
theorem c_X5_reads (l : Launch) (E : zE) (n : Nat) (h : zH) (a0 : Nat) (p0 : Nat) (res : Int32 × zH) (hf : F_X5_reads n h a0 p0 = some res) : Met l yX5_reads (zw yX5_reads cX5_reads 2 (some .boolean)) ({ frames := 6, cells := 0, slots := 0, locals := 166 } : Room) (zPc E h [.ref (zB E + a0), .ref (zB E + p0)]) (zQc E res.2 (some (.int res.1))) 0 0 (zfr E) := by
  refine zmet (lo := [(0, .ref (zB E + a0)), (1, .ref (zB E + p0))]) (by decide +kernel) (Nat.le_of_ble_eq_true rfl) rfl ?_
  intro p e s m args below meth c C hr hin
  unfold F_X5_reads at hf
  have J24 : ∀ (h4 : zH) (x3 : Int32), F_X5_reads_J24 n h4 x3 = some res → zW p l e (headSpec (zw yX5_reads cX5_reads 2 (some .boolean)) ({ frames := 6, cells := 0, slots := 0, locals := 166 } : Room)).room s m args below meth c E 2 (MQ below (zQc E res.2 (some (.int res.1))) args s 0 0 (zfr E)) 0 0 24 [] [.int x3] h4 := by
    intro h4 x3 hf
    unfold F_X5_reads_J24 at hf
    exact zr_zreturn C hf hr (Nat.le_of_ble_eq_true rfl) (Nat.le_of_ble_eq_true rfl) dX5_reads_24
  have J23 : ∀ (h6 : zH), F_X5_reads_J23 n h6 = some res → zW p l e (headSpec (zw yX5_reads cX5_reads 2 (some .boolean)) ({ frames := 6, cells := 0, slots := 0, locals := 166 } : Room)).room s m args below meth c E 2 (MQ below (zQc E res.2 (some (.int res.1))) args s 0 0 (zfr E)) 0 0 23 [] [] h6 := by
    intro h6 hf
    unfold F_X5_reads_J23 at hf
    refine zr_iconst (v := 0) C dX5_reads_23 (by decide) ?_
    exact J24 h6 (0 : Int32) hf
  have J16 : ∀ (h10 : zH) (x9 : Int32), F_X5_reads_J16 n h10 x9 = some res → zW p l e (headSpec (zw yX5_reads cX5_reads 2 (some .boolean)) ({ frames := 6, cells := 0, slots := 0, locals := 166 } : Room)).room s m args below meth c E 2 (MQ below (zQc E res.2 (some (.int res.1))) args s 0 0 (zfr E)) 0 0 16 [] [.int x9] h10 := by
    intro h10 x9 hf
    unfold F_X5_reads_J16 at hf
    refine zr_if_eq (tgt := 23) C hf dX5_reads_16 (by decide) (fun hf => ?_) (fun hf => ?_)
    · exact J23 h10 hf
    · refine zr_iconst (v := 1) C dX5_reads_19 (by decide) ?_
      refine zr_goto (tgt := 24) C dX5_reads_20 (by decide) ?_
      exact J24 h10 (1 : Int32) hf
  refine zr_aload_n C dX5_reads_0 rfl 0 rfl ?_
  refine zr_aload_n C dX5_reads_1 rfl 1 rfl ?_
  refine zr_callVi (As := [.ref (zB E + p0)]) (rest := []) C hf (fun x hx => c_X5_firstWrong l E n h a0 p0 x hx) kv_X5_38 rfl rfl (Nat.le_of_ble_eq_true rfl) ⟨rfl, rfl⟩ ⟨Nat.le_of_ble_eq_true rfl, Nat.le_of_ble_eq_true rfl⟩ ⟨Nat.le_of_ble_eq_true rfl, Nat.le_of_ble_eq_true rfl⟩ dX5_reads_2 (fun x12 h11 hf => ?_)
  refine zr_aload_n C dX5_reads_5 rfl 0 rfl ?_
  refine zr_gi C hf kg_X5_15 (fun _ _ _ => rfl) dX5_reads_6 (fun x13 hf => ?_)
  refine zr_icmp_ne (tgt := 23) C hf dX5_reads_9 (by decide) (fun hf => ?_) (fun hf => ?_)
  · refine zsub [] rfl ?_
    exact J23 h11 hf
  · refine zr_aload_n C dX5_reads_12 rfl 1 rfl ?_
    refine zr_ite hf (fun _ hf => ?_) (fun _ hf => ?_)
    · refine zr_callAi (As := []) (rest := []) C hf (fun x hx => c_X1_isWhole l E n h11 p0 x hx) ka_X5_42_X1 rfl rfl (Nat.le_of_ble_eq_true rfl) ⟨rfl, rfl⟩ ⟨Nat.le_of_ble_eq_true rfl, Nat.le_of_ble_eq_true rfl⟩ ⟨Nat.le_of_ble_eq_true rfl, Nat.le_of_ble_eq_true rfl⟩ dX5_reads_13 (fun x15 h14 hf => ?_)
      refine zsub [] rfl ?_
      exact J16 h14 x15 hf
    refine zr_ite hf (fun _ hf => ?_) (fun _ hf => ?_)
    · refine zr_callAi (As := []) (rest := []) C hf (fun x hx => c_X7_isWhole l E n h11 p0 x hx) ka_X5_42_X7 rfl rfl (Nat.le_of_ble_eq_true rfl) ⟨rfl, rfl⟩ ⟨Nat.le_of_ble_eq_true rfl, Nat.le_of_ble_eq_true rfl⟩ ⟨Nat.le_of_ble_eq_true rfl, Nat.le_of_ble_eq_true rfl⟩ dX5_reads_13 (fun x15 h14 hf => ?_)
      refine zsub [] rfl ?_
      exact J16 h14 x15 hf
    refine zr_callAi (As := []) (rest := []) C hf (fun x hx => c_X8_isWhole l E n h11 p0 x hx) ka_X5_42_X8 rfl rfl (Nat.le_of_ble_eq_true rfl) ⟨rfl, rfl⟩ ⟨Nat.le_of_ble_eq_true rfl, Nat.le_of_ble_eq_true rfl⟩ ⟨Nat.le_of_ble_eq_true rfl, Nat.le_of_ble_eq_true rfl⟩ dX5_reads_13 (fun x15 h14 hf => ?_)
    refine zsub [] rfl ?_
    exact J16 h14 x15 hf
theorem dX4_clear_0 : decode cX4_clear 0 = .ok (.aload_n 0, 1) := by decide +kernel
theorem dX4_clear_1 : decode cX4_clear 1 = .ok (.iconst 0, 1) := by decide +kernel
theorem dX4_clear_2 : decode cX4_clear 2 = .ok (.putfield 9, 3) := by decide +kernel
theorem dX4_clear_5 : decode cX4_clear 5 = .ok (.return_, 1) := by decide +kernel
set_option maxHeartbeats 4000000 in
set_option maxRecDepth 100000 in
theorem c_X4_clear (l : Launch) (E : zE) (n : Nat) (h : zH) (a0 : Nat) (res : Unit × zH) (hf : F_X4_clear n h a0 = some res) : Met l yX4_clear (zw yX4_clear cX4_clear 1 none) ({ frames := 0, cells := 0, slots := 0, locals := 0 } : Room) (zPc E h [.ref (zB E + a0)]) (zQc E res.2 none) 0 0 (zfr E) := by
  refine zmet (lo := [(0, .ref (zB E + a0))]) (by decide +kernel) (Nat.le_of_ble_eq_true rfl) rfl ?_
  intro p e s m args below meth c C hr hin
  unfold F_X4_clear at hf
  refine zr_aload_n C dX4_clear_0 rfl 0 rfl ?_
  refine zr_iconst (v := 0) C dX4_clear_1 (by decide) ?_
  refine zr_si C hf kp_X4_9 (fun _ _ _ => rfl) rfl dX4_clear_2 (fun h1 hf => ?_)
  exact zr_return C hf hr (Nat.le_of_ble_eq_true rfl) (Nat.le_of_ble_eq_true rfl) dX4_clear_5
theorem dX0_calm_0 : decode cX0_calm 0 = .ok (.iconst 0, 1) := by decide +kernel
theorem dX0_calm_1 : decode cX0_calm 1 = .ok (.istore_n 2, 1) := by decide +kernel
theorem dX0_calm_2 : decode cX0_calm 2 = .ok (.iload_n 2, 1) := by decide +kernel
theorem dX0_calm_3 : decode cX0_calm 3 = .ok (.bipush 6, 2) := by decide +kernel
theorem dX0_calm_5 : decode cX0_calm 5 = .ok (.if_icmp .ge 31, 3) := by decide +kernel
theorem dX0_calm_8 : decode cX0_calm 8 = .ok (.iconst 0, 1) := by decide +kernel
theorem dX0_calm_9 : decode cX0_calm 9 = .ok (.istore_n 3, 1) := by decide +kernel
theorem dX0_calm_10 : decode cX0_calm 10 = .ok (.iload_n 3, 1) := by decide +kernel
theorem dX0_calm_11 : decode cX0_calm 11 = .ok (.iconst 4, 1) := by decide +kernel
theorem dX0_calm_12 : decode cX0_calm 12 = .ok (.if_icmp .ge 18, 3) := by decide +kernel
theorem dX0_calm_15 : decode cX0_calm 15 = .ok (.aload_n 0, 1) := by decide +kernel
theorem dX0_calm_16 : decode cX0_calm 16 = .ok (.getfield 11, 3) := by decide +kernel
theorem dX0_calm_19 : decode cX0_calm 19 = .ok (.iload_n 2, 1) := by decide +kernel
theorem dX0_calm_20 : decode cX0_calm 20 = .ok (.aaload, 1) := by decide +kernel
theorem dX0_calm_21 : decode cX0_calm 21 = .ok (.iload_n 3, 1) := by decide +kernel
theorem dX0_calm_22 : decode cX0_calm 22 = .ok (.iconst 0, 1) := by decide +kernel
theorem dX0_calm_23 : decode cX0_calm 23 = .ok (.iastore, 1) := by decide +kernel
theorem dX0_calm_24 : decode cX0_calm 24 = .ok (.iinc 3 1, 3) := by decide +kernel
theorem dX0_calm_27 : decode cX0_calm 27 = .ok (.goto (-17), 3) := by decide +kernel
theorem dX0_calm_30 : decode cX0_calm 30 = .ok (.iinc 2 1, 3) := by decide +kernel
theorem dX0_calm_33 : decode cX0_calm 33 = .ok (.goto (-31), 3) := by decide +kernel
theorem dX0_calm_36 : decode cX0_calm 36 = .ok (.iconst 0, 1) := by decide +kernel
theorem dX0_calm_37 : decode cX0_calm 37 = .ok (.istore_n 2, 1) := by decide +kernel
theorem dX0_calm_38 : decode cX0_calm 38 = .ok (.iload_n 2, 1) := by decide +kernel
theorem dX0_calm_39 : decode cX0_calm 39 = .ok (.aload_n 1, 1) := by decide +kernel
theorem dX0_calm_40 : decode cX0_calm 40 = .ok (.getfield 20, 3) := by decide +kernel
theorem dX0_calm_43 : decode cX0_calm 43 = .ok (.if_icmp .ge 21, 3) := by decide +kernel
theorem dX0_calm_46 : decode cX0_calm 46 = .ok (.aload_n 0, 1) := by decide +kernel
theorem dX0_calm_47 : decode cX0_calm 47 = .ok (.getfield 16, 3) := by decide +kernel
theorem dX0_calm_50 : decode cX0_calm 50 = .ok (.iload_n 2, 1) := by decide +kernel
theorem dX0_calm_51 : decode cX0_calm 51 = .ok (.aload_n 1, 1) := by decide +kernel
theorem dX0_calm_52 : decode cX0_calm 52 = .ok (.getfield 26, 3) := by decide +kernel
theorem dX0_calm_55 : decode cX0_calm 55 = .ok (.iload_n 2, 1) := by decide +kernel
theorem dX0_calm_56 : decode cX0_calm 56 = .ok (.iaload, 1) := by decide +kernel
theorem dX0_calm_57 : decode cX0_calm 57 = .ok (.iastore, 1) := by decide +kernel
theorem dX0_calm_58 : decode cX0_calm 58 = .ok (.iinc 2 1, 3) := by decide +kernel
theorem dX0_calm_61 : decode cX0_calm 61 = .ok (.goto (-23), 3) := by decide +kernel
theorem dX0_calm_64 : decode cX0_calm 64 = .ok (.return_, 1) := by decide +kernel
set_option maxHeartbeats 4000000 in
set_option maxRecDepth 100000 in
theorem c_X0_calm (l : Launch) (E : zE) (n : Nat) (h : zH) (a0 : Nat) (p0 : Nat) (res : Unit × zH) (hf : F_X0_calm n h a0 p0 = some res) : Met l yX0_calm (zw yX0_calm cX0_calm 4 none) ({ frames := 0, cells := 0, slots := 0, locals := 0 } : Room) (zPc E h [.ref (zB E + a0), .ref (zB E + p0)]) (zQc E res.2 none) 0 0 (zfr E) := by
  refine zmet (lo := [(0, .ref (zB E + a0)), (1, .ref (zB E + p0))]) (by decide +kernel) (Nat.le_of_ble_eq_true rfl) rfl ?_
  intro p e s m args below meth c C hr hin
  unfold F_X0_calm at hf
  refine zr_iconst (v := 0) C dX0_calm_0 (by decide) ?_
  refine zr_istore_n (lo2 := [(2, .int (0 : Int32)), (0, .ref (zB E + a0)), (1, .ref (zB E + p0))]) C dX0_calm_1 rfl (by decide) rfl ?_
  have L2 : ∀ (fu : Nat) (x : zH × Int32), zloop (fun kc x => F_X0_calm_B2 n kc x.1 a0 p0 x.2) fu x = some res → zW p l e (headSpec (zw yX0_calm cX0_calm 4 none) ({ frames := 0, cells := 0, slots := 0, locals := 0 } : Room)).room s m args below meth c E 4 (MQ below (zQc E res.2 none) args s 0 0 (zfr E)) 0 0 2 [(0, .ref (zB E + a0)), (1, .ref (zB E + p0)), (2, .int x.2)] [] x.1 := by
    refine z_loop _ ?_
    intro kc2 hk2 x hf
    obtain ⟨h41, x40⟩ := x
    dsimp only at hf ⊢
    unfold F_X0_calm_B2 at hf
    refine zr_iload_n C dX0_calm_2 rfl 2 rfl ?_
    refine zr_bipush (v := 6) C dX0_calm_3 (by decide) ?_
    refine zr_icmp_ge (tgt := 36) C hf dX0_calm_5 (by decide) (fun hf => ?_) (fun hf => ?_)
    · refine zr_iconst (v := 0) C dX0_calm_36 (by decide) ?_
      refine zr_istore_n (lo2 := [(2, .int (0 : Int32)), (0, .ref (zB E + a0)), (1, .ref (zB E + p0))]) C dX0_calm_37 rfl (by decide) rfl ?_
      have L38 : ∀ (fu : Nat) (x : zH × Int32), zloop (fun kc x => F_X0_calm_B38 n kc x.1 a0 p0 x.2) fu x = some res → zW p l e (headSpec (zw yX0_calm cX0_calm 4 none) ({ frames := 0, cells := 0, slots := 0, locals := 0 } : Room)).room s m args below meth c E 4 (MQ below (zQc E res.2 none) args s 0 0 (zfr E)) 0 0 38 [(0, .ref (zB E + a0)), (1, .ref (zB E + p0)), (2, .int x.2)] [] x.1 := by
        refine z_loop _ ?_
        intro kc38 hk38 x hf
        obtain ⟨h43, x42⟩ := x
        dsimp only at hf ⊢
        unfold F_X0_calm_B38 at hf
        refine zr_iload_n C dX0_calm_38 rfl 2 rfl ?_
        refine zr_aload_n C dX0_calm_39 rfl 1 rfl ?_
        refine zr_gi C hf kg_X0_20 (fun _ _ _ => rfl) dX0_calm_40 (fun x44 hf => ?_)
        refine zr_icmp_ge (tgt := 64) C hf dX0_calm_43 (by decide) (fun hf => ?_) (fun hf => ?_)
        · exact zr_return C hf hr (Nat.le_of_ble_eq_true rfl) (Nat.le_of_ble_eq_true rfl) dX0_calm_64
        · refine zr_aload_n C dX0_calm_46 rfl 0 rfl ?_
          refine zr_gr C hf kg_X0_16 (fun _ _ _ => rfl) dX0_calm_47 (fun w45 hf => ?_)
          refine zr_iload_n C dX0_calm_50 rfl 2 rfl ?_
          refine zr_aload_n C dX0_calm_51 rfl 1 rfl ?_
          refine zr_gr C hf kg_X0_26 (fun _ _ _ => rfl) dX0_calm_52 (fun w46 hf => ?_)
          refine zr_iload_n C dX0_calm_55 rfl 2 rfl ?_
          refine zr_iaload C hf dX0_calm_56 (fun x47 hf => ?_)
          refine zr_iastore C hf dX0_calm_57 (fun h48 hf => ?_)
          refine zr_iinc (v0 := 1) (k := 2) (f := fun v => [(2, .int v), (0, .ref (zB E + a0)), (1, .ref (zB E + p0))]) C hf (by decide) dX0_calm_58 rfl (by decide) (fun v => rfl) (fun x49 hf => ?_)
          refine zr_goto (tgt := 38) C dX0_calm_61 (by decide) ?_
          refine zsub [1, 2, 0] rfl ?_
          exact hk38 (h48, x49) hf
      refine zsub [1, 2, 0] rfl ?_
      exact L38 n (h41, (0 : Int32)) hf
    · refine zr_iconst (v := 0) C dX0_calm_8 (by decide) ?_
      refine zr_istore_n (lo2 := [(3, .int (0 : Int32)), (0, .ref (zB E + a0)), (1, .ref (zB E + p0)), (2, .int x40)]) C dX0_calm_9 rfl (by decide) rfl ?_
      have L10 : ∀ (fu : Nat) (x : zH × Int32), zloop (fun kc x => F_X0_calm_B10 n kc2 kc x.1 a0 p0 x40 x.2) fu x = some res → zW p l e (headSpec (zw yX0_calm cX0_calm 4 none) ({ frames := 0, cells := 0, slots := 0, locals := 0 } : Room)).room s m args below meth c E 4 (MQ below (zQc E res.2 none) args s 0 0 (zfr E)) 0 0 10 [(0, .ref (zB E + a0)), (1, .ref (zB E + p0)), (2, .int x40), (3, .int x.2)] [] x.1 := by
        refine z_loop _ ?_
        intro kc10 hk10 x hf
        obtain ⟨h51, x50⟩ := x
        dsimp only at hf ⊢
        unfold F_X0_calm_B10 at hf
        refine zr_iload_n C dX0_calm_10 rfl 3 rfl ?_
        refine zr_iconst (v := 4) C dX0_calm_11 (by decide) ?_
        refine zr_icmp_ge (tgt := 30) C hf dX0_calm_12 (by decide) (fun hf => ?_) (fun hf => ?_)
        · refine zr_iinc (v0 := 1) (k := 2) (f := fun v => [(2, .int v), (0, .ref (zB E + a0)), (1, .ref (zB E + p0)), (3, .int x50)]) C hf (by decide) dX0_calm_30 rfl (by decide) (fun v => rfl) (fun x52 hf => ?_)
          refine zr_goto (tgt := 2) C dX0_calm_33 (by decide) ?_
          refine zsub [1, 2, 0] rfl ?_
          exact hk2 (h51, x52) hf
        · refine zr_aload_n C dX0_calm_15 rfl 0 rfl ?_
          refine zr_gr C hf kg_X0_11 (fun _ _ _ => rfl) dX0_calm_16 (fun w53 hf => ?_)
          refine zr_iload_n C dX0_calm_19 rfl 2 rfl ?_
          refine zr_aaload (t0 := 3) C hf (by decide) rfl rfl dX0_calm_20 (fun w54 hf => ?_)
          refine zr_iload_n C dX0_calm_21 rfl 3 rfl ?_
          refine zr_iconst (v := 0) C dX0_calm_22 (by decide) ?_
          refine zr_iastore C hf dX0_calm_23 (fun h55 hf => ?_)
          refine zr_iinc (v0 := 1) (k := 3) (f := fun v => [(3, .int v), (0, .ref (zB E + a0)), (1, .ref (zB E + p0)), (2, .int x40)]) C hf (by decide) dX0_calm_24 rfl (by decide) (fun v => rfl) (fun x56 hf => ?_)
          refine zr_goto (tgt := 10) C dX0_calm_27 (by decide) ?_
          refine zsub [1, 2, 3, 0] rfl ?_
          exact hk10 (h55, x56) hf
      refine zsub [1, 2, 3, 0] rfl ?_
      exact L10 n (h41, (0 : Int32)) hf
  refine zsub [1, 2, 0] rfl ?_
  exact L2 n (h, (0 : Int32)) hf
theorem dX3_drop_0 : decode cX3_drop 0 = .ok (.aload_n 0, 1) := by decide +kernel
theorem dX3_drop_1 : decode cX3_drop 1 = .ok (.iconst (-1), 1) := by decide +kernel
theorem dX3_drop_2 : decode cX3_drop 2 = .ok (.putfield 25, 3) := by decide +kernel
theorem dX3_drop_5 : decode cX3_drop 5 = .ok (.return_, 1) := by decide +kernel
set_option maxHeartbeats 4000000 in
set_option maxRecDepth 100000 in
theorem c_X3_drop (l : Launch) (E : zE) (n : Nat) (h : zH) (a0 : Nat) (res : Unit × zH) (hf : F_X3_drop n h a0 = some res) : Met l yX3_drop (zw yX3_drop cX3_drop 1 none) ({ frames := 0, cells := 0, slots := 0, locals := 0 } : Room) (zPc E h [.ref (zB E + a0)]) (zQc E res.2 none) 0 0 (zfr E) := by
  refine zmet (lo := [(0, .ref (zB E + a0))]) (by decide +kernel) (Nat.le_of_ble_eq_true rfl) rfl ?_
  intro p e s m args below meth c C hr hin
  unfold F_X3_drop at hf
  refine zr_aload_n C dX3_drop_0 rfl 0 rfl ?_
  refine zr_iconst (v := -1) C dX3_drop_1 (by decide) ?_
  refine zr_si C hf kp_X3_25 (fun _ _ _ => rfl) rfl dX3_drop_2 (fun h1 hf => ?_)
  exact zr_return C hf hr (Nat.le_of_ble_eq_true rfl) (Nat.le_of_ble_eq_true rfl) dX3_drop_5
theorem dX1_rings_0 : decode cX1_rings 0 = .ok (.aload_n 0, 1) := by decide +kernel
theorem dX1_rings_1 : decode cX1_rings 1 = .ok (.getfield 9, 3) := by decide +kernel
theorem dX1_rings_4 : decode cX1_rings 4 = .ok (.iconst 0, 1) := by decide +kernel
theorem dX1_rings_5 : decode cX1_rings 5 = .ok (.iaload, 1) := by decide +kernel
theorem dX1_rings_6 : decode cX1_rings 6 = .ok (.ireturn, 1) := by decide +kernel
set_option maxHeartbeats 4000000 in
set_option maxRecDepth 100000 in
theorem c_X1_rings (l : Launch) (E : zE) (n : Nat) (h : zH) (a0 : Nat) (res : Int32 × zH) (hf : F_X1_rings n h a0 = some res) : Met l yX1_rings (zw yX1_rings cX1_rings 1 (some .int)) ({ frames := 0, cells := 0, slots := 0, locals := 0 } : Room) (zPc E h [.ref (zB E + a0)]) (zQc E res.2 (some (.int res.1))) 0 0 (zfr E) := by
  refine zmet (lo := [(0, .ref (zB E + a0))]) (by decide +kernel) (Nat.le_of_ble_eq_true rfl) rfl ?_
  intro p e s m args below meth c C hr hin
  unfold F_X1_rings at hf
  refine zr_aload_n C dX1_rings_0 rfl 0 rfl ?_
  refine zr_gr C hf kg_X1_9 (fun _ _ _ => rfl) dX1_rings_1 (fun w1 hf => ?_)
  refine zr_iconst (v := 0) C dX1_rings_4 (by decide) ?_
  refine zr_iaload C hf dX1_rings_5 (fun x2 hf => ?_)
  exact zr_ireturn C hf hr (Nat.le_of_ble_eq_true rfl) (Nat.le_of_ble_eq_true rfl) dX1_rings_6
theorem dX10_cup_0 : decode cX10_cup 0 = .ok (.aload_n 0, 1) := by decide +kernel
theorem dX10_cup_1 : decode cX10_cup 1 = .ok (.getfield 10, 3) := by decide +kernel
theorem dX10_cup_4 : decode cX10_cup 4 = .ok (.aload_n 0, 1) := by decide +kernel
theorem dX10_cup_5 : decode cX10_cup 5 = .ok (.getfield 40, 3) := by decide +kernel
theorem dX10_cup_8 : decode cX10_cup 8 = .ok (.invokevirtual 125, 3) := by decide +kernel
theorem dX10_cup_11 : decode cX10_cup 11 = .ok (.ifCond .ne 6, 3) := by decide +kernel
theorem dX10_cup_14 : decode cX10_cup 14 = .ok (.bipush (-103), 2) := by decide +kernel
theorem dX10_cup_16 : decode cX10_cup 16 = .ok (.ireturn, 1) := by decide +kernel
theorem dX10_cup_17 : decode cX10_cup 17 = .ok (.aload_n 0, 1) := by decide +kernel
theorem dX10_cup_18 : decode cX10_cup 18 = .ok (.getfield 36, 3) := by decide +kernel
theorem dX10_cup_21 : decode cX10_cup 21 = .ok (.astore_n 1, 1) := by decide +kernel
theorem dX10_cup_22 : decode cX10_cup 22 = .ok (.aload_n 0, 1) := by decide +kernel
theorem dX10_cup_23 : decode cX10_cup 23 = .ok (.aload_n 0, 1) := by decide +kernel
theorem dX10_cup_24 : decode cX10_cup 24 = .ok (.getfield 40, 3) := by decide +kernel
theorem dX10_cup_27 : decode cX10_cup 27 = .ok (.putfield 36, 3) := by decide +kernel
theorem dX10_cup_30 : decode cX10_cup 30 = .ok (.aload_n 0, 1) := by decide +kernel
theorem dX10_cup_31 : decode cX10_cup 31 = .ok (.aload_n 1, 1) := by decide +kernel
theorem dX10_cup_32 : decode cX10_cup 32 = .ok (.putfield 40, 3) := by decide +kernel
theorem dX10_cup_35 : decode cX10_cup 35 = .ok (.aload_n 0, 1) := by decide +kernel
theorem dX10_cup_36 : decode cX10_cup 36 = .ok (.dup, 1) := by decide +kernel
theorem dX10_cup_37 : decode cX10_cup 37 = .ok (.getfield 43, 3) := by decide +kernel
theorem dX10_cup_40 : decode cX10_cup 40 = .ok (.iconst 1, 1) := by decide +kernel
theorem dX10_cup_41 : decode cX10_cup 41 = .ok (.iadd, 1) := by decide +kernel
theorem dX10_cup_42 : decode cX10_cup 42 = .ok (.putfield 43, 3) := by decide +kernel
theorem dX10_cup_45 : decode cX10_cup 45 = .ok (.aload_n 0, 1) := by decide +kernel
theorem dX10_cup_46 : decode cX10_cup 46 = .ok (.getfield 10, 3) := by decide +kernel
theorem dX10_cup_49 : decode cX10_cup 49 = .ok (.invokevirtual 117, 3) := by decide +kernel
theorem dX10_cup_52 : decode cX10_cup 52 = .ok (.pop, 1) := by decide +kernel
theorem dX10_cup_53 : decode cX10_cup 53 = .ok (.aload_n 0, 1) := by decide +kernel
theorem dX10_cup_54 : decode cX10_cup 54 = .ok (.getfield 75, 3) := by decide +kernel
theorem dX10_cup_57 : decode cX10_cup 57 = .ok (.invokevirtual 129, 3) := by decide +kernel
theorem dX10_cup_60 : decode cX10_cup 60 = .ok (.aload_n 0, 1) := by decide +kernel
theorem dX10_cup_61 : decode cX10_cup 61 = .ok (.getfield 85, 3) := by decide +kernel
theorem dX10_cup_64 : decode cX10_cup 64 = .ok (.aload_n 0, 1) := by decide +kernel
theorem dX10_cup_65 : decode cX10_cup 65 = .ok (.getfield 75, 3) := by decide +kernel
theorem dX10_cup_68 : decode cX10_cup 68 = .ok (.invokevirtual 131, 3) := by decide +kernel
theorem dX10_cup_71 : decode cX10_cup 71 = .ok (.aload_n 0, 1) := by decide +kernel
theorem dX10_cup_72 : decode cX10_cup 72 = .ok (.getfield 95, 3) := by decide +kernel
theorem dX10_cup_75 : decode cX10_cup 75 = .ok (.invokevirtual 135, 3) := by decide +kernel
theorem dX10_cup_78 : decode cX10_cup 78 = .ok (.iconst 0, 1) := by decide +kernel
theorem dX10_cup_79 : decode cX10_cup 79 = .ok (.istore_n 2, 1) := by decide +kernel
theorem dX10_cup_80 : decode cX10_cup 80 = .ok (.iload_n 2, 1) := by decide +kernel
theorem dX10_cup_81 : decode cX10_cup 81 = .ok (.bipush 6, 2) := by decide +kernel
theorem dX10_cup_83 : decode cX10_cup 83 = .ok (.if_icmp .ge 16, 3) := by decide +kernel
theorem dX10_cup_86 : decode cX10_cup 86 = .ok (.aload_n 0, 1) := by decide +kernel
theorem dX10_cup_87 : decode cX10_cup 87 = .ok (.getfield 99, 3) := by decide +kernel
theorem dX10_cup_90 : decode cX10_cup 90 = .ok (.iload_n 2, 1) := by decide +kernel
theorem dX10_cup_91 : decode cX10_cup 91 = .ok (.iconst 0, 1) := by decide +kernel
theorem dX10_cup_92 : decode cX10_cup 92 = .ok (.iastore, 1) := by decide +kernel
theorem dX10_cup_93 : decode cX10_cup 93 = .ok (.iinc 2 1, 3) := by decide +kernel
theorem dX10_cup_96 : decode cX10_cup 96 = .ok (.goto (-16), 3) := by decide +kernel
theorem dX10_cup_99 : decode cX10_cup 99 = .ok (.aload_n 0, 1) := by decide +kernel
theorem dX10_cup_100 : decode cX10_cup 100 = .ok (.getfield 36, 3) := by decide +kernel
theorem dX10_cup_103 : decode cX10_cup 103 = .ok (.invokevirtual 138, 3) := by decide +kernel
theorem dX10_cup_106 : decode cX10_cup 106 = .ok (.ireturn, 1) := by decide +kernel
set_option maxHeartbeats 4000000 in
set_option maxRecDepth 100000 in
theorem c_X10_cup (l : Launch) (E : zE) (n : Nat) (h : zH) (a0 : Nat) (res : Int32 × zH) (hf : F_X10_cup n h a0 = some res) : Met l yX10_cup (zw yX10_cup cX10_cup 3 (some .int)) ({ frames := 7, cells := 0, slots := 0, locals := 187 } : Room) (zPc E h [.ref (zB E + a0)]) (zQc E res.2 (some (.int res.1))) 0 0 (zfr E) := by
  refine zmet (lo := [(0, .ref (zB E + a0))]) (by decide +kernel) (Nat.le_of_ble_eq_true rfl) rfl ?_
  intro p e s m args below meth c C hr hin
  unfold F_X10_cup at hf
  refine zr_aload_n C dX10_cup_0 rfl 0 rfl ?_
  refine zr_gr C hf kg_X10_10 (fun _ _ _ => rfl) dX10_cup_1 (fun w1 hf => ?_)
  refine zr_aload_n C dX10_cup_4 rfl 0 rfl ?_
  refine zr_gr C hf kg_X10_40 (fun _ _ _ => rfl) dX10_cup_5 (fun w2 hf => ?_)
  refine zr_callVi (As := [.ref (zB E + w2)]) (rest := []) C hf (fun x hx => c_X5_reads l E n h w1 w2 x hx) kv_X10_125 rfl rfl (Nat.le_of_ble_eq_true rfl) ⟨rfl, rfl⟩ ⟨Nat.le_of_ble_eq_true rfl, Nat.le_of_ble_eq_true rfl⟩ ⟨Nat.le_of_ble_eq_true rfl, Nat.le_of_ble_eq_true rfl⟩ dX10_cup_8 (fun x4 h3 hf => ?_)
  refine zr_if_ne (tgt := 17) C hf dX10_cup_11 (by decide) (fun hf => ?_) (fun hf => ?_)
  · refine zr_aload_n C dX10_cup_17 rfl 0 rfl ?_
    refine zr_gr C hf kg_X10_36 (fun _ _ _ => rfl) dX10_cup_18 (fun w5 hf => ?_)
    refine zr_astore_n (lo2 := [(1, .ref (zB E + w5)), (0, .ref (zB E + a0))]) C dX10_cup_21 rfl (by decide) rfl ?_
    refine zr_aload_n C dX10_cup_22 rfl 1 rfl ?_
    refine zr_aload_n C dX10_cup_23 rfl 1 rfl ?_
    refine zr_gr C hf kg_X10_40 (fun _ _ _ => rfl) dX10_cup_24 (fun w6 hf => ?_)
    refine zr_sr C hf kp_X10_36 (fun _ _ _ => rfl) ⟨rfl, rfl⟩ dX10_cup_27 (fun h7 hf => ?_)
    refine zr_aload_n C dX10_cup_30 rfl 1 rfl ?_
    refine zr_aload_n C dX10_cup_31 rfl 0 rfl ?_
    refine zr_sr C hf kp_X10_40 (fun _ _ _ => rfl) ⟨rfl, rfl⟩ dX10_cup_32 (fun h8 hf => ?_)
    refine zr_aload_n C dX10_cup_35 rfl 1 rfl ?_
    refine zr_dup C dX10_cup_36 rfl ?_
    refine zr_gi C hf kg_X10_43 (fun _ _ _ => rfl) dX10_cup_37 (fun x9 hf => ?_)
    refine zr_iconst (v := 1) C dX10_cup_40 (by decide) ?_
    refine zr_iadd C hf dX10_cup_41 (fun x10 hf => ?_)
    refine zr_si C hf kp_X10_43 (fun _ _ _ => rfl) rfl dX10_cup_42 (fun h11 hf => ?_)
    refine zr_aload_n C dX10_cup_45 rfl 1 rfl ?_
    refine zr_gr C hf kg_X10_10 (fun _ _ _ => rfl) dX10_cup_46 (fun w12 hf => ?_)
    refine zr_callVi (As := []) (rest := []) C hf (fun x hx => c_X5_clear l E n h11 w12 x hx) kv_X10_117 rfl rfl (Nat.le_of_ble_eq_true rfl) ⟨rfl, rfl⟩ ⟨Nat.le_of_ble_eq_true rfl, Nat.le_of_ble_eq_true rfl⟩ ⟨Nat.le_of_ble_eq_true rfl, Nat.le_of_ble_eq_true rfl⟩ dX10_cup_49 (fun x14 h13 hf => ?_)
    refine zr_pop C dX10_cup_52 rfl ?_
    refine zr_aload_n C dX10_cup_53 rfl 1 rfl ?_
    refine zr_gr C hf kg_X10_75 (fun _ _ _ => rfl) dX10_cup_54 (fun w15 hf => ?_)
    refine zr_callVv (As := []) (rest := []) C hf (fun x hx => c_X4_clear l E n h13 w15 x hx) kv_X10_129 rfl rfl (Nat.le_of_ble_eq_true rfl) ⟨rfl, rfl⟩ ⟨Nat.le_of_ble_eq_true rfl, Nat.le_of_ble_eq_true rfl⟩ ⟨Nat.le_of_ble_eq_true rfl, Nat.le_of_ble_eq_true rfl⟩ dX10_cup_57 (fun _ h16 hf => ?_)
    refine zr_aload_n C dX10_cup_60 rfl 1 rfl ?_
    refine zr_gr C hf kg_X10_85 (fun _ _ _ => rfl) dX10_cup_61 (fun w17 hf => ?_)
    refine zr_aload_n C dX10_cup_64 rfl 1 rfl ?_
    refine zr_gr C hf kg_X10_75 (fun _ _ _ => rfl) dX10_cup_65 (fun w18 hf => ?_)
    refine zr_callVv (As := [.ref (zB E + w18)]) (rest := []) C hf (fun x hx => c_X0_calm l E n h16 w17 w18 x hx) kv_X10_131 rfl rfl (Nat.le_of_ble_eq_true rfl) ⟨rfl, rfl⟩ ⟨Nat.le_of_ble_eq_true rfl, Nat.le_of_ble_eq_true rfl⟩ ⟨Nat.le_of_ble_eq_true rfl, Nat.le_of_ble_eq_true rfl⟩ dX10_cup_68 (fun _ h19 hf => ?_)
    refine zr_aload_n C dX10_cup_71 rfl 1 rfl ?_
    refine zr_gr C hf kg_X10_95 (fun _ _ _ => rfl) dX10_cup_72 (fun w20 hf => ?_)
    refine zr_callVv (As := []) (rest := []) C hf (fun x hx => c_X3_drop l E n h19 w20 x hx) kv_X10_135 rfl rfl (Nat.le_of_ble_eq_true rfl) ⟨rfl, rfl⟩ ⟨Nat.le_of_ble_eq_true rfl, Nat.le_of_ble_eq_true rfl⟩ ⟨Nat.le_of_ble_eq_true rfl, Nat.le_of_ble_eq_true rfl⟩ dX10_cup_75 (fun _ h21 hf => ?_)
    refine zr_iconst (v := 0) C dX10_cup_78 (by decide) ?_
    refine zr_istore_n (lo2 := [(2, .int (0 : Int32)), (1, .ref (zB E + w5)), (0, .ref (zB E + a0))]) C dX10_cup_79 rfl (by decide) rfl ?_
    have L80 : ∀ (fu : Nat) (x : zH × Int32), zloop (fun kc x => F_X10_cup_B80 n kc x.1 a0 x.2) fu x = some res → zW p l e (headSpec (zw yX10_cup cX10_cup 3 (some .int)) ({ frames := 7, cells := 0, slots := 0, locals := 187 } : Room)).room s m args below meth c E 3 (MQ below (zQc E res.2 (some (.int res.1))) args s 0 0 (zfr E)) 0 0 80 [(0, .ref (zB E + a0)), (2, .int x.2)] [] x.1 := by
      refine z_loop _ ?_
      intro kc80 hk80 x hf
      obtain ⟨h32, x31⟩ := x
      dsimp only at hf ⊢
      unfold F_X10_cup_B80 at hf
      refine zr_iload_n C dX10_cup_80 rfl 1 rfl ?_
      refine zr_bipush (v := 6) C dX10_cup_81 (by decide) ?_
      refine zr_icmp_ge (tgt := 99) C hf dX10_cup_83 (by decide) (fun hf => ?_) (fun hf => ?_)
      · refine zr_aload_n C dX10_cup_99 rfl 0 rfl ?_
        refine zr_gr C hf kg_X10_36 (fun _ _ _ => rfl) dX10_cup_100 (fun w33 hf => ?_)
        refine zr_callVi (As := []) (rest := []) C hf (fun x hx => c_X1_rings l E n h32 w33 x hx) kv_X10_138 rfl rfl (Nat.le_of_ble_eq_true rfl) ⟨rfl, rfl⟩ ⟨Nat.le_of_ble_eq_true rfl, Nat.le_of_ble_eq_true rfl⟩ ⟨Nat.le_of_ble_eq_true rfl, Nat.le_of_ble_eq_true rfl⟩ dX10_cup_103 (fun x35 h34 hf => ?_)
        exact zr_ireturn C hf hr (Nat.le_of_ble_eq_true rfl) (Nat.le_of_ble_eq_true rfl) dX10_cup_106
      · refine zr_aload_n C dX10_cup_86 rfl 0 rfl ?_
        refine zr_gr C hf kg_X10_99 (fun _ _ _ => rfl) dX10_cup_87 (fun w36 hf => ?_)
        refine zr_iload_n C dX10_cup_90 rfl 1 rfl ?_
        refine zr_iconst (v := 0) C dX10_cup_91 (by decide) ?_
        refine zr_iastore C hf dX10_cup_92 (fun h37 hf => ?_)
        refine zr_iinc (v0 := 1) (k := 1) (f := fun v => [(2, .int v), (0, .ref (zB E + a0))]) C hf (by decide) dX10_cup_93 rfl (by decide) (fun v => rfl) (fun x38 hf => ?_)
        refine zr_goto (tgt := 80) C dX10_cup_96 (by decide) ?_
        refine zsub [1, 0] rfl ?_
        exact hk80 (h37, x38) hf
    refine zsub [2, 0] rfl ?_
    exact L80 n (h21, (0 : Int32)) hf
  · refine zr_bipush (v := -103) C dX10_cup_14 (by decide) ?_
    exact zr_ireturn C hf hr (Nat.le_of_ble_eq_true rfl) (Nat.le_of_ble_eq_true rfl) dX10_cup_16
theorem dX10_row_0 : decode cX10_row 0 = .ok (.aload_n 0, 1) := by decide +kernel
theorem dX10_row_1 : decode cX10_row 1 = .ok (.getfield 10, 3) := by decide +kernel
theorem dX10_row_4 : decode cX10_row 4 = .ok (.aload_n 0, 1) := by decide +kernel
theorem dX10_row_5 : decode cX10_row 5 = .ok (.getfield 63, 3) := by decide +kernel
theorem dX10_row_8 : decode cX10_row 8 = .ok (.invokevirtual 125, 3) := by decide +kernel
theorem dX10_row_11 : decode cX10_row 11 = .ok (.ifCond .ne 6, 3) := by decide +kernel
theorem dX10_row_14 : decode cX10_row 14 = .ok (.bipush (-103), 2) := by decide +kernel
theorem dX10_row_16 : decode cX10_row 16 = .ok (.ireturn, 1) := by decide +kernel
theorem dX10_row_17 : decode cX10_row 17 = .ok (.aload_n 0, 1) := by decide +kernel
theorem dX10_row_18 : decode cX10_row 18 = .ok (.getfield 67, 3) := by decide +kernel
theorem dX10_row_21 : decode cX10_row 21 = .ok (.bipush 6, 2) := by decide +kernel
theorem dX10_row_23 : decode cX10_row 23 = .ok (.if_icmp .lt 6, 3) := by decide +kernel
theorem dX10_row_26 : decode cX10_row 26 = .ok (.bipush (-104), 2) := by decide +kernel
theorem dX10_row_28 : decode cX10_row 28 = .ok (.ireturn, 1) := by decide +kernel
theorem dX10_row_29 : decode cX10_row 29 = .ok (.aload_n 0, 1) := by decide +kernel
theorem dX10_row_30 : decode cX10_row 30 = .ok (.getfield 58, 3) := by decide +kernel
theorem dX10_row_33 : decode cX10_row 33 = .ok (.aload_n 0, 1) := by decide +kernel
theorem dX10_row_34 : decode cX10_row 34 = .ok (.getfield 67, 3) := by decide +kernel
theorem dX10_row_37 : decode cX10_row 37 = .ok (.aaload, 1) := by decide +kernel
theorem dX10_row_38 : decode cX10_row 38 = .ok (.astore_n 1, 1) := by decide +kernel
theorem dX10_row_39 : decode cX10_row 39 = .ok (.aload_n 0, 1) := by decide +kernel
theorem dX10_row_40 : decode cX10_row 40 = .ok (.getfield 58, 3) := by decide +kernel
theorem dX10_row_43 : decode cX10_row 43 = .ok (.aload_n 0, 1) := by decide +kernel
theorem dX10_row_44 : decode cX10_row 44 = .ok (.getfield 67, 3) := by decide +kernel
theorem dX10_row_47 : decode cX10_row 47 = .ok (.aload_n 0, 1) := by decide +kernel
theorem dX10_row_48 : decode cX10_row 48 = .ok (.getfield 63, 3) := by decide +kernel
theorem dX10_row_51 : decode cX10_row 51 = .ok (.aastore, 1) := by decide +kernel
theorem dX10_row_52 : decode cX10_row 52 = .ok (.aload_n 0, 1) := by decide +kernel
theorem dX10_row_53 : decode cX10_row 53 = .ok (.aload_n 1, 1) := by decide +kernel
theorem dX10_row_54 : decode cX10_row 54 = .ok (.putfield 63, 3) := by decide +kernel
theorem dX10_row_57 : decode cX10_row 57 = .ok (.aload_n 0, 1) := by decide +kernel
theorem dX10_row_58 : decode cX10_row 58 = .ok (.dup, 1) := by decide +kernel
theorem dX10_row_59 : decode cX10_row 59 = .ok (.getfield 67, 3) := by decide +kernel
theorem dX10_row_62 : decode cX10_row 62 = .ok (.iconst 1, 1) := by decide +kernel
theorem dX10_row_63 : decode cX10_row 63 = .ok (.iadd, 1) := by decide +kernel
theorem dX10_row_64 : decode cX10_row 64 = .ok (.putfield 67, 3) := by decide +kernel
theorem dX10_row_67 : decode cX10_row 67 = .ok (.aload_n 0, 1) := by decide +kernel
theorem dX10_row_68 : decode cX10_row 68 = .ok (.getfield 10, 3) := by decide +kernel
theorem dX10_row_71 : decode cX10_row 71 = .ok (.invokevirtual 117, 3) := by decide +kernel
theorem dX10_row_74 : decode cX10_row 74 = .ok (.pop, 1) := by decide +kernel
theorem dX10_row_75 : decode cX10_row 75 = .ok (.aload_n 0, 1) := by decide +kernel
theorem dX10_row_76 : decode cX10_row 76 = .ok (.getfield 67, 3) := by decide +kernel
theorem dX10_row_79 : decode cX10_row 79 = .ok (.iconst 1, 1) := by decide +kernel
theorem dX10_row_80 : decode cX10_row 80 = .ok (.isub, 1) := by decide +kernel
theorem dX10_row_81 : decode cX10_row 81 = .ok (.ireturn, 1) := by decide +kernel
set_option maxHeartbeats 4000000 in
set_option maxRecDepth 100000 in
theorem c_X10_row (l : Launch) (E : zE) (n : Nat) (h : zH) (a0 : Nat) (res : Int32 × zH) (hf : F_X10_row n h a0 = some res) : Met l yX10_row (zw yX10_row cX10_row 2 (some .int)) ({ frames := 7, cells := 0, slots := 0, locals := 187 } : Room) (zPc E h [.ref (zB E + a0)]) (zQc E res.2 (some (.int res.1))) 0 0 (zfr E) := by
  refine zmet (lo := [(0, .ref (zB E + a0))]) (by decide +kernel) (Nat.le_of_ble_eq_true rfl) rfl ?_
  intro p e s m args below meth c C hr hin
  unfold F_X10_row at hf
  refine zr_aload_n C dX10_row_0 rfl 0 rfl ?_
  refine zr_gr C hf kg_X10_10 (fun _ _ _ => rfl) dX10_row_1 (fun w1 hf => ?_)
  refine zr_aload_n C dX10_row_4 rfl 0 rfl ?_
  refine zr_gr C hf kg_X10_63 (fun _ _ _ => rfl) dX10_row_5 (fun w2 hf => ?_)
  refine zr_callVi (As := [.ref (zB E + w2)]) (rest := []) C hf (fun x hx => c_X5_reads l E n h w1 w2 x hx) kv_X10_125 rfl rfl (Nat.le_of_ble_eq_true rfl) ⟨rfl, rfl⟩ ⟨Nat.le_of_ble_eq_true rfl, Nat.le_of_ble_eq_true rfl⟩ ⟨Nat.le_of_ble_eq_true rfl, Nat.le_of_ble_eq_true rfl⟩ dX10_row_8 (fun x4 h3 hf => ?_)
  refine zr_if_ne (tgt := 17) C hf dX10_row_11 (by decide) (fun hf => ?_) (fun hf => ?_)
  · refine zr_aload_n C dX10_row_17 rfl 0 rfl ?_
    refine zr_gi C hf kg_X10_67 (fun _ _ _ => rfl) dX10_row_18 (fun x5 hf => ?_)
    refine zr_bipush (v := 6) C dX10_row_21 (by decide) ?_
    refine zr_icmp_lt (tgt := 29) C hf dX10_row_23 (by decide) (fun hf => ?_) (fun hf => ?_)
    · refine zr_aload_n C dX10_row_29 rfl 0 rfl ?_
      refine zr_gr C hf kg_X10_58 (fun _ _ _ => rfl) dX10_row_30 (fun w6 hf => ?_)
      refine zr_aload_n C dX10_row_33 rfl 0 rfl ?_
      refine zr_gi C hf kg_X10_67 (fun _ _ _ => rfl) dX10_row_34 (fun x7 hf => ?_)
      refine zr_aaload (t0 := 5) C hf (by decide) rfl rfl dX10_row_37 (fun w8 hf => ?_)
      refine zr_astore_n (lo2 := [(1, .ref (zB E + w8)), (0, .ref (zB E + a0))]) C dX10_row_38 rfl (by decide) rfl ?_
      refine zr_aload_n C dX10_row_39 rfl 1 rfl ?_
      refine zr_gr C hf kg_X10_58 (fun _ _ _ => rfl) dX10_row_40 (fun w9 hf => ?_)
      refine zr_aload_n C dX10_row_43 rfl 1 rfl ?_
      refine zr_gi C hf kg_X10_67 (fun _ _ _ => rfl) dX10_row_44 (fun x10 hf => ?_)
      refine zr_aload_n C dX10_row_47 rfl 1 rfl ?_
      refine zr_gr C hf kg_X10_63 (fun _ _ _ => rfl) dX10_row_48 (fun w11 hf => ?_)
      refine zr_aastore (t0 := 5) C hf (by decide) (by decide) rfl rfl dX10_row_51 (fun h12 hf => ?_)
      refine zr_aload_n C dX10_row_52 rfl 1 rfl ?_
      refine zr_aload_n C dX10_row_53 rfl 0 rfl ?_
      refine zr_sr C hf kp_X10_63 (fun _ _ _ => rfl) ⟨rfl, rfl⟩ dX10_row_54 (fun h13 hf => ?_)
      refine zr_aload_n C dX10_row_57 rfl 1 rfl ?_
      refine zr_dup C dX10_row_58 rfl ?_
      refine zr_gi C hf kg_X10_67 (fun _ _ _ => rfl) dX10_row_59 (fun x14 hf => ?_)
      refine zr_iconst (v := 1) C dX10_row_62 (by decide) ?_
      refine zr_iadd C hf dX10_row_63 (fun x15 hf => ?_)
      refine zr_si C hf kp_X10_67 (fun _ _ _ => rfl) rfl dX10_row_64 (fun h16 hf => ?_)
      refine zr_aload_n C dX10_row_67 rfl 1 rfl ?_
      refine zr_gr C hf kg_X10_10 (fun _ _ _ => rfl) dX10_row_68 (fun w17 hf => ?_)
      refine zr_callVi (As := []) (rest := []) C hf (fun x hx => c_X5_clear l E n h16 w17 x hx) kv_X10_117 rfl rfl (Nat.le_of_ble_eq_true rfl) ⟨rfl, rfl⟩ ⟨Nat.le_of_ble_eq_true rfl, Nat.le_of_ble_eq_true rfl⟩ ⟨Nat.le_of_ble_eq_true rfl, Nat.le_of_ble_eq_true rfl⟩ dX10_row_71 (fun x19 h18 hf => ?_)
      refine zr_pop C dX10_row_74 rfl ?_
      refine zr_aload_n C dX10_row_75 rfl 1 rfl ?_
      refine zr_gi C hf kg_X10_67 (fun _ _ _ => rfl) dX10_row_76 (fun x20 hf => ?_)
      refine zr_iconst (v := 1) C dX10_row_79 (by decide) ?_
      refine zr_isub C hf dX10_row_80 (fun x21 hf => ?_)
      exact zr_ireturn C hf hr (Nat.le_of_ble_eq_true rfl) (Nat.le_of_ble_eq_true rfl) dX10_row_81
    · refine zr_bipush (v := -104) C dX10_row_26 (by decide) ?_
      exact zr_ireturn C hf hr (Nat.le_of_ble_eq_true rfl) (Nat.le_of_ble_eq_true rfl) dX10_row_28
  · refine zr_bipush (v := -103) C dX10_row_14 (by decide) ?_
    exact zr_ireturn C hf hr (Nat.le_of_ble_eq_true rfl) (Nat.le_of_ble_eq_true rfl) dX10_row_16
theorem dX10_river_0 : decode cX10_river 0 = .ok (.aload_n 0, 1) := by decide +kernel
theorem dX10_river_1 : decode cX10_river 1 = .ok (.getfield 10, 3) := by decide +kernel
theorem dX10_river_4 : decode cX10_river 4 = .ok (.aload_n 0, 1) := by decide +kernel
theorem dX10_river_5 : decode cX10_river 5 = .ok (.getfield 53, 3) := by decide +kernel
theorem dX10_river_8 : decode cX10_river 8 = .ok (.invokevirtual 125, 3) := by decide +kernel
theorem dX10_river_11 : decode cX10_river 11 = .ok (.ifCond .ne 6, 3) := by decide +kernel
theorem dX10_river_14 : decode cX10_river 14 = .ok (.bipush (-103), 2) := by decide +kernel
theorem dX10_river_16 : decode cX10_river 16 = .ok (.ireturn, 1) := by decide +kernel
theorem dX10_river_17 : decode cX10_river 17 = .ok (.aload_n 0, 1) := by decide +kernel
theorem dX10_river_18 : decode cX10_river 18 = .ok (.getfield 49, 3) := by decide +kernel
theorem dX10_river_21 : decode cX10_river 21 = .ok (.astore_n 1, 1) := by decide +kernel
theorem dX10_river_22 : decode cX10_river 22 = .ok (.aload_n 0, 1) := by decide +kernel
theorem dX10_river_23 : decode cX10_river 23 = .ok (.aload_n 0, 1) := by decide +kernel
theorem dX10_river_24 : decode cX10_river 24 = .ok (.getfield 53, 3) := by decide +kernel
theorem dX10_river_27 : decode cX10_river 27 = .ok (.putfield 49, 3) := by decide +kernel
theorem dX10_river_30 : decode cX10_river 30 = .ok (.aload_n 0, 1) := by decide +kernel
theorem dX10_river_31 : decode cX10_river 31 = .ok (.aload_n 1, 1) := by decide +kernel
theorem dX10_river_32 : decode cX10_river 32 = .ok (.putfield 53, 3) := by decide +kernel
theorem dX10_river_35 : decode cX10_river 35 = .ok (.aload_n 0, 1) := by decide +kernel
theorem dX10_river_36 : decode cX10_river 36 = .ok (.getfield 10, 3) := by decide +kernel
theorem dX10_river_39 : decode cX10_river 39 = .ok (.invokevirtual 117, 3) := by decide +kernel
theorem dX10_river_42 : decode cX10_river 42 = .ok (.pop, 1) := by decide +kernel
theorem dX10_river_43 : decode cX10_river 43 = .ok (.aload_n 0, 1) := by decide +kernel
theorem dX10_river_44 : decode cX10_river 44 = .ok (.getfield 49, 3) := by decide +kernel
theorem dX10_river_47 : decode cX10_river 47 = .ok (.getfield 141, 3) := by decide +kernel
theorem dX10_river_50 : decode cX10_river 50 = .ok (.ireturn, 1) := by decide +kernel
set_option maxHeartbeats 4000000 in
set_option maxRecDepth 100000 in
theorem c_X10_river (l : Launch) (E : zE) (n : Nat) (h : zH) (a0 : Nat) (res : Int32 × zH) (hf : F_X10_river n h a0 = some res) : Met l yX10_river (zw yX10_river cX10_river 2 (some .int)) ({ frames := 7, cells := 0, slots := 0, locals := 187 } : Room) (zPc E h [.ref (zB E + a0)]) (zQc E res.2 (some (.int res.1))) 0 0 (zfr E) := by
  refine zmet (lo := [(0, .ref (zB E + a0))]) (by decide +kernel) (Nat.le_of_ble_eq_true rfl) rfl ?_
  intro p e s m args below meth c C hr hin
  unfold F_X10_river at hf
  refine zr_aload_n C dX10_river_0 rfl 0 rfl ?_
  refine zr_gr C hf kg_X10_10 (fun _ _ _ => rfl) dX10_river_1 (fun w1 hf => ?_)
  refine zr_aload_n C dX10_river_4 rfl 0 rfl ?_
  refine zr_gr C hf kg_X10_53 (fun _ _ _ => rfl) dX10_river_5 (fun w2 hf => ?_)
  refine zr_callVi (As := [.ref (zB E + w2)]) (rest := []) C hf (fun x hx => c_X5_reads l E n h w1 w2 x hx) kv_X10_125 rfl rfl (Nat.le_of_ble_eq_true rfl) ⟨rfl, rfl⟩ ⟨Nat.le_of_ble_eq_true rfl, Nat.le_of_ble_eq_true rfl⟩ ⟨Nat.le_of_ble_eq_true rfl, Nat.le_of_ble_eq_true rfl⟩ dX10_river_8 (fun x4 h3 hf => ?_)
  refine zr_if_ne (tgt := 17) C hf dX10_river_11 (by decide) (fun hf => ?_) (fun hf => ?_)
  · refine zr_aload_n C dX10_river_17 rfl 0 rfl ?_
    refine zr_gr C hf kg_X10_49 (fun _ _ _ => rfl) dX10_river_18 (fun w5 hf => ?_)
    refine zr_astore_n (lo2 := [(1, .ref (zB E + w5)), (0, .ref (zB E + a0))]) C dX10_river_21 rfl (by decide) rfl ?_
    refine zr_aload_n C dX10_river_22 rfl 1 rfl ?_
    refine zr_aload_n C dX10_river_23 rfl 1 rfl ?_
    refine zr_gr C hf kg_X10_53 (fun _ _ _ => rfl) dX10_river_24 (fun w6 hf => ?_)
    refine zr_sr C hf kp_X10_49 (fun _ _ _ => rfl) ⟨rfl, rfl⟩ dX10_river_27 (fun h7 hf => ?_)
    refine zr_aload_n C dX10_river_30 rfl 1 rfl ?_
    refine zr_aload_n C dX10_river_31 rfl 0 rfl ?_
    refine zr_sr C hf kp_X10_53 (fun _ _ _ => rfl) ⟨rfl, rfl⟩ dX10_river_32 (fun h8 hf => ?_)
    refine zr_aload_n C dX10_river_35 rfl 1 rfl ?_
    refine zr_gr C hf kg_X10_10 (fun _ _ _ => rfl) dX10_river_36 (fun w9 hf => ?_)
    refine zr_callVi (As := []) (rest := []) C hf (fun x hx => c_X5_clear l E n h8 w9 x hx) kv_X10_117 rfl rfl (Nat.le_of_ble_eq_true rfl) ⟨rfl, rfl⟩ ⟨Nat.le_of_ble_eq_true rfl, Nat.le_of_ble_eq_true rfl⟩ ⟨Nat.le_of_ble_eq_true rfl, Nat.le_of_ble_eq_true rfl⟩ dX10_river_39 (fun x11 h10 hf => ?_)
    refine zr_pop C dX10_river_42 rfl ?_
    refine zr_aload_n C dX10_river_43 rfl 1 rfl ?_
    refine zr_gr C hf kg_X10_49 (fun _ _ _ => rfl) dX10_river_44 (fun w12 hf => ?_)
    refine zr_gi C hf kg_X10_141 (fun _ _ _ => rfl) dX10_river_47 (fun x13 hf => ?_)
    exact zr_ireturn C hf hr (Nat.le_of_ble_eq_true rfl) (Nat.le_of_ble_eq_true rfl) dX10_river_50
  · refine zr_bipush (v := -103) C dX10_river_14 (by decide) ?_
    exact zr_ireturn C hf hr (Nat.le_of_ble_eq_true rfl) (Nat.le_of_ble_eq_true rfl) dX10_river_16
theorem dX10_hasCup_0 : decode cX10_hasCup 0 = .ok (.aload_n 0, 1) := by decide +kernel
theorem dX10_hasCup_1 : decode cX10_hasCup 1 = .ok (.getfield 36, 3) := by decide +kernel
theorem dX10_hasCup_4 : decode cX10_hasCup 4 = .ok (.invokevirtual 138, 3) := by decide +kernel
theorem dX10_hasCup_7 : decode cX10_hasCup 7 = .ok (.ifCond .le 7, 3) := by decide +kernel
theorem dX10_hasCup_10 : decode cX10_hasCup 10 = .ok (.iconst 1, 1) := by decide +kernel
theorem dX10_hasCup_11 : decode cX10_hasCup 11 = .ok (.goto 4, 3) := by decide +kernel
theorem dX10_hasCup_14 : decode cX10_hasCup 14 = .ok (.iconst 0, 1) := by decide +kernel
theorem dX10_hasCup_15 : decode cX10_hasCup 15 = .ok (.ireturn, 1) := by decide +kernel
set_option maxHeartbeats 4000000 in
set_option maxRecDepth 100000 in
theorem c_X10_hasCup (l : Launch) (E : zE) (n : Nat) (h : zH) (a0 : Nat) (res : Int32 × zH) (hf : F_X10_hasCup n h a0 = some res) : Met l yX10_hasCup (zw yX10_hasCup cX10_hasCup 1 (some .boolean)) ({ frames := 1, cells := 0, slots := 0, locals := 20 } : Room) (zPc E h [.ref (zB E + a0)]) (zQc E res.2 (some (.int res.1))) 0 0 (zfr E) := by
  refine zmet (lo := [(0, .ref (zB E + a0))]) (by decide +kernel) (Nat.le_of_ble_eq_true rfl) rfl ?_
  intro p e s m args below meth c C hr hin
  unfold F_X10_hasCup at hf
  have J15 : ∀ (h4 : zH) (x3 : Int32), F_X10_hasCup_J15 n h4 x3 = some res → zW p l e (headSpec (zw yX10_hasCup cX10_hasCup 1 (some .boolean)) ({ frames := 1, cells := 0, slots := 0, locals := 20 } : Room)).room s m args below meth c E 1 (MQ below (zQc E res.2 (some (.int res.1))) args s 0 0 (zfr E)) 0 0 15 [] [.int x3] h4 := by
    intro h4 x3 hf
    unfold F_X10_hasCup_J15 at hf
    exact zr_zreturn C hf hr (Nat.le_of_ble_eq_true rfl) (Nat.le_of_ble_eq_true rfl) dX10_hasCup_15
  refine zr_aload_n C dX10_hasCup_0 rfl 0 rfl ?_
  refine zr_gr C hf kg_X10_36 (fun _ _ _ => rfl) dX10_hasCup_1 (fun w5 hf => ?_)
  refine zr_callVi (As := []) (rest := []) C hf (fun x hx => c_X1_rings l E n h w5 x hx) kv_X10_138 rfl rfl (Nat.le_of_ble_eq_true rfl) ⟨rfl, rfl⟩ ⟨Nat.le_of_ble_eq_true rfl, Nat.le_of_ble_eq_true rfl⟩ ⟨Nat.le_of_ble_eq_true rfl, Nat.le_of_ble_eq_true rfl⟩ dX10_hasCup_4 (fun x7 h6 hf => ?_)
  refine zr_if_le (tgt := 14) C hf dX10_hasCup_7 (by decide) (fun hf => ?_) (fun hf => ?_)
  · refine zr_iconst (v := 0) C dX10_hasCup_14 (by decide) ?_
    refine zsub [] rfl ?_
    exact J15 h6 (0 : Int32) hf
  · refine zr_iconst (v := 1) C dX10_hasCup_10 (by decide) ?_
    refine zr_goto (tgt := 15) C dX10_hasCup_11 (by decide) ?_
    refine zsub [] rfl ?_
    exact J15 h6 (1 : Int32) hf
theorem dX10_isWithin_0 : decode cX10_isWithin 0 = .ok (.iload_n 0, 1) := by decide +kernel
theorem dX10_isWithin_1 : decode cX10_isWithin 1 = .ok (.iload_n 1, 1) := by decide +kernel
theorem dX10_isWithin_2 : decode cX10_isWithin 2 = .ok (.if_icmp .lt 12, 3) := by decide +kernel
theorem dX10_isWithin_5 : decode cX10_isWithin 5 = .ok (.iload_n 0, 1) := by decide +kernel
theorem dX10_isWithin_6 : decode cX10_isWithin 6 = .ok (.iload_n 2, 1) := by decide +kernel
theorem dX10_isWithin_7 : decode cX10_isWithin 7 = .ok (.if_icmp .gt 7, 3) := by decide +kernel
theorem dX10_isWithin_10 : decode cX10_isWithin 10 = .ok (.iconst 1, 1) := by decide +kernel
theorem dX10_isWithin_11 : decode cX10_isWithin 11 = .ok (.goto 4, 3) := by decide +kernel
theorem dX10_isWithin_14 : decode cX10_isWithin 14 = .ok (.iconst 0, 1) := by decide +kernel
theorem dX10_isWithin_15 : decode cX10_isWithin 15 = .ok (.ireturn, 1) := by decide +kernel
set_option maxHeartbeats 4000000 in
set_option maxRecDepth 100000 in
theorem c_X10_isWithin (l : Launch) (E : zE) (n : Nat) (h : zH) (p0 : Int32) (p1 : Int32) (p2 : Int32) (res : Int32 × zH) (hf : F_X10_isWithin n h p0 p1 p2 = some res) : Met l yX10_isWithin (zw yX10_isWithin cX10_isWithin 3 (some .boolean)) ({ frames := 0, cells := 0, slots := 0, locals := 0 } : Room) (zPc E h [.int p0, .int p1, .int p2]) (zQc E res.2 (some (.int res.1))) 0 0 (zfr E) := by
  refine zmet (lo := [(0, .int p0), (1, .int p1), (2, .int p2)]) (by decide +kernel) (Nat.le_of_ble_eq_true rfl) rfl ?_
  intro p e s m args below meth c C hr hin
  unfold F_X10_isWithin at hf
  have J15 : ∀ (h4 : zH) (x3 : Int32), F_X10_isWithin_J15 n h4 x3 = some res → zW p l e (headSpec (zw yX10_isWithin cX10_isWithin 3 (some .boolean)) ({ frames := 0, cells := 0, slots := 0, locals := 0 } : Room)).room s m args below meth c E 3 (MQ below (zQc E res.2 (some (.int res.1))) args s 0 0 (zfr E)) 0 0 15 [] [.int x3] h4 := by
    intro h4 x3 hf
    unfold F_X10_isWithin_J15 at hf
    exact zr_zreturn C hf hr (Nat.le_of_ble_eq_true rfl) (Nat.le_of_ble_eq_true rfl) dX10_isWithin_15
  have J14 : ∀ (h6 : zH), F_X10_isWithin_J14 n h6 = some res → zW p l e (headSpec (zw yX10_isWithin cX10_isWithin 3 (some .boolean)) ({ frames := 0, cells := 0, slots := 0, locals := 0 } : Room)).room s m args below meth c E 3 (MQ below (zQc E res.2 (some (.int res.1))) args s 0 0 (zfr E)) 0 0 14 [] [] h6 := by
    intro h6 hf
    unfold F_X10_isWithin_J14 at hf
    refine zr_iconst (v := 0) C dX10_isWithin_14 (by decide) ?_
    exact J15 h6 (0 : Int32) hf
  refine zr_iload_n C dX10_isWithin_0 rfl 0 rfl ?_
  refine zr_iload_n C dX10_isWithin_1 rfl 1 rfl ?_
  refine zr_icmp_lt (tgt := 14) C hf dX10_isWithin_2 (by decide) (fun hf => ?_) (fun hf => ?_)
  · refine zsub [] rfl ?_
    exact J14 h hf
  · refine zr_iload_n C dX10_isWithin_5 rfl 0 rfl ?_
    refine zr_iload_n C dX10_isWithin_6 rfl 2 rfl ?_
    refine zr_icmp_gt (tgt := 14) C hf dX10_isWithin_7 (by decide) (fun hf => ?_) (fun hf => ?_)
    · refine zsub [] rfl ?_
      exact J14 h hf
    · refine zr_iconst (v := 1) C dX10_isWithin_10 (by decide) ?_
      refine zr_goto (tgt := 15) C dX10_isWithin_11 (by decide) ?_
      refine zsub [] rfl ?_
      exact J15 h (1 : Int32) hf
theorem dX10_cupTold_0 : decode cX10_cupTold 0 = .ok (.aload_n 0, 1) := by decide +kernel
theorem dX10_cupTold_1 : decode cX10_cupTold 1 = .ok (.invokevirtual 144, 3) := by decide +kernel
theorem dX10_cupTold_4 : decode cX10_cupTold 4 = .ok (.ifCond .ne 6, 3) := by decide +kernel
theorem dX10_cupTold_7 : decode cX10_cupTold 7 = .ok (.bipush (-103), 2) := by decide +kernel
theorem dX10_cupTold_9 : decode cX10_cupTold 9 = .ok (.ireturn, 1) := by decide +kernel
theorem dX10_cupTold_10 : decode cX10_cupTold 10 = .ok (.iload_n 1, 1) := by decide +kernel
theorem dX10_cupTold_11 : decode cX10_cupTold 11 = .ok (.iconst 0, 1) := by decide +kernel
theorem dX10_cupTold_12 : decode cX10_cupTold 12 = .ok (.iconst 5, 1) := by decide +kernel
theorem dX10_cupTold_13 : decode cX10_cupTold 13 = .ok (.invokestatic 148, 3) := by decide +kernel
theorem dX10_cupTold_16 : decode cX10_cupTold 16 = .ok (.ifCond .eq 15, 3) := by decide +kernel
theorem dX10_cupTold_19 : decode cX10_cupTold 19 = .ok (.aload_n 0, 1) := by decide +kernel
theorem dX10_cupTold_20 : decode cX10_cupTold 20 = .ok (.getfield 36, 3) := by decide +kernel
theorem dX10_cupTold_23 : decode cX10_cupTold 23 = .ok (.getfield 152, 3) := by decide +kernel
theorem dX10_cupTold_26 : decode cX10_cupTold 26 = .ok (.iload_n 1, 1) := by decide +kernel
theorem dX10_cupTold_27 : decode cX10_cupTold 27 = .ok (.iaload, 1) := by decide +kernel
theorem dX10_cupTold_28 : decode cX10_cupTold 28 = .ok (.goto 5, 3) := by decide +kernel
theorem dX10_cupTold_31 : decode cX10_cupTold 31 = .ok (.bipush (-102), 2) := by decide +kernel
theorem dX10_cupTold_33 : decode cX10_cupTold 33 = .ok (.ireturn, 1) := by decide +kernel
set_option maxHeartbeats 4000000 in
set_option maxRecDepth 100000 in
theorem c_X10_cupTold (l : Launch) (E : zE) (n : Nat) (h : zH) (a0 : Nat) (p0 : Int32) (res : Int32 × zH) (hf : F_X10_cupTold n h a0 p0 = some res) : Met l yX10_cupTold (zw yX10_cupTold cX10_cupTold 2 (some .int)) ({ frames := 2, cells := 0, slots := 0, locals := 40 } : Room) (zPc E h [.ref (zB E + a0), .int p0]) (zQc E res.2 (some (.int res.1))) 0 0 (zfr E) := by
  refine zmet (lo := [(0, .ref (zB E + a0)), (1, .int p0)]) (by decide +kernel) (Nat.le_of_ble_eq_true rfl) rfl ?_
  intro p e s m args below meth c C hr hin
  unfold F_X10_cupTold at hf
  have J33 : ∀ (h4 : zH) (x3 : Int32), F_X10_cupTold_J33 n h4 x3 = some res → zW p l e (headSpec (zw yX10_cupTold cX10_cupTold 2 (some .int)) ({ frames := 2, cells := 0, slots := 0, locals := 40 } : Room)).room s m args below meth c E 2 (MQ below (zQc E res.2 (some (.int res.1))) args s 0 0 (zfr E)) 0 0 33 [] [.int x3] h4 := by
    intro h4 x3 hf
    unfold F_X10_cupTold_J33 at hf
    exact zr_ireturn C hf hr (Nat.le_of_ble_eq_true rfl) (Nat.le_of_ble_eq_true rfl) dX10_cupTold_33
  refine zr_aload_n C dX10_cupTold_0 rfl 0 rfl ?_
  refine zr_callVi (As := []) (rest := []) C hf (fun x hx => c_X10_hasCup l E n h a0 x hx) kv_X10_144 rfl rfl (Nat.le_of_ble_eq_true rfl) ⟨rfl, rfl⟩ ⟨Nat.le_of_ble_eq_true rfl, Nat.le_of_ble_eq_true rfl⟩ ⟨Nat.le_of_ble_eq_true rfl, Nat.le_of_ble_eq_true rfl⟩ dX10_cupTold_1 (fun x6 h5 hf => ?_)
  refine zr_if_ne (tgt := 10) C hf dX10_cupTold_4 (by decide) (fun hf => ?_) (fun hf => ?_)
  · refine zr_iload_n C dX10_cupTold_10 rfl 1 rfl ?_
    refine zr_iconst (v := 0) C dX10_cupTold_11 (by decide) ?_
    refine zr_iconst (v := 5) C dX10_cupTold_12 (by decide) ?_
    refine zr_callSi (As := [.int p0, .int (0 : Int32), .int (5 : Int32)]) (rest := []) C hf (fun x hx => c_X10_isWithin l E n h5 p0 (0 : Int32) (5 : Int32) x hx) ks_X10_148 rfl rfl (Nat.le_of_ble_eq_true rfl) ⟨rfl, rfl⟩ ⟨Nat.le_of_ble_eq_true rfl, Nat.le_of_ble_eq_true rfl⟩ ⟨Nat.le_of_ble_eq_true rfl, Nat.le_of_ble_eq_true rfl⟩ dX10_cupTold_13 (fun x8 h7 hf => ?_)
    refine zr_if_eq (tgt := 31) C hf dX10_cupTold_16 (by decide) (fun hf => ?_) (fun hf => ?_)
    · refine zr_bipush (v := -102) C dX10_cupTold_31 (by decide) ?_
      refine zsub [] rfl ?_
      exact J33 h7 (-102 : Int32) hf
    · refine zr_aload_n C dX10_cupTold_19 rfl 0 rfl ?_
      refine zr_gr C hf kg_X10_36 (fun _ _ _ => rfl) dX10_cupTold_20 (fun w9 hf => ?_)
      refine zr_gr C hf kg_X10_152 (fun _ _ _ => rfl) dX10_cupTold_23 (fun w10 hf => ?_)
      refine zr_iload_n C dX10_cupTold_26 rfl 1 rfl ?_
      refine zr_iaload C hf dX10_cupTold_27 (fun x11 hf => ?_)
      refine zr_goto (tgt := 33) C dX10_cupTold_28 (by decide) ?_
      refine zsub [] rfl ?_
      exact J33 h7 x11 hf
  · refine zr_bipush (v := -103) C dX10_cupTold_7 (by decide) ?_
    exact zr_ireturn C hf hr (Nat.le_of_ble_eq_true rfl) (Nat.le_of_ble_eq_true rfl) dX10_cupTold_9
theorem dX2_isTold_0 : decode cX2_isTold 0 = .ok (.iload_n 0, 1) := by decide +kernel
theorem dX2_isTold_1 : decode cX2_isTold 1 = .ok (.tableswitch 79 0 4 #[69, 35, 35, 52, 69], 35) := by decide +kernel
theorem dX2_isTold_36 : decode cX2_isTold 36 = .ok (.iload_n 1, 1) := by decide +kernel
theorem dX2_isTold_37 : decode cX2_isTold 37 = .ok (.iconst 1, 1) := by decide +kernel
theorem dX2_isTold_38 : decode cX2_isTold 38 = .ok (.if_icmp .lt 13, 3) := by decide +kernel
theorem dX2_isTold_41 : decode cX2_isTold 41 = .ok (.iload_n 1, 1) := by decide +kernel
theorem dX2_isTold_42 : decode cX2_isTold 42 = .ok (.bipush 20, 2) := by decide +kernel
theorem dX2_isTold_44 : decode cX2_isTold 44 = .ok (.if_icmp .gt 7, 3) := by decide +kernel
theorem dX2_isTold_47 : decode cX2_isTold 47 = .ok (.iconst 1, 1) := by decide +kernel
theorem dX2_isTold_48 : decode cX2_isTold 48 = .ok (.goto 4, 3) := by decide +kernel
theorem dX2_isTold_51 : decode cX2_isTold 51 = .ok (.iconst 0, 1) := by decide +kernel
theorem dX2_isTold_52 : decode cX2_isTold 52 = .ok (.ireturn, 1) := by decide +kernel
theorem dX2_isTold_53 : decode cX2_isTold 53 = .ok (.iload_n 1, 1) := by decide +kernel
theorem dX2_isTold_54 : decode cX2_isTold 54 = .ok (.iconst 1, 1) := by decide +kernel
theorem dX2_isTold_55 : decode cX2_isTold 55 = .ok (.if_icmp .lt 13, 3) := by decide +kernel
theorem dX2_isTold_58 : decode cX2_isTold 58 = .ok (.iload_n 1, 1) := by decide +kernel
theorem dX2_isTold_59 : decode cX2_isTold 59 = .ok (.bipush 40, 2) := by decide +kernel
theorem dX2_isTold_61 : decode cX2_isTold 61 = .ok (.if_icmp .gt 7, 3) := by decide +kernel
theorem dX2_isTold_64 : decode cX2_isTold 64 = .ok (.iconst 1, 1) := by decide +kernel
theorem dX2_isTold_65 : decode cX2_isTold 65 = .ok (.goto 4, 3) := by decide +kernel
theorem dX2_isTold_68 : decode cX2_isTold 68 = .ok (.iconst 0, 1) := by decide +kernel
theorem dX2_isTold_69 : decode cX2_isTold 69 = .ok (.ireturn, 1) := by decide +kernel
theorem dX2_isTold_70 : decode cX2_isTold 70 = .ok (.iload_n 1, 1) := by decide +kernel
theorem dX2_isTold_71 : decode cX2_isTold 71 = .ok (.ifCond .ne 7, 3) := by decide +kernel
theorem dX2_isTold_74 : decode cX2_isTold 74 = .ok (.iconst 1, 1) := by decide +kernel
theorem dX2_isTold_75 : decode cX2_isTold 75 = .ok (.goto 4, 3) := by decide +kernel
theorem dX2_isTold_78 : decode cX2_isTold 78 = .ok (.iconst 0, 1) := by decide +kernel
theorem dX2_isTold_79 : decode cX2_isTold 79 = .ok (.ireturn, 1) := by decide +kernel
theorem dX2_isTold_80 : decode cX2_isTold 80 = .ok (.iconst 0, 1) := by decide +kernel
theorem dX2_isTold_81 : decode cX2_isTold 81 = .ok (.ireturn, 1) := by decide +kernel
set_option maxHeartbeats 4000000 in
set_option maxRecDepth 100000 in
theorem c_X2_isTold (l : Launch) (E : zE) (n : Nat) (h : zH) (p0 : Int32) (p1 : Int32) (res : Int32 × zH) (hf : F_X2_isTold n h p0 p1 = some res) : Met l yX2_isTold (zw yX2_isTold cX2_isTold 2 (some .boolean)) ({ frames := 0, cells := 0, slots := 0, locals := 0 } : Room) (zPc E h [.int p0, .int p1]) (zQc E res.2 (some (.int res.1))) 0 0 (zfr E) := by
  refine zmet (lo := [(0, .int p0), (1, .int p1)]) (by decide +kernel) (Nat.le_of_ble_eq_true rfl) rfl ?_
  intro p e s m args below meth c C hr hin
  unfold F_X2_isTold at hf
  have J79 : ∀ (h4 : zH) (x3 : Int32), F_X2_isTold_J79 n h4 x3 = some res → zW p l e (headSpec (zw yX2_isTold cX2_isTold 2 (some .boolean)) ({ frames := 0, cells := 0, slots := 0, locals := 0 } : Room)).room s m args below meth c E 2 (MQ below (zQc E res.2 (some (.int res.1))) args s 0 0 (zfr E)) 0 0 79 [] [.int x3] h4 := by
    intro h4 x3 hf
    unfold F_X2_isTold_J79 at hf
    exact zr_zreturn C hf hr (Nat.le_of_ble_eq_true rfl) (Nat.le_of_ble_eq_true rfl) dX2_isTold_79
  have J69 : ∀ (h8 : zH) (x7 : Int32), F_X2_isTold_J69 n h8 x7 = some res → zW p l e (headSpec (zw yX2_isTold cX2_isTold 2 (some .boolean)) ({ frames := 0, cells := 0, slots := 0, locals := 0 } : Room)).room s m args below meth c E 2 (MQ below (zQc E res.2 (some (.int res.1))) args s 0 0 (zfr E)) 0 0 69 [] [.int x7] h8 := by
    intro h8 x7 hf
    unfold F_X2_isTold_J69 at hf
    exact zr_zreturn C hf hr (Nat.le_of_ble_eq_true rfl) (Nat.le_of_ble_eq_true rfl) dX2_isTold_69
  have J68 : ∀ (h10 : zH), F_X2_isTold_J68 n h10 = some res → zW p l e (headSpec (zw yX2_isTold cX2_isTold 2 (some .boolean)) ({ frames := 0, cells := 0, slots := 0, locals := 0 } : Room)).room s m args below meth c E 2 (MQ below (zQc E res.2 (some (.int res.1))) args s 0 0 (zfr E)) 0 0 68 [] [] h10 := by
    intro h10 hf
    unfold F_X2_isTold_J68 at hf
    refine zr_iconst (v := 0) C dX2_isTold_68 (by decide) ?_
    exact J69 h10 (0 : Int32) hf
  have J52 : ∀ (h14 : zH) (x13 : Int32), F_X2_isTold_J52 n h14 x13 = some res → zW p l e (headSpec (zw yX2_isTold cX2_isTold 2 (some .boolean)) ({ frames := 0, cells := 0, slots := 0, locals := 0 } : Room)).room s m args below meth c E 2 (MQ below (zQc E res.2 (some (.int res.1))) args s 0 0 (zfr E)) 0 0 52 [] [.int x13] h14 := by
    intro h14 x13 hf
    unfold F_X2_isTold_J52 at hf
    exact zr_zreturn C hf hr (Nat.le_of_ble_eq_true rfl) (Nat.le_of_ble_eq_true rfl) dX2_isTold_52
  have J51 : ∀ (h16 : zH), F_X2_isTold_J51 n h16 = some res → zW p l e (headSpec (zw yX2_isTold cX2_isTold 2 (some .boolean)) ({ frames := 0, cells := 0, slots := 0, locals := 0 } : Room)).room s m args below meth c E 2 (MQ below (zQc E res.2 (some (.int res.1))) args s 0 0 (zfr E)) 0 0 51 [] [] h16 := by
    intro h16 hf
    unfold F_X2_isTold_J51 at hf
    refine zr_iconst (v := 0) C dX2_isTold_51 (by decide) ?_
    exact J52 h16 (0 : Int32) hf
  refine zr_iload_n C dX2_isTold_0 rfl 0 rfl ?_
  refine zr_ite hf (fun hx hf => zr_tableOut (tgt := 80) C dX2_isTold_1 hx (by decide) ?_) (fun hx hf => ?_)
  · refine zr_iconst (v := 0) C dX2_isTold_80 (by decide) ?_
    exact zr_zreturn C hf hr (Nat.le_of_ble_eq_true rfl) (Nat.le_of_ble_eq_true rfl) dX2_isTold_81
  · refine zr_ite hf (fun he hf => zr_tableIn (off := 69) (tgt := 70) C dX2_isTold_1 (by rw [he]; decide) (by rw [he]; decide) (by rw [he]; decide +kernel) (by decide) ?_) (fun _ hf => ?_)
    · refine zr_iload_n C dX2_isTold_70 rfl 1 rfl ?_
      refine zr_if_ne (tgt := 78) C hf dX2_isTold_71 (by decide) (fun hf => ?_) (fun hf => ?_)
      · refine zr_iconst (v := 0) C dX2_isTold_78 (by decide) ?_
        refine zsub [] rfl ?_
        exact J79 h (0 : Int32) hf
      · refine zr_iconst (v := 1) C dX2_isTold_74 (by decide) ?_
        refine zr_goto (tgt := 79) C dX2_isTold_75 (by decide) ?_
        refine zsub [] rfl ?_
        exact J79 h (1 : Int32) hf
    refine zr_ite hf (fun he hf => zr_tableIn (off := 35) (tgt := 36) C dX2_isTold_1 (by rw [he]; decide) (by rw [he]; decide) (by rw [he]; decide +kernel) (by decide) ?_) (fun _ hf => ?_)
    · refine zr_iload_n C dX2_isTold_36 rfl 1 rfl ?_
      refine zr_iconst (v := 1) C dX2_isTold_37 (by decide) ?_
      refine zr_icmp_lt (tgt := 51) C hf dX2_isTold_38 (by decide) (fun hf => ?_) (fun hf => ?_)
      · refine zsub [] rfl ?_
        exact J51 h hf
      · refine zr_iload_n C dX2_isTold_41 rfl 1 rfl ?_
        refine zr_bipush (v := 20) C dX2_isTold_42 (by decide) ?_
        refine zr_icmp_gt (tgt := 51) C hf dX2_isTold_44 (by decide) (fun hf => ?_) (fun hf => ?_)
        · refine zsub [] rfl ?_
          exact J51 h hf
        · refine zr_iconst (v := 1) C dX2_isTold_47 (by decide) ?_
          refine zr_goto (tgt := 52) C dX2_isTold_48 (by decide) ?_
          refine zsub [] rfl ?_
          exact J52 h (1 : Int32) hf
    refine zr_ite hf (fun he hf => zr_tableIn (off := 35) (tgt := 36) C dX2_isTold_1 (by rw [he]; decide) (by rw [he]; decide) (by rw [he]; decide +kernel) (by decide) ?_) (fun _ hf => ?_)
    · refine zr_iload_n C dX2_isTold_36 rfl 1 rfl ?_
      refine zr_iconst (v := 1) C dX2_isTold_37 (by decide) ?_
      refine zr_icmp_lt (tgt := 51) C hf dX2_isTold_38 (by decide) (fun hf => ?_) (fun hf => ?_)
      · refine zsub [] rfl ?_
        exact J51 h hf
      · refine zr_iload_n C dX2_isTold_41 rfl 1 rfl ?_
        refine zr_bipush (v := 20) C dX2_isTold_42 (by decide) ?_
        refine zr_icmp_gt (tgt := 51) C hf dX2_isTold_44 (by decide) (fun hf => ?_) (fun hf => ?_)
        · refine zsub [] rfl ?_
          exact J51 h hf
        · refine zr_iconst (v := 1) C dX2_isTold_47 (by decide) ?_
          refine zr_goto (tgt := 52) C dX2_isTold_48 (by decide) ?_
          refine zsub [] rfl ?_
          exact J52 h (1 : Int32) hf
    refine zr_ite hf (fun he hf => zr_tableIn (off := 52) (tgt := 53) C dX2_isTold_1 (by rw [he]; decide) (by rw [he]; decide) (by rw [he]; decide +kernel) (by decide) ?_) (fun _ hf => ?_)
    · refine zr_iload_n C dX2_isTold_53 rfl 1 rfl ?_
      refine zr_iconst (v := 1) C dX2_isTold_54 (by decide) ?_
      refine zr_icmp_lt (tgt := 68) C hf dX2_isTold_55 (by decide) (fun hf => ?_) (fun hf => ?_)
      · refine zsub [] rfl ?_
        exact J68 h hf
      · refine zr_iload_n C dX2_isTold_58 rfl 1 rfl ?_
        refine zr_bipush (v := 40) C dX2_isTold_59 (by decide) ?_
        refine zr_icmp_gt (tgt := 68) C hf dX2_isTold_61 (by decide) (fun hf => ?_) (fun hf => ?_)
        · refine zsub [] rfl ?_
          exact J68 h hf
        · refine zr_iconst (v := 1) C dX2_isTold_64 (by decide) ?_
          refine zr_goto (tgt := 69) C dX2_isTold_65 (by decide) ?_
          refine zsub [] rfl ?_
          exact J69 h (1 : Int32) hf
    refine zr_ite hf (fun he hf => zr_tableIn (off := 69) (tgt := 70) C dX2_isTold_1 (by rw [he]; decide) (by rw [he]; decide) (by rw [he]; decide +kernel) (by decide) ?_) (fun _ hf => ?_)
    · refine zr_iload_n C dX2_isTold_70 rfl 1 rfl ?_
      refine zr_if_ne (tgt := 78) C hf dX2_isTold_71 (by decide) (fun hf => ?_) (fun hf => ?_)
      · refine zr_iconst (v := 0) C dX2_isTold_78 (by decide) ?_
        refine zsub [] rfl ?_
        exact J79 h (0 : Int32) hf
      · refine zr_iconst (v := 1) C dX2_isTold_74 (by decide) ?_
        refine zr_goto (tgt := 79) C dX2_isTold_75 (by decide) ?_
        refine zsub [] rfl ?_
        exact J79 h (1 : Int32) hf
    cases hf
theorem dX10_doing_0 : decode cX10_doing 0 = .ok (.iload_n 1, 1) := by decide +kernel
theorem dX10_doing_1 : decode cX10_doing 1 = .ok (.iload_n 2, 1) := by decide +kernel
theorem dX10_doing_2 : decode cX10_doing 2 = .ok (.invokestatic 155, 3) := by decide +kernel
theorem dX10_doing_5 : decode cX10_doing 5 = .ok (.ifCond .ne 6, 3) := by decide +kernel
theorem dX10_doing_8 : decode cX10_doing 8 = .ok (.bipush (-102), 2) := by decide +kernel
theorem dX10_doing_10 : decode cX10_doing 10 = .ok (.ireturn, 1) := by decide +kernel
theorem dX10_doing_11 : decode cX10_doing 11 = .ok (.aload_n 0, 1) := by decide +kernel
theorem dX10_doing_12 : decode cX10_doing 12 = .ok (.getfield 29, 3) := by decide +kernel
theorem dX10_doing_15 : decode cX10_doing 15 = .ok (.bipush 8, 2) := by decide +kernel
theorem dX10_doing_17 : decode cX10_doing 17 = .ok (.if_icmp .lt 6, 3) := by decide +kernel
theorem dX10_doing_20 : decode cX10_doing 20 = .ok (.bipush (-104), 2) := by decide +kernel
theorem dX10_doing_22 : decode cX10_doing 22 = .ok (.ireturn, 1) := by decide +kernel
theorem dX10_doing_23 : decode cX10_doing 23 = .ok (.aload_n 0, 1) := by decide +kernel
theorem dX10_doing_24 : decode cX10_doing 24 = .ok (.getfield 25, 3) := by decide +kernel
theorem dX10_doing_27 : decode cX10_doing 27 = .ok (.aload_n 0, 1) := by decide +kernel
theorem dX10_doing_28 : decode cX10_doing 28 = .ok (.getfield 29, 3) := by decide +kernel
theorem dX10_doing_31 : decode cX10_doing 31 = .ok (.new 16, 3) := by decide +kernel
theorem dX10_doing_34 : decode cX10_doing 34 = .ok (.dup, 1) := by decide +kernel
theorem dX10_doing_35 : decode cX10_doing 35 = .ok (.iload_n 1, 1) := by decide +kernel
theorem dX10_doing_36 : decode cX10_doing 36 = .ok (.iload_n 2, 1) := by decide +kernel
theorem dX10_doing_37 : decode cX10_doing 37 = .ok (.invokespecial 18, 3) := by decide +kernel
theorem dX10_doing_40 : decode cX10_doing 40 = .ok (.aastore, 1) := by decide +kernel
theorem dX10_doing_41 : decode cX10_doing 41 = .ok (.aload_n 0, 1) := by decide +kernel
theorem dX10_doing_42 : decode cX10_doing 42 = .ok (.dup, 1) := by decide +kernel
theorem dX10_doing_43 : decode cX10_doing 43 = .ok (.getfield 29, 3) := by decide +kernel
theorem dX10_doing_46 : decode cX10_doing 46 = .ok (.iconst 1, 1) := by decide +kernel
theorem dX10_doing_47 : decode cX10_doing 47 = .ok (.iadd, 1) := by decide +kernel
theorem dX10_doing_48 : decode cX10_doing 48 = .ok (.putfield 29, 3) := by decide +kernel
theorem dX10_doing_51 : decode cX10_doing 51 = .ok (.aload_n 0, 1) := by decide +kernel
theorem dX10_doing_52 : decode cX10_doing 52 = .ok (.getfield 29, 3) := by decide +kernel
theorem dX10_doing_55 : decode cX10_doing 55 = .ok (.iconst 1, 1) := by decide +kernel
theorem dX10_doing_56 : decode cX10_doing 56 = .ok (.isub, 1) := by decide +kernel
theorem dX10_doing_57 : decode cX10_doing 57 = .ok (.ireturn, 1) := by decide +kernel
set_option maxHeartbeats 4000000 in
set_option maxRecDepth 100000 in
theorem c_X10_doing (l : Launch) (E : zE) (n : Nat) (h : zH) (a0 : Nat) (p0 : Int32) (p1 : Int32) (res : Int32 × zH) (hf : F_X10_doing n h a0 p0 p1 = some res) : Met l yX10_doing (zw yX10_doing cX10_doing 3 (some .int)) ({ frames := 2, cells := 1, slots := 2, locals := 42 } : Room) (zPc E h [.ref (zB E + a0), .int p0, .int p1]) (zQc E res.2 (some (.int res.1))) 1 2 (zfr E) := by
  refine zmet (lo := [(0, .ref (zB E + a0)), (1, .int p0), (2, .int p1)]) (by decide +kernel) (Nat.le_of_ble_eq_true rfl) rfl ?_
  intro p e s m args below meth c C hr hin
  unfold F_X10_doing at hf
  refine zr_iload_n C dX10_doing_0 rfl 1 rfl ?_
  refine zr_iload_n C dX10_doing_1 rfl 2 rfl ?_
  refine zr_callSi (As := [.int p0, .int p1]) (rest := []) C hf (fun x hx => c_X2_isTold l E n h p0 p1 x hx) ks_X10_155 rfl rfl (Nat.le_of_ble_eq_true rfl) ⟨rfl, rfl⟩ ⟨Nat.le_of_ble_eq_true rfl, Nat.le_of_ble_eq_true rfl⟩ ⟨Nat.le_of_ble_eq_true rfl, Nat.le_of_ble_eq_true rfl⟩ dX10_doing_2 (fun x2 h1 hf => ?_)
  refine zr_if_ne (tgt := 11) C hf dX10_doing_5 (by decide) (fun hf => ?_) (fun hf => ?_)
  · refine zr_aload_n C dX10_doing_11 rfl 0 rfl ?_
    refine zr_gi C hf kg_X10_29 (fun _ _ _ => rfl) dX10_doing_12 (fun x3 hf => ?_)
    refine zr_bipush (v := 8) C dX10_doing_15 (by decide) ?_
    refine zr_icmp_lt (tgt := 23) C hf dX10_doing_17 (by decide) (fun hf => ?_) (fun hf => ?_)
    · refine zr_aload_n C dX10_doing_23 rfl 0 rfl ?_
      refine zr_gr C hf kg_X10_25 (fun _ _ _ => rfl) dX10_doing_24 (fun w4 hf => ?_)
      refine zr_aload_n C dX10_doing_27 rfl 0 rfl ?_
      refine zr_gi C hf kg_X10_29 (fun _ _ _ => rfl) dX10_doing_28 (fun x5 hf => ?_)
      refine zr_new C hf kw_X10_16 (Nat.le_of_ble_eq_true rfl) (Nat.le_of_ble_eq_true rfl) dX10_doing_31 (fun w6 h7 hf => ?_)
      refine zr_dup C dX10_doing_34 rfl ?_
      refine zr_iload_n C dX10_doing_35 rfl 1 rfl ?_
      refine zr_iload_n C dX10_doing_36 rfl 2 rfl ?_
      refine zr_callI (As := [.int p0, .int p1]) (rest := [.ref (zB E + w6), .int x5, .ref (zB E + w4)]) C hf (fun x hx => c_X2_init l E n h7 w6 p0 p1 x hx) ki_X10_18 rfl rfl (Nat.le_of_ble_eq_true rfl) ⟨rfl, rfl⟩ ⟨Nat.le_of_ble_eq_true rfl, Nat.le_of_ble_eq_true rfl⟩ ⟨Nat.le_of_ble_eq_true rfl, Nat.le_of_ble_eq_true rfl⟩ dX10_doing_37 (fun _ h8 hf => ?_)
      refine zr_aastore (t0 := 4) C hf (by decide) (by decide) rfl rfl dX10_doing_40 (fun h9 hf => ?_)
      refine zr_aload_n C dX10_doing_41 rfl 0 rfl ?_
      refine zr_dup C dX10_doing_42 rfl ?_
      refine zr_gi C hf kg_X10_29 (fun _ _ _ => rfl) dX10_doing_43 (fun x10 hf => ?_)
      refine zr_iconst (v := 1) C dX10_doing_46 (by decide) ?_
      refine zr_iadd C hf dX10_doing_47 (fun x11 hf => ?_)
      refine zr_si C hf kp_X10_29 (fun _ _ _ => rfl) rfl dX10_doing_48 (fun h12 hf => ?_)
      refine zr_aload_n C dX10_doing_51 rfl 0 rfl ?_
      refine zr_gi C hf kg_X10_29 (fun _ _ _ => rfl) dX10_doing_52 (fun x13 hf => ?_)
      refine zr_iconst (v := 1) C dX10_doing_55 (by decide) ?_
      refine zr_isub C hf dX10_doing_56 (fun x14 hf => ?_)
      exact zr_ireturn C hf hr (Nat.le_of_ble_eq_true rfl) (Nat.le_of_ble_eq_true rfl) dX10_doing_57
    · refine zr_bipush (v := -104) C dX10_doing_20 (by decide) ?_
      exact zr_ireturn C hf hr (Nat.le_of_ble_eq_true rfl) (Nat.le_of_ble_eq_true rfl) dX10_doing_22
  · refine zr_bipush (v := -102) C dX10_doing_8 (by decide) ?_
    exact zr_ireturn C hf hr (Nat.le_of_ble_eq_true rfl) (Nat.le_of_ble_eq_true rfl) dX10_doing_10
theorem dX10_hasDoing_0 : decode cX10_hasDoing 0 = .ok (.iload_n 1, 1) := by decide +kernel
theorem dX10_hasDoing_1 : decode cX10_hasDoing 1 = .ok (.ifCond .lt 15, 3) := by decide +kernel
theorem dX10_hasDoing_4 : decode cX10_hasDoing 4 = .ok (.iload_n 1, 1) := by decide +kernel
theorem dX10_hasDoing_5 : decode cX10_hasDoing 5 = .ok (.aload_n 0, 1) := by decide +kernel
theorem dX10_hasDoing_6 : decode cX10_hasDoing 6 = .ok (.getfield 29, 3) := by decide +kernel
theorem dX10_hasDoing_9 : decode cX10_hasDoing 9 = .ok (.if_icmp .ge 7, 3) := by decide +kernel
theorem dX10_hasDoing_12 : decode cX10_hasDoing 12 = .ok (.iconst 1, 1) := by decide +kernel
theorem dX10_hasDoing_13 : decode cX10_hasDoing 13 = .ok (.goto 4, 3) := by decide +kernel
theorem dX10_hasDoing_16 : decode cX10_hasDoing 16 = .ok (.iconst 0, 1) := by decide +kernel
theorem dX10_hasDoing_17 : decode cX10_hasDoing 17 = .ok (.ireturn, 1) := by decide +kernel
set_option maxHeartbeats 4000000 in
set_option maxRecDepth 100000 in
theorem c_X10_hasDoing (l : Launch) (E : zE) (n : Nat) (h : zH) (a0 : Nat) (p0 : Int32) (res : Int32 × zH) (hf : F_X10_hasDoing n h a0 p0 = some res) : Met l yX10_hasDoing (zw yX10_hasDoing cX10_hasDoing 2 (some .boolean)) ({ frames := 0, cells := 0, slots := 0, locals := 0 } : Room) (zPc E h [.ref (zB E + a0), .int p0]) (zQc E res.2 (some (.int res.1))) 0 0 (zfr E) := by
  refine zmet (lo := [(0, .ref (zB E + a0)), (1, .int p0)]) (by decide +kernel) (Nat.le_of_ble_eq_true rfl) rfl ?_
  intro p e s m args below meth c C hr hin
  unfold F_X10_hasDoing at hf
  have J17 : ∀ (h4 : zH) (x3 : Int32), F_X10_hasDoing_J17 n h4 x3 = some res → zW p l e (headSpec (zw yX10_hasDoing cX10_hasDoing 2 (some .boolean)) ({ frames := 0, cells := 0, slots := 0, locals := 0 } : Room)).room s m args below meth c E 2 (MQ below (zQc E res.2 (some (.int res.1))) args s 0 0 (zfr E)) 0 0 17 [] [.int x3] h4 := by
    intro h4 x3 hf
    unfold F_X10_hasDoing_J17 at hf
    exact zr_zreturn C hf hr (Nat.le_of_ble_eq_true rfl) (Nat.le_of_ble_eq_true rfl) dX10_hasDoing_17
  have J16 : ∀ (h6 : zH), F_X10_hasDoing_J16 n h6 = some res → zW p l e (headSpec (zw yX10_hasDoing cX10_hasDoing 2 (some .boolean)) ({ frames := 0, cells := 0, slots := 0, locals := 0 } : Room)).room s m args below meth c E 2 (MQ below (zQc E res.2 (some (.int res.1))) args s 0 0 (zfr E)) 0 0 16 [] [] h6 := by
    intro h6 hf
    unfold F_X10_hasDoing_J16 at hf
    refine zr_iconst (v := 0) C dX10_hasDoing_16 (by decide) ?_
    exact J17 h6 (0 : Int32) hf
  refine zr_iload_n C dX10_hasDoing_0 rfl 1 rfl ?_
  refine zr_if_lt (tgt := 16) C hf dX10_hasDoing_1 (by decide) (fun hf => ?_) (fun hf => ?_)
  · refine zsub [] rfl ?_
    exact J16 h hf
  · refine zr_iload_n C dX10_hasDoing_4 rfl 1 rfl ?_
    refine zr_aload_n C dX10_hasDoing_5 rfl 0 rfl ?_
    refine zr_gi C hf kg_X10_29 (fun _ _ _ => rfl) dX10_hasDoing_6 (fun x7 hf => ?_)
    refine zr_icmp_ge (tgt := 16) C hf dX10_hasDoing_9 (by decide) (fun hf => ?_) (fun hf => ?_)
    · refine zsub [] rfl ?_
      exact J16 h hf
    · refine zr_iconst (v := 1) C dX10_hasDoing_12 (by decide) ?_
      refine zr_goto (tgt := 17) C dX10_hasDoing_13 (by decide) ?_
      refine zsub [] rfl ?_
      exact J17 h (1 : Int32) hf
theorem dX10_doingOrRest_0 : decode cX10_doingOrRest 0 = .ok (.aload_n 0, 1) := by decide +kernel
theorem dX10_doingOrRest_1 : decode cX10_doingOrRest 1 = .ok (.iload_n 1, 1) := by decide +kernel
theorem dX10_doingOrRest_2 : decode cX10_doingOrRest 2 = .ok (.invokevirtual 159, 3) := by decide +kernel
theorem dX10_doingOrRest_5 : decode cX10_doingOrRest 5 = .ok (.ifCond .eq 12, 3) := by decide +kernel
theorem dX10_doingOrRest_8 : decode cX10_doingOrRest 8 = .ok (.aload_n 0, 1) := by decide +kernel
theorem dX10_doingOrRest_9 : decode cX10_doingOrRest 9 = .ok (.getfield 25, 3) := by decide +kernel
theorem dX10_doingOrRest_12 : decode cX10_doingOrRest 12 = .ok (.iload_n 1, 1) := by decide +kernel
theorem dX10_doingOrRest_13 : decode cX10_doingOrRest 13 = .ok (.aaload, 1) := by decide +kernel
theorem dX10_doingOrRest_14 : decode cX10_doingOrRest 14 = .ok (.goto 7, 3) := by decide +kernel
theorem dX10_doingOrRest_17 : decode cX10_doingOrRest 17 = .ok (.aload_n 0, 1) := by decide +kernel
theorem dX10_doingOrRest_18 : decode cX10_doingOrRest 18 = .ok (.getfield 21, 3) := by decide +kernel
theorem dX10_doingOrRest_21 : decode cX10_doingOrRest 21 = .ok (.areturn, 1) := by decide +kernel
set_option maxHeartbeats 4000000 in
set_option maxRecDepth 100000 in
theorem c_X10_doingOrRest (l : Launch) (E : zE) (n : Nat) (h : zH) (a0 : Nat) (p0 : Int32) (res : Nat × zH) (hf : F_X10_doingOrRest n h a0 p0 = some res) : Met l yX10_doingOrRest (zw yX10_doingOrRest cX10_doingOrRest 2 (some (.object RX2))) ({ frames := 1, cells := 0, slots := 0, locals := 21 } : Room) (zPc E h [.ref (zB E + a0), .int p0]) (zQc E res.2 (some (.ref (zB E + res.1)))) 0 0 (zfr E) := by
  refine zmet (lo := [(0, .ref (zB E + a0)), (1, .int p0)]) (by decide +kernel) (Nat.le_of_ble_eq_true rfl) rfl ?_
  intro p e s m args below meth c C hr hin
  unfold F_X10_doingOrRest at hf
  have J21 : ∀ (h4 : zH) (w3 : Nat), F_X10_doingOrRest_J21 n h4 w3 = some res → zW p l e (headSpec (zw yX10_doingOrRest cX10_doingOrRest 2 (some (.object RX2))) ({ frames := 1, cells := 0, slots := 0, locals := 21 } : Room)).room s m args below meth c E 2 (MQ below (zQc E res.2 (some (.ref (zB E + res.1)))) args s 0 0 (zfr E)) 0 0 21 [] [.ref (zB E + w3)] h4 := by
    intro h4 w3 hf
    unfold F_X10_doingOrRest_J21 at hf
    exact zr_areturn C hf hr (Or.inl ⟨_, rfl⟩) (Nat.le_of_ble_eq_true rfl) (Nat.le_of_ble_eq_true rfl) dX10_doingOrRest_21
  refine zr_aload_n C dX10_doingOrRest_0 rfl 0 rfl ?_
  refine zr_iload_n C dX10_doingOrRest_1 rfl 1 rfl ?_
  refine zr_callVi (As := [.int p0]) (rest := []) C hf (fun x hx => c_X10_hasDoing l E n h a0 p0 x hx) kv_X10_159 rfl rfl (Nat.le_of_ble_eq_true rfl) ⟨rfl, rfl⟩ ⟨Nat.le_of_ble_eq_true rfl, Nat.le_of_ble_eq_true rfl⟩ ⟨Nat.le_of_ble_eq_true rfl, Nat.le_of_ble_eq_true rfl⟩ dX10_doingOrRest_2 (fun x6 h5 hf => ?_)
  refine zr_if_eq (tgt := 17) C hf dX10_doingOrRest_5 (by decide) (fun hf => ?_) (fun hf => ?_)
  · refine zr_aload_n C dX10_doingOrRest_17 rfl 0 rfl ?_
    refine zr_gr C hf kg_X10_21 (fun _ _ _ => rfl) dX10_doingOrRest_18 (fun w7 hf => ?_)
    refine zsub [] rfl ?_
    exact J21 h5 w7 hf
  · refine zr_aload_n C dX10_doingOrRest_8 rfl 0 rfl ?_
    refine zr_gr C hf kg_X10_25 (fun _ _ _ => rfl) dX10_doingOrRest_9 (fun w8 hf => ?_)
    refine zr_iload_n C dX10_doingOrRest_12 rfl 1 rfl ?_
    refine zr_aaload (t0 := 4) C hf (by decide) rfl rfl dX10_doingOrRest_13 (fun w9 hf => ?_)
    refine zr_goto (tgt := 21) C dX10_doingOrRest_14 (by decide) ?_
    refine zsub [] rfl ?_
    exact J21 h5 w9 hf
theorem dX2_isA_0 : decode cX2_isA 0 = .ok (.iload_n 1, 1) := by decide +kernel
theorem dX2_isA_1 : decode cX2_isA 1 = .ok (.ifCond .eq 24, 3) := by decide +kernel
theorem dX2_isA_4 : decode cX2_isA 4 = .ok (.iload_n 1, 1) := by decide +kernel
theorem dX2_isA_5 : decode cX2_isA 5 = .ok (.aload_n 0, 1) := by decide +kernel
theorem dX2_isA_6 : decode cX2_isA 6 = .ok (.getfield 9, 3) := by decide +kernel
theorem dX2_isA_9 : decode cX2_isA 9 = .ok (.if_icmp .eq 16, 3) := by decide +kernel
theorem dX2_isA_12 : decode cX2_isA 12 = .ok (.iload_n 1, 1) := by decide +kernel
theorem dX2_isA_13 : decode cX2_isA 13 = .ok (.iconst 1, 1) := by decide +kernel
theorem dX2_isA_14 : decode cX2_isA 14 = .ok (.if_icmp .ne 15, 3) := by decide +kernel
theorem dX2_isA_17 : decode cX2_isA 17 = .ok (.aload_n 0, 1) := by decide +kernel
theorem dX2_isA_18 : decode cX2_isA 18 = .ok (.getfield 9, 3) := by decide +kernel
theorem dX2_isA_21 : decode cX2_isA 21 = .ok (.iconst 2, 1) := by decide +kernel
theorem dX2_isA_22 : decode cX2_isA 22 = .ok (.if_icmp .ne 7, 3) := by decide +kernel
theorem dX2_isA_25 : decode cX2_isA 25 = .ok (.iconst 1, 1) := by decide +kernel
theorem dX2_isA_26 : decode cX2_isA 26 = .ok (.goto 4, 3) := by decide +kernel
theorem dX2_isA_29 : decode cX2_isA 29 = .ok (.iconst 0, 1) := by decide +kernel
theorem dX2_isA_30 : decode cX2_isA 30 = .ok (.ireturn, 1) := by decide +kernel
set_option maxHeartbeats 4000000 in
set_option maxRecDepth 100000 in
theorem c_X2_isA (l : Launch) (E : zE) (n : Nat) (h : zH) (a0 : Nat) (p0 : Int32) (res : Int32 × zH) (hf : F_X2_isA n h a0 p0 = some res) : Met l yX2_isA (zw yX2_isA cX2_isA 2 (some .boolean)) ({ frames := 0, cells := 0, slots := 0, locals := 0 } : Room) (zPc E h [.ref (zB E + a0), .int p0]) (zQc E res.2 (some (.int res.1))) 0 0 (zfr E) := by
  refine zmet (lo := [(0, .ref (zB E + a0)), (1, .int p0)]) (by decide +kernel) (Nat.le_of_ble_eq_true rfl) rfl ?_
  intro p e s m args below meth c C hr hin
  unfold F_X2_isA at hf
  have J30 : ∀ (h4 : zH) (x3 : Int32), F_X2_isA_J30 n h4 x3 = some res → zW p l e (headSpec (zw yX2_isA cX2_isA 2 (some .boolean)) ({ frames := 0, cells := 0, slots := 0, locals := 0 } : Room)).room s m args below meth c E 2 (MQ below (zQc E res.2 (some (.int res.1))) args s 0 0 (zfr E)) 0 0 30 [] [.int x3] h4 := by
    intro h4 x3 hf
    unfold F_X2_isA_J30 at hf
    exact zr_zreturn C hf hr (Nat.le_of_ble_eq_true rfl) (Nat.le_of_ble_eq_true rfl) dX2_isA_30
  have J29 : ∀ (h6 : zH), F_X2_isA_J29 n h6 = some res → zW p l e (headSpec (zw yX2_isA cX2_isA 2 (some .boolean)) ({ frames := 0, cells := 0, slots := 0, locals := 0 } : Room)).room s m args below meth c E 2 (MQ below (zQc E res.2 (some (.int res.1))) args s 0 0 (zfr E)) 0 0 29 [] [] h6 := by
    intro h6 hf
    unfold F_X2_isA_J29 at hf
    refine zr_iconst (v := 0) C dX2_isA_29 (by decide) ?_
    exact J30 h6 (0 : Int32) hf
  have J25 : ∀ (h8 : zH), F_X2_isA_J25 n h8 = some res → zW p l e (headSpec (zw yX2_isA cX2_isA 2 (some .boolean)) ({ frames := 0, cells := 0, slots := 0, locals := 0 } : Room)).room s m args below meth c E 2 (MQ below (zQc E res.2 (some (.int res.1))) args s 0 0 (zfr E)) 0 0 25 [] [] h8 := by
    intro h8 hf
    unfold F_X2_isA_J25 at hf
    refine zr_iconst (v := 1) C dX2_isA_25 (by decide) ?_
    refine zr_goto (tgt := 30) C dX2_isA_26 (by decide) ?_
    exact J30 h8 (1 : Int32) hf
  refine zr_iload_n C dX2_isA_0 rfl 1 rfl ?_
  refine zr_if_eq (tgt := 25) C hf dX2_isA_1 (by decide) (fun hf => ?_) (fun hf => ?_)
  · refine zsub [] rfl ?_
    exact J25 h hf
  · refine zr_iload_n C dX2_isA_4 rfl 1 rfl ?_
    refine zr_aload_n C dX2_isA_5 rfl 0 rfl ?_
    refine zr_gi C hf kg_X2_9 (fun _ _ _ => rfl) dX2_isA_6 (fun x9 hf => ?_)
    refine zr_icmp_eq (tgt := 25) C hf dX2_isA_9 (by decide) (fun hf => ?_) (fun hf => ?_)
    · refine zsub [] rfl ?_
      exact J25 h hf
    · refine zr_iload_n C dX2_isA_12 rfl 1 rfl ?_
      refine zr_iconst (v := 1) C dX2_isA_13 (by decide) ?_
      refine zr_icmp_ne (tgt := 29) C hf dX2_isA_14 (by decide) (fun hf => ?_) (fun hf => ?_)
      · refine zsub [] rfl ?_
        exact J29 h hf
      · refine zr_aload_n C dX2_isA_17 rfl 0 rfl ?_
        refine zr_gi C hf kg_X2_9 (fun _ _ _ => rfl) dX2_isA_18 (fun x10 hf => ?_)
        refine zr_iconst (v := 2) C dX2_isA_21 (by decide) ?_
        refine zr_icmp_ne (tgt := 29) C hf dX2_isA_22 (by decide) (fun hf => ?_) (fun hf => ?_)
        · refine zsub [] rfl ?_
          exact J29 h hf
        · refine zsub [] rfl ?_
          exact J25 h hf
theorem dX10_as_0 : decode cX10_as 0 = .ok (.aload_n 0, 1) := by decide +kernel
theorem dX10_as_1 : decode cX10_as 1 = .ok (.iload_n 1, 1) := by decide +kernel
theorem dX10_as_2 : decode cX10_as 2 = .ok (.invokevirtual 159, 3) := by decide +kernel
theorem dX10_as_5 : decode cX10_as 5 = .ok (.ifCond .ne 6, 3) := by decide +kernel
theorem dX10_as_8 : decode cX10_as 8 = .ok (.bipush (-101), 2) := by decide +kernel
theorem dX10_as_10 : decode cX10_as 10 = .ok (.ireturn, 1) := by decide +kernel
theorem dX10_as_11 : decode cX10_as 11 = .ok (.iload_n 2, 1) := by decide +kernel
theorem dX10_as_12 : decode cX10_as 12 = .ok (.iconst 0, 1) := by decide +kernel
theorem dX10_as_13 : decode cX10_as 13 = .ok (.iconst 4, 1) := by decide +kernel
theorem dX10_as_14 : decode cX10_as 14 = .ok (.invokestatic 148, 3) := by decide +kernel
theorem dX10_as_17 : decode cX10_as 17 = .ok (.ifCond .ne 6, 3) := by decide +kernel
theorem dX10_as_20 : decode cX10_as 20 = .ok (.bipush (-102), 2) := by decide +kernel
theorem dX10_as_22 : decode cX10_as 22 = .ok (.ireturn, 1) := by decide +kernel
theorem dX10_as_23 : decode cX10_as 23 = .ok (.aload_n 0, 1) := by decide +kernel
theorem dX10_as_24 : decode cX10_as 24 = .ok (.iload_n 1, 1) := by decide +kernel
theorem dX10_as_25 : decode cX10_as 25 = .ok (.invokevirtual 163, 3) := by decide +kernel
theorem dX10_as_28 : decode cX10_as 28 = .ok (.iload_n 2, 1) := by decide +kernel
theorem dX10_as_29 : decode cX10_as 29 = .ok (.invokevirtual 167, 3) := by decide +kernel
theorem dX10_as_32 : decode cX10_as 32 = .ok (.ifCond .eq 7, 3) := by decide +kernel
theorem dX10_as_35 : decode cX10_as 35 = .ok (.iload_n 1, 1) := by decide +kernel
theorem dX10_as_36 : decode cX10_as 36 = .ok (.goto 4, 3) := by decide +kernel
theorem dX10_as_39 : decode cX10_as 39 = .ok (.iconst (-1), 1) := by decide +kernel
theorem dX10_as_40 : decode cX10_as 40 = .ok (.ireturn, 1) := by decide +kernel
set_option maxHeartbeats 4000000 in
set_option maxRecDepth 100000 in
theorem c_X10_as (l : Launch) (E : zE) (n : Nat) (h : zH) (a0 : Nat) (p0 : Int32) (p1 : Int32) (res : Int32 × zH) (hf : F_X10_as n h a0 p0 p1 = some res) : Met l yX10_as (zw yX10_as cX10_as 3 (some .int)) ({ frames := 2, cells := 0, slots := 0, locals := 42 } : Room) (zPc E h [.ref (zB E + a0), .int p0, .int p1]) (zQc E res.2 (some (.int res.1))) 0 0 (zfr E) := by
  refine zmet (lo := [(0, .ref (zB E + a0)), (1, .int p0), (2, .int p1)]) (by decide +kernel) (Nat.le_of_ble_eq_true rfl) rfl ?_
  intro p e s m args below meth c C hr hin
  unfold F_X10_as at hf
  have J40 : ∀ (h4 : zH) (x3 : Int32), F_X10_as_J40 n h4 x3 = some res → zW p l e (headSpec (zw yX10_as cX10_as 3 (some .int)) ({ frames := 2, cells := 0, slots := 0, locals := 42 } : Room)).room s m args below meth c E 3 (MQ below (zQc E res.2 (some (.int res.1))) args s 0 0 (zfr E)) 0 0 40 [] [.int x3] h4 := by
    intro h4 x3 hf
    unfold F_X10_as_J40 at hf
    exact zr_ireturn C hf hr (Nat.le_of_ble_eq_true rfl) (Nat.le_of_ble_eq_true rfl) dX10_as_40
  refine zr_aload_n C dX10_as_0 rfl 0 rfl ?_
  refine zr_iload_n C dX10_as_1 rfl 1 rfl ?_
  refine zr_callVi (As := [.int p0]) (rest := []) C hf (fun x hx => c_X10_hasDoing l E n h a0 p0 x hx) kv_X10_159 rfl rfl (Nat.le_of_ble_eq_true rfl) ⟨rfl, rfl⟩ ⟨Nat.le_of_ble_eq_true rfl, Nat.le_of_ble_eq_true rfl⟩ ⟨Nat.le_of_ble_eq_true rfl, Nat.le_of_ble_eq_true rfl⟩ dX10_as_2 (fun x6 h5 hf => ?_)
  refine zr_if_ne (tgt := 11) C hf dX10_as_5 (by decide) (fun hf => ?_) (fun hf => ?_)
  · refine zr_iload_n C dX10_as_11 rfl 2 rfl ?_
    refine zr_iconst (v := 0) C dX10_as_12 (by decide) ?_
    refine zr_iconst (v := 4) C dX10_as_13 (by decide) ?_
    refine zr_callSi (As := [.int p1, .int (0 : Int32), .int (4 : Int32)]) (rest := []) C hf (fun x hx => c_X10_isWithin l E n h5 p1 (0 : Int32) (4 : Int32) x hx) ks_X10_148 rfl rfl (Nat.le_of_ble_eq_true rfl) ⟨rfl, rfl⟩ ⟨Nat.le_of_ble_eq_true rfl, Nat.le_of_ble_eq_true rfl⟩ ⟨Nat.le_of_ble_eq_true rfl, Nat.le_of_ble_eq_true rfl⟩ dX10_as_14 (fun x8 h7 hf => ?_)
    refine zr_if_ne (tgt := 23) C hf dX10_as_17 (by decide) (fun hf => ?_) (fun hf => ?_)
    · refine zr_aload_n C dX10_as_23 rfl 0 rfl ?_
      refine zr_iload_n C dX10_as_24 rfl 1 rfl ?_
      refine zr_callVr (As := [.int p0]) (rest := []) C hf (fun x hx => c_X10_doingOrRest l E n h7 a0 p0 x hx) kv_X10_163 rfl rfl (Nat.le_of_ble_eq_true rfl) ⟨rfl, rfl⟩ ⟨Nat.le_of_ble_eq_true rfl, Nat.le_of_ble_eq_true rfl⟩ ⟨Nat.le_of_ble_eq_true rfl, Nat.le_of_ble_eq_true rfl⟩ dX10_as_25 (fun w10 h9 hf => ?_)
      refine zr_iload_n C dX10_as_28 rfl 2 rfl ?_
      refine zr_callVi (As := [.int p1]) (rest := []) C hf (fun x hx => c_X2_isA l E n h9 w10 p1 x hx) kv_X10_167 rfl rfl (Nat.le_of_ble_eq_true rfl) ⟨rfl, rfl⟩ ⟨Nat.le_of_ble_eq_true rfl, Nat.le_of_ble_eq_true rfl⟩ ⟨Nat.le_of_ble_eq_true rfl, Nat.le_of_ble_eq_true rfl⟩ dX10_as_29 (fun x12 h11 hf => ?_)
      refine zr_if_eq (tgt := 39) C hf dX10_as_32 (by decide) (fun hf => ?_) (fun hf => ?_)
      · refine zr_iconst (v := -1) C dX10_as_39 (by decide) ?_
        refine zsub [] rfl ?_
        exact J40 h11 (-1 : Int32) hf
      · refine zr_iload_n C dX10_as_35 rfl 1 rfl ?_
        refine zr_goto (tgt := 40) C dX10_as_36 (by decide) ?_
        refine zsub [] rfl ?_
        exact J40 h11 p0 hf
    · refine zr_bipush (v := -102) C dX10_as_20 (by decide) ?_
      exact zr_ireturn C hf hr (Nat.le_of_ble_eq_true rfl) (Nat.le_of_ble_eq_true rfl) dX10_as_22
  · refine zr_bipush (v := -101) C dX10_as_8 (by decide) ?_
    exact zr_ireturn C hf hr (Nat.le_of_ble_eq_true rfl) (Nat.le_of_ble_eq_true rfl) dX10_as_10
theorem dX1_hasRing_0 : decode cX1_hasRing 0 = .ok (.iload_n 1, 1) := by decide +kernel
theorem dX1_hasRing_1 : decode cX1_hasRing 1 = .ok (.ifCond .lt 17, 3) := by decide +kernel
theorem dX1_hasRing_4 : decode cX1_hasRing 4 = .ok (.iload_n 1, 1) := by decide +kernel
theorem dX1_hasRing_5 : decode cX1_hasRing 5 = .ok (.aload_n 0, 1) := by decide +kernel
theorem dX1_hasRing_6 : decode cX1_hasRing 6 = .ok (.getfield 9, 3) := by decide +kernel
theorem dX1_hasRing_9 : decode cX1_hasRing 9 = .ok (.iconst 0, 1) := by decide +kernel
theorem dX1_hasRing_10 : decode cX1_hasRing 10 = .ok (.iaload, 1) := by decide +kernel
theorem dX1_hasRing_11 : decode cX1_hasRing 11 = .ok (.if_icmp .ge 7, 3) := by decide +kernel
theorem dX1_hasRing_14 : decode cX1_hasRing 14 = .ok (.iconst 1, 1) := by decide +kernel
theorem dX1_hasRing_15 : decode cX1_hasRing 15 = .ok (.goto 4, 3) := by decide +kernel
theorem dX1_hasRing_18 : decode cX1_hasRing 18 = .ok (.iconst 0, 1) := by decide +kernel
theorem dX1_hasRing_19 : decode cX1_hasRing 19 = .ok (.ireturn, 1) := by decide +kernel
set_option maxHeartbeats 4000000 in
set_option maxRecDepth 100000 in
theorem c_X1_hasRing (l : Launch) (E : zE) (n : Nat) (h : zH) (a0 : Nat) (p0 : Int32) (res : Int32 × zH) (hf : F_X1_hasRing n h a0 p0 = some res) : Met l yX1_hasRing (zw yX1_hasRing cX1_hasRing 2 (some .boolean)) ({ frames := 0, cells := 0, slots := 0, locals := 0 } : Room) (zPc E h [.ref (zB E + a0), .int p0]) (zQc E res.2 (some (.int res.1))) 0 0 (zfr E) := by
  refine zmet (lo := [(0, .ref (zB E + a0)), (1, .int p0)]) (by decide +kernel) (Nat.le_of_ble_eq_true rfl) rfl ?_
  intro p e s m args below meth c C hr hin
  unfold F_X1_hasRing at hf
  have J19 : ∀ (h4 : zH) (x3 : Int32), F_X1_hasRing_J19 n h4 x3 = some res → zW p l e (headSpec (zw yX1_hasRing cX1_hasRing 2 (some .boolean)) ({ frames := 0, cells := 0, slots := 0, locals := 0 } : Room)).room s m args below meth c E 2 (MQ below (zQc E res.2 (some (.int res.1))) args s 0 0 (zfr E)) 0 0 19 [] [.int x3] h4 := by
    intro h4 x3 hf
    unfold F_X1_hasRing_J19 at hf
    exact zr_zreturn C hf hr (Nat.le_of_ble_eq_true rfl) (Nat.le_of_ble_eq_true rfl) dX1_hasRing_19
  have J18 : ∀ (h6 : zH), F_X1_hasRing_J18 n h6 = some res → zW p l e (headSpec (zw yX1_hasRing cX1_hasRing 2 (some .boolean)) ({ frames := 0, cells := 0, slots := 0, locals := 0 } : Room)).room s m args below meth c E 2 (MQ below (zQc E res.2 (some (.int res.1))) args s 0 0 (zfr E)) 0 0 18 [] [] h6 := by
    intro h6 hf
    unfold F_X1_hasRing_J18 at hf
    refine zr_iconst (v := 0) C dX1_hasRing_18 (by decide) ?_
    exact J19 h6 (0 : Int32) hf
  refine zr_iload_n C dX1_hasRing_0 rfl 1 rfl ?_
  refine zr_if_lt (tgt := 18) C hf dX1_hasRing_1 (by decide) (fun hf => ?_) (fun hf => ?_)
  · refine zsub [] rfl ?_
    exact J18 h hf
  · refine zr_iload_n C dX1_hasRing_4 rfl 1 rfl ?_
    refine zr_aload_n C dX1_hasRing_5 rfl 0 rfl ?_
    refine zr_gr C hf kg_X1_9 (fun _ _ _ => rfl) dX1_hasRing_6 (fun w7 hf => ?_)
    refine zr_iconst (v := 0) C dX1_hasRing_9 (by decide) ?_
    refine zr_iaload C hf dX1_hasRing_10 (fun x8 hf => ?_)
    refine zr_icmp_ge (tgt := 18) C hf dX1_hasRing_11 (by decide) (fun hf => ?_) (fun hf => ?_)
    · refine zsub [] rfl ?_
      exact J18 h hf
    · refine zr_iconst (v := 1) C dX1_hasRing_14 (by decide) ?_
      refine zr_goto (tgt := 19) C dX1_hasRing_15 (by decide) ?_
      refine zsub [] rfl ?_
      exact J19 h (1 : Int32) hf
theorem dX4_add_0 : decode cX4_add 0 = .ok (.aload_n 0, 1) := by decide +kernel
theorem dX4_add_1 : decode cX4_add 1 = .ok (.getfield 9, 3) := by decide +kernel
theorem dX4_add_4 : decode cX4_add 4 = .ok (.aload_n 0, 1) := by decide +kernel
theorem dX4_add_5 : decode cX4_add 5 = .ok (.getfield 15, 3) := by decide +kernel
theorem dX4_add_8 : decode cX4_add 8 = .ok (.arraylength, 1) := by decide +kernel
theorem dX4_add_9 : decode cX4_add 9 = .ok (.if_icmp .lt 6, 3) := by decide +kernel
theorem dX4_add_12 : decode cX4_add 12 = .ok (.bipush (-104), 2) := by decide +kernel
theorem dX4_add_14 : decode cX4_add 14 = .ok (.ireturn, 1) := by decide +kernel
theorem dX4_add_15 : decode cX4_add 15 = .ok (.aload_n 0, 1) := by decide +kernel
theorem dX4_add_16 : decode cX4_add 16 = .ok (.getfield 15, 3) := by decide +kernel
theorem dX4_add_19 : decode cX4_add 19 = .ok (.aload_n 0, 1) := by decide +kernel
theorem dX4_add_20 : decode cX4_add 20 = .ok (.getfield 9, 3) := by decide +kernel
theorem dX4_add_23 : decode cX4_add 23 = .ok (.iload_n 1, 1) := by decide +kernel
theorem dX4_add_24 : decode cX4_add 24 = .ok (.iastore, 1) := by decide +kernel
theorem dX4_add_25 : decode cX4_add 25 = .ok (.aload_n 0, 1) := by decide +kernel
theorem dX4_add_26 : decode cX4_add 26 = .ok (.getfield 19, 3) := by decide +kernel
theorem dX4_add_29 : decode cX4_add 29 = .ok (.aload_n 0, 1) := by decide +kernel
theorem dX4_add_30 : decode cX4_add 30 = .ok (.getfield 9, 3) := by decide +kernel
theorem dX4_add_33 : decode cX4_add 33 = .ok (.iload_n 2, 1) := by decide +kernel
theorem dX4_add_34 : decode cX4_add 34 = .ok (.iastore, 1) := by decide +kernel
theorem dX4_add_35 : decode cX4_add 35 = .ok (.aload_n 0, 1) := by decide +kernel
theorem dX4_add_36 : decode cX4_add 36 = .ok (.getfield 22, 3) := by decide +kernel
theorem dX4_add_39 : decode cX4_add 39 = .ok (.aload_n 0, 1) := by decide +kernel
theorem dX4_add_40 : decode cX4_add 40 = .ok (.getfield 9, 3) := by decide +kernel
theorem dX4_add_43 : decode cX4_add 43 = .ok (.iload_n 3, 1) := by decide +kernel
theorem dX4_add_44 : decode cX4_add 44 = .ok (.iastore, 1) := by decide +kernel
theorem dX4_add_45 : decode cX4_add 45 = .ok (.aload_n 0, 1) := by decide +kernel
theorem dX4_add_46 : decode cX4_add 46 = .ok (.getfield 25, 3) := by decide +kernel
theorem dX4_add_49 : decode cX4_add 49 = .ok (.aload_n 0, 1) := by decide +kernel
theorem dX4_add_50 : decode cX4_add 50 = .ok (.getfield 9, 3) := by decide +kernel
theorem dX4_add_53 : decode cX4_add 53 = .ok (.iconst (-1), 1) := by decide +kernel
theorem dX4_add_54 : decode cX4_add 54 = .ok (.iastore, 1) := by decide +kernel
theorem dX4_add_55 : decode cX4_add 55 = .ok (.aload_n 0, 1) := by decide +kernel
theorem dX4_add_56 : decode cX4_add 56 = .ok (.dup, 1) := by decide +kernel
theorem dX4_add_57 : decode cX4_add 57 = .ok (.getfield 9, 3) := by decide +kernel
theorem dX4_add_60 : decode cX4_add 60 = .ok (.iconst 1, 1) := by decide +kernel
theorem dX4_add_61 : decode cX4_add 61 = .ok (.iadd, 1) := by decide +kernel
theorem dX4_add_62 : decode cX4_add 62 = .ok (.putfield 9, 3) := by decide +kernel
theorem dX4_add_65 : decode cX4_add 65 = .ok (.aload_n 0, 1) := by decide +kernel
theorem dX4_add_66 : decode cX4_add 66 = .ok (.getfield 9, 3) := by decide +kernel
theorem dX4_add_69 : decode cX4_add 69 = .ok (.iconst 1, 1) := by decide +kernel
theorem dX4_add_70 : decode cX4_add 70 = .ok (.isub, 1) := by decide +kernel
theorem dX4_add_71 : decode cX4_add 71 = .ok (.ireturn, 1) := by decide +kernel
set_option maxHeartbeats 4000000 in
set_option maxRecDepth 100000 in
theorem c_X4_add (l : Launch) (E : zE) (n : Nat) (h : zH) (a0 : Nat) (p0 : Int32) (p1 : Int32) (p2 : Int32) (res : Int32 × zH) (hf : F_X4_add n h a0 p0 p1 p2 = some res) : Met l yX4_add (zw yX4_add cX4_add 4 (some .int)) ({ frames := 0, cells := 0, slots := 0, locals := 0 } : Room) (zPc E h [.ref (zB E + a0), .int p0, .int p1, .int p2]) (zQc E res.2 (some (.int res.1))) 0 0 (zfr E) := by
  refine zmet (lo := [(0, .ref (zB E + a0)), (1, .int p0), (2, .int p1), (3, .int p2)]) (by decide +kernel) (Nat.le_of_ble_eq_true rfl) rfl ?_
  intro p e s m args below meth c C hr hin
  unfold F_X4_add at hf
  refine zr_aload_n C dX4_add_0 rfl 0 rfl ?_
  refine zr_gi C hf kg_X4_9 (fun _ _ _ => rfl) dX4_add_1 (fun x1 hf => ?_)
  refine zr_aload_n C dX4_add_4 rfl 0 rfl ?_
  refine zr_gr C hf kg_X4_15 (fun _ _ _ => rfl) dX4_add_5 (fun w2 hf => ?_)
  refine zr_alen (t0 := 0) C hf (by decide) rfl dX4_add_8 (fun x3 hf => ?_)
  refine zr_icmp_lt (tgt := 15) C hf dX4_add_9 (by decide) (fun hf => ?_) (fun hf => ?_)
  · refine zr_aload_n C dX4_add_15 rfl 0 rfl ?_
    refine zr_gr C hf kg_X4_15 (fun _ _ _ => rfl) dX4_add_16 (fun w4 hf => ?_)
    refine zr_aload_n C dX4_add_19 rfl 0 rfl ?_
    refine zr_gi C hf kg_X4_9 (fun _ _ _ => rfl) dX4_add_20 (fun x5 hf => ?_)
    refine zr_iload_n C dX4_add_23 rfl 1 rfl ?_
    refine zr_iastore C hf dX4_add_24 (fun h6 hf => ?_)
    refine zr_aload_n C dX4_add_25 rfl 0 rfl ?_
    refine zr_gr C hf kg_X4_19 (fun _ _ _ => rfl) dX4_add_26 (fun w7 hf => ?_)
    refine zr_aload_n C dX4_add_29 rfl 0 rfl ?_
    refine zr_gi C hf kg_X4_9 (fun _ _ _ => rfl) dX4_add_30 (fun x8 hf => ?_)
    refine zr_iload_n C dX4_add_33 rfl 2 rfl ?_
    refine zr_iastore C hf dX4_add_34 (fun h9 hf => ?_)
    refine zr_aload_n C dX4_add_35 rfl 0 rfl ?_
    refine zr_gr C hf kg_X4_22 (fun _ _ _ => rfl) dX4_add_36 (fun w10 hf => ?_)
    refine zr_aload_n C dX4_add_39 rfl 0 rfl ?_
    refine zr_gi C hf kg_X4_9 (fun _ _ _ => rfl) dX4_add_40 (fun x11 hf => ?_)
    refine zr_iload_n C dX4_add_43 rfl 3 rfl ?_
    refine zr_iastore C hf dX4_add_44 (fun h12 hf => ?_)
    refine zr_aload_n C dX4_add_45 rfl 0 rfl ?_
    refine zr_gr C hf kg_X4_25 (fun _ _ _ => rfl) dX4_add_46 (fun w13 hf => ?_)
    refine zr_aload_n C dX4_add_49 rfl 0 rfl ?_
    refine zr_gi C hf kg_X4_9 (fun _ _ _ => rfl) dX4_add_50 (fun x14 hf => ?_)
    refine zr_iconst (v := -1) C dX4_add_53 (by decide) ?_
    refine zr_iastore C hf dX4_add_54 (fun h15 hf => ?_)
    refine zr_aload_n C dX4_add_55 rfl 0 rfl ?_
    refine zr_dup C dX4_add_56 rfl ?_
    refine zr_gi C hf kg_X4_9 (fun _ _ _ => rfl) dX4_add_57 (fun x16 hf => ?_)
    refine zr_iconst (v := 1) C dX4_add_60 (by decide) ?_
    refine zr_iadd C hf dX4_add_61 (fun x17 hf => ?_)
    refine zr_si C hf kp_X4_9 (fun _ _ _ => rfl) rfl dX4_add_62 (fun h18 hf => ?_)
    refine zr_aload_n C dX4_add_65 rfl 0 rfl ?_
    refine zr_gi C hf kg_X4_9 (fun _ _ _ => rfl) dX4_add_66 (fun x19 hf => ?_)
    refine zr_iconst (v := 1) C dX4_add_69 (by decide) ?_
    refine zr_isub C hf dX4_add_70 (fun x20 hf => ?_)
    exact zr_ireturn C hf hr (Nat.le_of_ble_eq_true rfl) (Nat.le_of_ble_eq_true rfl) dX4_add_71
  · refine zr_bipush (v := -104) C dX4_add_12 (by decide) ?_
    exact zr_ireturn C hf hr (Nat.le_of_ble_eq_true rfl) (Nat.le_of_ble_eq_true rfl) dX4_add_14
theorem dX4_has_0 : decode cX4_has 0 = .ok (.iload_n 1, 1) := by decide +kernel
theorem dX4_has_1 : decode cX4_has 1 = .ok (.ifCond .lt 15, 3) := by decide +kernel
theorem dX4_has_4 : decode cX4_has 4 = .ok (.iload_n 1, 1) := by decide +kernel
theorem dX4_has_5 : decode cX4_has 5 = .ok (.aload_n 0, 1) := by decide +kernel
theorem dX4_has_6 : decode cX4_has 6 = .ok (.getfield 9, 3) := by decide +kernel
theorem dX4_has_9 : decode cX4_has 9 = .ok (.if_icmp .ge 7, 3) := by decide +kernel
theorem dX4_has_12 : decode cX4_has 12 = .ok (.iconst 1, 1) := by decide +kernel
theorem dX4_has_13 : decode cX4_has 13 = .ok (.goto 4, 3) := by decide +kernel
theorem dX4_has_16 : decode cX4_has 16 = .ok (.iconst 0, 1) := by decide +kernel
theorem dX4_has_17 : decode cX4_has 17 = .ok (.ireturn, 1) := by decide +kernel
set_option maxHeartbeats 4000000 in
set_option maxRecDepth 100000 in
theorem c_X4_has (l : Launch) (E : zE) (n : Nat) (h : zH) (a0 : Nat) (p0 : Int32) (res : Int32 × zH) (hf : F_X4_has n h a0 p0 = some res) : Met l yX4_has (zw yX4_has cX4_has 2 (some .boolean)) ({ frames := 0, cells := 0, slots := 0, locals := 0 } : Room) (zPc E h [.ref (zB E + a0), .int p0]) (zQc E res.2 (some (.int res.1))) 0 0 (zfr E) := by
  refine zmet (lo := [(0, .ref (zB E + a0)), (1, .int p0)]) (by decide +kernel) (Nat.le_of_ble_eq_true rfl) rfl ?_
  intro p e s m args below meth c C hr hin
  unfold F_X4_has at hf
  have J17 : ∀ (h4 : zH) (x3 : Int32), F_X4_has_J17 n h4 x3 = some res → zW p l e (headSpec (zw yX4_has cX4_has 2 (some .boolean)) ({ frames := 0, cells := 0, slots := 0, locals := 0 } : Room)).room s m args below meth c E 2 (MQ below (zQc E res.2 (some (.int res.1))) args s 0 0 (zfr E)) 0 0 17 [] [.int x3] h4 := by
    intro h4 x3 hf
    unfold F_X4_has_J17 at hf
    exact zr_zreturn C hf hr (Nat.le_of_ble_eq_true rfl) (Nat.le_of_ble_eq_true rfl) dX4_has_17
  have J16 : ∀ (h6 : zH), F_X4_has_J16 n h6 = some res → zW p l e (headSpec (zw yX4_has cX4_has 2 (some .boolean)) ({ frames := 0, cells := 0, slots := 0, locals := 0 } : Room)).room s m args below meth c E 2 (MQ below (zQc E res.2 (some (.int res.1))) args s 0 0 (zfr E)) 0 0 16 [] [] h6 := by
    intro h6 hf
    unfold F_X4_has_J16 at hf
    refine zr_iconst (v := 0) C dX4_has_16 (by decide) ?_
    exact J17 h6 (0 : Int32) hf
  refine zr_iload_n C dX4_has_0 rfl 1 rfl ?_
  refine zr_if_lt (tgt := 16) C hf dX4_has_1 (by decide) (fun hf => ?_) (fun hf => ?_)
  · refine zsub [] rfl ?_
    exact J16 h hf
  · refine zr_iload_n C dX4_has_4 rfl 1 rfl ?_
    refine zr_aload_n C dX4_has_5 rfl 0 rfl ?_
    refine zr_gi C hf kg_X4_9 (fun _ _ _ => rfl) dX4_has_6 (fun x7 hf => ?_)
    refine zr_icmp_ge (tgt := 16) C hf dX4_has_9 (by decide) (fun hf => ?_) (fun hf => ?_)
    · refine zsub [] rfl ?_
      exact J16 h hf
    · refine zr_iconst (v := 1) C dX4_has_12 (by decide) ?_
      refine zr_goto (tgt := 17) C dX4_has_13 (by decide) ?_
      refine zsub [] rfl ?_
      exact J17 h (1 : Int32) hf
theorem dX10_leaf_0 : decode cX10_leaf 0 = .ok (.aload_n 0, 1) := by decide +kernel
theorem dX10_leaf_1 : decode cX10_leaf 1 = .ok (.getfield 36, 3) := by decide +kernel
theorem dX10_leaf_4 : decode cX10_leaf 4 = .ok (.iload_n 1, 1) := by decide +kernel
theorem dX10_leaf_5 : decode cX10_leaf 5 = .ok (.invokevirtual 170, 3) := by decide +kernel
theorem dX10_leaf_8 : decode cX10_leaf 8 = .ok (.ifCond .ne 6, 3) := by decide +kernel
theorem dX10_leaf_11 : decode cX10_leaf 11 = .ok (.bipush (-101), 2) := by decide +kernel
theorem dX10_leaf_13 : decode cX10_leaf 13 = .ok (.ireturn, 1) := by decide +kernel
theorem dX10_leaf_14 : decode cX10_leaf 14 = .ok (.iload_n 2, 1) := by decide +kernel
theorem dX10_leaf_15 : decode cX10_leaf 15 = .ok (.iconst 0, 1) := by decide +kernel
theorem dX10_leaf_16 : decode cX10_leaf 16 = .ok (.bipush 9, 2) := by decide +kernel
theorem dX10_leaf_18 : decode cX10_leaf 18 = .ok (.invokestatic 148, 3) := by decide +kernel
theorem dX10_leaf_21 : decode cX10_leaf 21 = .ok (.ifCond .eq 13, 3) := by decide +kernel
theorem dX10_leaf_24 : decode cX10_leaf 24 = .ok (.iload_n 3, 1) := by decide +kernel
theorem dX10_leaf_25 : decode cX10_leaf 25 = .ok (.iconst 0, 1) := by decide +kernel
theorem dX10_leaf_26 : decode cX10_leaf 26 = .ok (.bipush 9, 2) := by decide +kernel
theorem dX10_leaf_28 : decode cX10_leaf 28 = .ok (.invokestatic 148, 3) := by decide +kernel
theorem dX10_leaf_31 : decode cX10_leaf 31 = .ok (.ifCond .ne 6, 3) := by decide +kernel
theorem dX10_leaf_34 : decode cX10_leaf 34 = .ok (.bipush (-102), 2) := by decide +kernel
theorem dX10_leaf_36 : decode cX10_leaf 36 = .ok (.ireturn, 1) := by decide +kernel
theorem dX10_leaf_37 : decode cX10_leaf 37 = .ok (.aload_n 0, 1) := by decide +kernel
theorem dX10_leaf_38 : decode cX10_leaf 38 = .ok (.getfield 75, 3) := by decide +kernel
theorem dX10_leaf_41 : decode cX10_leaf 41 = .ok (.iload_n 1, 1) := by decide +kernel
theorem dX10_leaf_42 : decode cX10_leaf 42 = .ok (.iload_n 2, 1) := by decide +kernel
theorem dX10_leaf_43 : decode cX10_leaf 43 = .ok (.iload_n 3, 1) := by decide +kernel
theorem dX10_leaf_44 : decode cX10_leaf 44 = .ok (.invokevirtual 173, 3) := by decide +kernel
theorem dX10_leaf_47 : decode cX10_leaf 47 = .ok (.istore 4, 2) := by decide +kernel
theorem dX10_leaf_49 : decode cX10_leaf 49 = .ok (.aload_n 0, 1) := by decide +kernel
theorem dX10_leaf_50 : decode cX10_leaf 50 = .ok (.getfield 75, 3) := by decide +kernel
theorem dX10_leaf_53 : decode cX10_leaf 53 = .ok (.iload 4, 2) := by decide +kernel
theorem dX10_leaf_55 : decode cX10_leaf 55 = .ok (.invokevirtual 177, 3) := by decide +kernel
theorem dX10_leaf_58 : decode cX10_leaf 58 = .ok (.ifCond .eq 14, 3) := by decide +kernel
theorem dX10_leaf_61 : decode cX10_leaf 61 = .ok (.aload_n 0, 1) := by decide +kernel
theorem dX10_leaf_62 : decode cX10_leaf 62 = .ok (.getfield 85, 3) := by decide +kernel
theorem dX10_leaf_65 : decode cX10_leaf 65 = .ok (.getfield 180, 3) := by decide +kernel
theorem dX10_leaf_68 : decode cX10_leaf 68 = .ok (.iload 4, 2) := by decide +kernel
theorem dX10_leaf_70 : decode cX10_leaf 70 = .ok (.iload_n 1, 1) := by decide +kernel
theorem dX10_leaf_71 : decode cX10_leaf 71 = .ok (.iastore, 1) := by decide +kernel
theorem dX10_leaf_72 : decode cX10_leaf 72 = .ok (.iload 4, 2) := by decide +kernel
theorem dX10_leaf_74 : decode cX10_leaf 74 = .ok (.ireturn, 1) := by decide +kernel
set_option maxHeartbeats 4000000 in
set_option maxRecDepth 100000 in
theorem c_X10_leaf (l : Launch) (E : zE) (n : Nat) (h : zH) (a0 : Nat) (p0 : Int32) (p1 : Int32) (p2 : Int32) (res : Int32 × zH) (hf : F_X10_leaf n h a0 p0 p1 p2 = some res) : Met l yX10_leaf (zw yX10_leaf cX10_leaf 5 (some .int)) ({ frames := 1, cells := 0, slots := 0, locals := 23 } : Room) (zPc E h [.ref (zB E + a0), .int p0, .int p1, .int p2]) (zQc E res.2 (some (.int res.1))) 0 0 (zfr E) := by
  refine zmet (lo := [(0, .ref (zB E + a0)), (1, .int p0), (2, .int p1), (3, .int p2)]) (by decide +kernel) (Nat.le_of_ble_eq_true rfl) rfl ?_
  intro p e s m args below meth c C hr hin
  unfold F_X10_leaf at hf
  have J72 : ∀ (h4 : zH) (x3 : Int32), F_X10_leaf_J72 n h4 x3 = some res → zW p l e (headSpec (zw yX10_leaf cX10_leaf 5 (some .int)) ({ frames := 1, cells := 0, slots := 0, locals := 23 } : Room)).room s m args below meth c E 5 (MQ below (zQc E res.2 (some (.int res.1))) args s 0 0 (zfr E)) 0 0 72 [(4, .int x3)] [] h4 := by
    intro h4 x3 hf
    unfold F_X10_leaf_J72 at hf
    refine zr_iload C dX10_leaf_72 0 rfl ?_
    exact zr_ireturn C hf hr (Nat.le_of_ble_eq_true rfl) (Nat.le_of_ble_eq_true rfl) dX10_leaf_74
  have J34 : ∀ (h6 : zH), F_X10_leaf_J34 n h6 = some res → zW p l e (headSpec (zw yX10_leaf cX10_leaf 5 (some .int)) ({ frames := 1, cells := 0, slots := 0, locals := 23 } : Room)).room s m args below meth c E 5 (MQ below (zQc E res.2 (some (.int res.1))) args s 0 0 (zfr E)) 0 0 34 [] [] h6 := by
    intro h6 hf
    unfold F_X10_leaf_J34 at hf
    refine zr_bipush (v := -102) C dX10_leaf_34 (by decide) ?_
    exact zr_ireturn C hf hr (Nat.le_of_ble_eq_true rfl) (Nat.le_of_ble_eq_true rfl) dX10_leaf_36
  refine zr_aload_n C dX10_leaf_0 rfl 0 rfl ?_
  refine zr_gr C hf kg_X10_36 (fun _ _ _ => rfl) dX10_leaf_1 (fun w7 hf => ?_)
  refine zr_iload_n C dX10_leaf_4 rfl 1 rfl ?_
  refine zr_callVi (As := [.int p0]) (rest := []) C hf (fun x hx => c_X1_hasRing l E n h w7 p0 x hx) kv_X10_170 rfl rfl (Nat.le_of_ble_eq_true rfl) ⟨rfl, rfl⟩ ⟨Nat.le_of_ble_eq_true rfl, Nat.le_of_ble_eq_true rfl⟩ ⟨Nat.le_of_ble_eq_true rfl, Nat.le_of_ble_eq_true rfl⟩ dX10_leaf_5 (fun x9 h8 hf => ?_)
  refine zr_if_ne (tgt := 14) C hf dX10_leaf_8 (by decide) (fun hf => ?_) (fun hf => ?_)
  · refine zr_iload_n C dX10_leaf_14 rfl 2 rfl ?_
    refine zr_iconst (v := 0) C dX10_leaf_15 (by decide) ?_
    refine zr_bipush (v := 9) C dX10_leaf_16 (by decide) ?_
    refine zr_callSi (As := [.int p1, .int (0 : Int32), .int (9 : Int32)]) (rest := []) C hf (fun x hx => c_X10_isWithin l E n h8 p1 (0 : Int32) (9 : Int32) x hx) ks_X10_148 rfl rfl (Nat.le_of_ble_eq_true rfl) ⟨rfl, rfl⟩ ⟨Nat.le_of_ble_eq_true rfl, Nat.le_of_ble_eq_true rfl⟩ ⟨Nat.le_of_ble_eq_true rfl, Nat.le_of_ble_eq_true rfl⟩ dX10_leaf_18 (fun x11 h10 hf => ?_)
    refine zr_if_eq (tgt := 34) C hf dX10_leaf_21 (by decide) (fun hf => ?_) (fun hf => ?_)
    · refine zsub [] rfl ?_
      exact J34 h10 hf
    · refine zr_iload_n C dX10_leaf_24 rfl 3 rfl ?_
      refine zr_iconst (v := 0) C dX10_leaf_25 (by decide) ?_
      refine zr_bipush (v := 9) C dX10_leaf_26 (by decide) ?_
      refine zr_callSi (As := [.int p2, .int (0 : Int32), .int (9 : Int32)]) (rest := []) C hf (fun x hx => c_X10_isWithin l E n h10 p2 (0 : Int32) (9 : Int32) x hx) ks_X10_148 rfl rfl (Nat.le_of_ble_eq_true rfl) ⟨rfl, rfl⟩ ⟨Nat.le_of_ble_eq_true rfl, Nat.le_of_ble_eq_true rfl⟩ ⟨Nat.le_of_ble_eq_true rfl, Nat.le_of_ble_eq_true rfl⟩ dX10_leaf_28 (fun x13 h12 hf => ?_)
      refine zr_if_ne (tgt := 37) C hf dX10_leaf_31 (by decide) (fun hf => ?_) (fun hf => ?_)
      · refine zr_aload_n C dX10_leaf_37 rfl 0 rfl ?_
        refine zr_gr C hf kg_X10_75 (fun _ _ _ => rfl) dX10_leaf_38 (fun w14 hf => ?_)
        refine zr_iload_n C dX10_leaf_41 rfl 1 rfl ?_
        refine zr_iload_n C dX10_leaf_42 rfl 2 rfl ?_
        refine zr_iload_n C dX10_leaf_43 rfl 3 rfl ?_
        refine zr_callVi (As := [.int p0, .int p1, .int p2]) (rest := []) C hf (fun x hx => c_X4_add l E n h12 w14 p0 p1 p2 x hx) kv_X10_173 rfl rfl (Nat.le_of_ble_eq_true rfl) ⟨rfl, rfl⟩ ⟨Nat.le_of_ble_eq_true rfl, Nat.le_of_ble_eq_true rfl⟩ ⟨Nat.le_of_ble_eq_true rfl, Nat.le_of_ble_eq_true rfl⟩ dX10_leaf_44 (fun x16 h15 hf => ?_)
        refine zr_istore (lo2 := [(4, .int x16), (0, .ref (zB E + a0)), (1, .int p0), (2, .int p1), (3, .int p2)]) C dX10_leaf_47 (by decide) rfl ?_
        refine zr_aload_n C dX10_leaf_49 rfl 1 rfl ?_
        refine zr_gr C hf kg_X10_75 (fun _ _ _ => rfl) dX10_leaf_50 (fun w17 hf => ?_)
        refine zr_iload C dX10_leaf_53 0 rfl ?_
        refine zr_callVi (As := [.int x16]) (rest := []) C hf (fun x hx => c_X4_has l E n h15 w17 x16 x hx) kv_X10_177 rfl rfl (Nat.le_of_ble_eq_true rfl) ⟨rfl, rfl⟩ ⟨Nat.le_of_ble_eq_true rfl, Nat.le_of_ble_eq_true rfl⟩ ⟨Nat.le_of_ble_eq_true rfl, Nat.le_of_ble_eq_true rfl⟩ dX10_leaf_55 (fun x19 h18 hf => ?_)
        refine zr_if_eq (tgt := 72) C hf dX10_leaf_58 (by decide) (fun hf => ?_) (fun hf => ?_)
        · refine zsub [0] rfl ?_
          exact J72 h18 x16 hf
        · refine zr_aload_n C dX10_leaf_61 rfl 1 rfl ?_
          refine zr_gr C hf kg_X10_85 (fun _ _ _ => rfl) dX10_leaf_62 (fun w20 hf => ?_)
          refine zr_gr C hf kg_X10_180 (fun _ _ _ => rfl) dX10_leaf_65 (fun w21 hf => ?_)
          refine zr_iload C dX10_leaf_68 0 rfl ?_
          refine zr_iload_n C dX10_leaf_70 rfl 2 rfl ?_
          refine zr_iastore C hf dX10_leaf_71 (fun h22 hf => ?_)
          refine zsub [0] rfl ?_
          exact J72 h22 x16 hf
      · refine zsub [] rfl ?_
        exact J34 h12 hf
  · refine zr_bipush (v := -101) C dX10_leaf_11 (by decide) ?_
    exact zr_ireturn C hf hr (Nat.le_of_ble_eq_true rfl) (Nat.le_of_ble_eq_true rfl) dX10_leaf_13
theorem dX1_heights_0 : decode cX1_heights 0 = .ok (.aload_n 0, 1) := by decide +kernel
theorem dX1_heights_1 : decode cX1_heights 1 = .ok (.getfield 9, 3) := by decide +kernel
theorem dX1_heights_4 : decode cX1_heights 4 = .ok (.iconst 1, 1) := by decide +kernel
theorem dX1_heights_5 : decode cX1_heights 5 = .ok (.iaload, 1) := by decide +kernel
theorem dX1_heights_6 : decode cX1_heights 6 = .ok (.ireturn, 1) := by decide +kernel
set_option maxHeartbeats 4000000 in
set_option maxRecDepth 100000 in
theorem c_X1_heights (l : Launch) (E : zE) (n : Nat) (h : zH) (a0 : Nat) (res : Int32 × zH) (hf : F_X1_heights n h a0 = some res) : Met l yX1_heights (zw yX1_heights cX1_heights 1 (some .int)) ({ frames := 0, cells := 0, slots := 0, locals := 0 } : Room) (zPc E h [.ref (zB E + a0)]) (zQc E res.2 (some (.int res.1))) 0 0 (zfr E) := by
  refine zmet (lo := [(0, .ref (zB E + a0))]) (by decide +kernel) (Nat.le_of_ble_eq_true rfl) rfl ?_
  intro p e s m args below meth c C hr hin
  unfold F_X1_heights at hf
  refine zr_aload_n C dX1_heights_0 rfl 0 rfl ?_
  refine zr_gr C hf kg_X1_9 (fun _ _ _ => rfl) dX1_heights_1 (fun w1 hf => ?_)
  refine zr_iconst (v := 1) C dX1_heights_4 (by decide) ?_
  refine zr_iaload C hf dX1_heights_5 (fun x2 hf => ?_)
  exact zr_ireturn C hf hr (Nat.le_of_ble_eq_true rfl) (Nat.le_of_ble_eq_true rfl) dX1_heights_6
theorem dX0_secondTurning_0 : decode cX0_secondTurning 0 = .ok (.iload_n 2, 1) := by decide +kernel
theorem dX0_secondTurning_1 : decode cX0_secondTurning 1 = .ok (.iconst 1, 1) := by decide +kernel
theorem dX0_secondTurning_2 : decode cX0_secondTurning 2 = .ok (.isub, 1) := by decide +kernel
theorem dX0_secondTurning_3 : decode cX0_secondTurning 3 = .ok (.istore_n 3, 1) := by decide +kernel
theorem dX0_secondTurning_4 : decode cX0_secondTurning 4 = .ok (.iload_n 3, 1) := by decide +kernel
theorem dX0_secondTurning_5 : decode cX0_secondTurning 5 = .ok (.iconst 1, 1) := by decide +kernel
theorem dX0_secondTurning_6 : decode cX0_secondTurning 6 = .ok (.if_icmp .lt 18, 3) := by decide +kernel
theorem dX0_secondTurning_9 : decode cX0_secondTurning 9 = .ok (.iload_n 2, 1) := by decide +kernel
theorem dX0_secondTurning_10 : decode cX0_secondTurning 10 = .ok (.iconst 4, 1) := by decide +kernel
theorem dX0_secondTurning_11 : decode cX0_secondTurning 11 = .ok (.if_icmp .gt 13, 3) := by decide +kernel
theorem dX0_secondTurning_14 : decode cX0_secondTurning 14 = .ok (.iload_n 1, 1) := by decide +kernel
theorem dX0_secondTurning_15 : decode cX0_secondTurning 15 = .ok (.ifCond .lt 9, 3) := by decide +kernel
theorem dX0_secondTurning_18 : decode cX0_secondTurning 18 = .ok (.iload_n 1, 1) := by decide +kernel
theorem dX0_secondTurning_19 : decode cX0_secondTurning 19 = .ok (.bipush 6, 2) := by decide +kernel
theorem dX0_secondTurning_21 : decode cX0_secondTurning 21 = .ok (.if_icmp .lt 5, 3) := by decide +kernel
theorem dX0_secondTurning_24 : decode cX0_secondTurning 24 = .ok (.iconst 0, 1) := by decide +kernel
theorem dX0_secondTurning_25 : decode cX0_secondTurning 25 = .ok (.ireturn, 1) := by decide +kernel
theorem dX0_secondTurning_26 : decode cX0_secondTurning 26 = .ok (.iconst 0, 1) := by decide +kernel
theorem dX0_secondTurning_27 : decode cX0_secondTurning 27 = .ok (.istore 4, 2) := by decide +kernel
theorem dX0_secondTurning_29 : decode cX0_secondTurning 29 = .ok (.iconst 1, 1) := by decide +kernel
theorem dX0_secondTurning_30 : decode cX0_secondTurning 30 = .ok (.istore 5, 2) := by decide +kernel
theorem dX0_secondTurning_32 : decode cX0_secondTurning 32 = .ok (.iload 5, 2) := by decide +kernel
theorem dX0_secondTurning_34 : decode cX0_secondTurning 34 = .ok (.iload_n 3, 1) := by decide +kernel
theorem dX0_secondTurning_35 : decode cX0_secondTurning 35 = .ok (.if_icmp .gt 33, 3) := by decide +kernel
theorem dX0_secondTurning_38 : decode cX0_secondTurning 38 = .ok (.iload 4, 2) := by decide +kernel
theorem dX0_secondTurning_40 : decode cX0_secondTurning 40 = .ok (.aload_n 0, 1) := by decide +kernel
theorem dX0_secondTurning_41 : decode cX0_secondTurning 41 = .ok (.getfield 11, 3) := by decide +kernel
theorem dX0_secondTurning_44 : decode cX0_secondTurning 44 = .ok (.iload_n 1, 1) := by decide +kernel
theorem dX0_secondTurning_45 : decode cX0_secondTurning 45 = .ok (.aaload, 1) := by decide +kernel
theorem dX0_secondTurning_46 : decode cX0_secondTurning 46 = .ok (.iload 5, 2) := by decide +kernel
theorem dX0_secondTurning_48 : decode cX0_secondTurning 48 = .ok (.iaload, 1) := by decide +kernel
theorem dX0_secondTurning_49 : decode cX0_secondTurning 49 = .ok (.aload_n 0, 1) := by decide +kernel
theorem dX0_secondTurning_50 : decode cX0_secondTurning 50 = .ok (.getfield 11, 3) := by decide +kernel
theorem dX0_secondTurning_53 : decode cX0_secondTurning 53 = .ok (.iload_n 1, 1) := by decide +kernel
theorem dX0_secondTurning_54 : decode cX0_secondTurning 54 = .ok (.aaload, 1) := by decide +kernel
theorem dX0_secondTurning_55 : decode cX0_secondTurning 55 = .ok (.iload 5, 2) := by decide +kernel
theorem dX0_secondTurning_57 : decode cX0_secondTurning 57 = .ok (.iaload, 1) := by decide +kernel
theorem dX0_secondTurning_58 : decode cX0_secondTurning 58 = .ok (.imul, 1) := by decide +kernel
theorem dX0_secondTurning_59 : decode cX0_secondTurning 59 = .ok (.iadd, 1) := by decide +kernel
theorem dX0_secondTurning_60 : decode cX0_secondTurning 60 = .ok (.istore 4, 2) := by decide +kernel
theorem dX0_secondTurning_62 : decode cX0_secondTurning 62 = .ok (.iinc 5 1, 3) := by decide +kernel
theorem dX0_secondTurning_65 : decode cX0_secondTurning 65 = .ok (.goto (-33), 3) := by decide +kernel
theorem dX0_secondTurning_68 : decode cX0_secondTurning 68 = .ok (.aload_n 0, 1) := by decide +kernel
theorem dX0_secondTurning_69 : decode cX0_secondTurning 69 = .ok (.getfield 11, 3) := by decide +kernel
theorem dX0_secondTurning_72 : decode cX0_secondTurning 72 = .ok (.iload_n 1, 1) := by decide +kernel
theorem dX0_secondTurning_73 : decode cX0_secondTurning 73 = .ok (.aaload, 1) := by decide +kernel
theorem dX0_secondTurning_74 : decode cX0_secondTurning 74 = .ok (.iconst 0, 1) := by decide +kernel
theorem dX0_secondTurning_75 : decode cX0_secondTurning 75 = .ok (.iaload, 1) := by decide +kernel
theorem dX0_secondTurning_76 : decode cX0_secondTurning 76 = .ok (.istore 5, 2) := by decide +kernel
theorem dX0_secondTurning_78 : decode cX0_secondTurning 78 = .ok (.iload 4, 2) := by decide +kernel
theorem dX0_secondTurning_80 : decode cX0_secondTurning 80 = .ok (.iload_n 3, 1) := by decide +kernel
theorem dX0_secondTurning_81 : decode cX0_secondTurning 81 = .ok (.idiv, 1) := by decide +kernel
theorem dX0_secondTurning_82 : decode cX0_secondTurning 82 = .ok (.iload 5, 2) := by decide +kernel
theorem dX0_secondTurning_84 : decode cX0_secondTurning 84 = .ok (.iload 5, 2) := by decide +kernel
theorem dX0_secondTurning_86 : decode cX0_secondTurning 86 = .ok (.imul, 1) := by decide +kernel
theorem dX0_secondTurning_87 : decode cX0_secondTurning 87 = .ok (.isub, 1) := by decide +kernel
theorem dX0_secondTurning_88 : decode cX0_secondTurning 88 = .ok (.bipush 100, 2) := by decide +kernel
theorem dX0_secondTurning_90 : decode cX0_secondTurning 90 = .ok (.idiv, 1) := by decide +kernel
theorem dX0_secondTurning_91 : decode cX0_secondTurning 91 = .ok (.ireturn, 1) := by decide +kernel
set_option maxHeartbeats 4000000 in
set_option maxRecDepth 100000 in
theorem c_X0_secondTurning (l : Launch) (E : zE) (n : Nat) (h : zH) (a0 : Nat) (p0 : Int32) (p1 : Int32) (res : Int32 × zH) (hf : F_X0_secondTurning n h a0 p0 p1 = some res) : Met l yX0_secondTurning (zw yX0_secondTurning cX0_secondTurning 6 (some .int)) ({ frames := 0, cells := 0, slots := 0, locals := 0 } : Room) (zPc E h [.ref (zB E + a0), .int p0, .int p1]) (zQc E res.2 (some (.int res.1))) 0 0 (zfr E) := by
  refine zmet (lo := [(0, .ref (zB E + a0)), (1, .int p0), (2, .int p1)]) (by decide +kernel) (Nat.le_of_ble_eq_true rfl) rfl ?_
  intro p e s m args below meth c C hr hin
  unfold F_X0_secondTurning at hf
  have J24 : ∀ (h2 : zH), F_X0_secondTurning_J24 n h2 = some res → zW p l e (headSpec (zw yX0_secondTurning cX0_secondTurning 6 (some .int)) ({ frames := 0, cells := 0, slots := 0, locals := 0 } : Room)).room s m args below meth c E 6 (MQ below (zQc E res.2 (some (.int res.1))) args s 0 0 (zfr E)) 0 0 24 [] [] h2 := by
    intro h2 hf
    unfold F_X0_secondTurning_J24 at hf
    refine zr_iconst (v := 0) C dX0_secondTurning_24 (by decide) ?_
    exact zr_ireturn C hf hr (Nat.le_of_ble_eq_true rfl) (Nat.le_of_ble_eq_true rfl) dX0_secondTurning_25
  refine zr_iload_n C dX0_secondTurning_0 rfl 2 rfl ?_
  refine zr_iconst (v := 1) C dX0_secondTurning_1 (by decide) ?_
  refine zr_isub C hf dX0_secondTurning_2 (fun x3 hf => ?_)
  refine zr_istore_n (lo2 := [(3, .int x3), (0, .ref (zB E + a0)), (1, .int p0), (2, .int p1)]) C dX0_secondTurning_3 rfl (by decide) rfl ?_
  refine zr_iload_n C dX0_secondTurning_4 rfl 0 rfl ?_
  refine zr_iconst (v := 1) C dX0_secondTurning_5 (by decide) ?_
  refine zr_icmp_lt (tgt := 24) C hf dX0_secondTurning_6 (by decide) (fun hf => ?_) (fun hf => ?_)
  · refine zsub [] rfl ?_
    exact J24 h hf
  · refine zr_iload_n C dX0_secondTurning_9 rfl 3 rfl ?_
    refine zr_iconst (v := 4) C dX0_secondTurning_10 (by decide) ?_
    refine zr_icmp_gt (tgt := 24) C hf dX0_secondTurning_11 (by decide) (fun hf => ?_) (fun hf => ?_)
    · refine zsub [] rfl ?_
      exact J24 h hf
    · refine zr_iload_n C dX0_secondTurning_14 rfl 2 rfl ?_
      refine zr_if_lt (tgt := 24) C hf dX0_secondTurning_15 (by decide) (fun hf => ?_) (fun hf => ?_)
      · refine zsub [] rfl ?_
        exact J24 h hf
      · refine zr_iload_n C dX0_secondTurning_18 rfl 2 rfl ?_
        refine zr_bipush (v := 6) C dX0_secondTurning_19 (by decide) ?_
        refine zr_icmp_lt (tgt := 26) C hf dX0_secondTurning_21 (by decide) (fun hf => ?_) (fun hf => ?_)
        · refine zr_iconst (v := 0) C dX0_secondTurning_26 (by decide) ?_
          refine zr_istore (lo2 := [(4, .int (0 : Int32)), (3, .int x3), (0, .ref (zB E + a0)), (1, .int p0), (2, .int p1)]) C dX0_secondTurning_27 (by decide) rfl ?_
          refine zr_iconst (v := 1) C dX0_secondTurning_29 (by decide) ?_
          refine zr_istore (lo2 := [(5, .int (1 : Int32)), (4, .int (0 : Int32)), (3, .int x3), (0, .ref (zB E + a0)), (1, .int p0), (2, .int p1)]) C dX0_secondTurning_30 (by decide) rfl ?_
          have L32 : ∀ (fu : Nat) (x : zH × Int32 × Int32), zloop (fun kc x => F_X0_secondTurning_B32 n kc x.1 a0 p0 x3 x.2.1 x.2.2) fu x = some res → zW p l e (headSpec (zw yX0_secondTurning cX0_secondTurning 6 (some .int)) ({ frames := 0, cells := 0, slots := 0, locals := 0 } : Room)).room s m args below meth c E 6 (MQ below (zQc E res.2 (some (.int res.1))) args s 0 0 (zfr E)) 0 0 32 [(0, .ref (zB E + a0)), (1, .int p0), (3, .int x3), (4, .int x.2.1), (5, .int x.2.2)] [] x.1 := by
            refine z_loop _ ?_
            intro kc32 hk32 x hf
            obtain ⟨h28, x26, x27⟩ := x
            dsimp only at hf ⊢
            unfold F_X0_secondTurning_B32 at hf
            refine zr_iload C dX0_secondTurning_32 4 rfl ?_
            refine zr_iload_n C dX0_secondTurning_34 rfl 2 rfl ?_
            refine zr_icmp_gt (tgt := 68) C hf dX0_secondTurning_35 (by decide) (fun hf => ?_) (fun hf => ?_)
            · refine zr_aload_n C dX0_secondTurning_68 rfl 0 rfl ?_
              refine zr_gr C hf kg_X0_11 (fun _ _ _ => rfl) dX0_secondTurning_69 (fun w29 hf => ?_)
              refine zr_iload_n C dX0_secondTurning_72 rfl 1 rfl ?_
              refine zr_aaload (t0 := 3) C hf (by decide) rfl rfl dX0_secondTurning_73 (fun w30 hf => ?_)
              refine zr_iconst (v := 0) C dX0_secondTurning_74 (by decide) ?_
              refine zr_iaload C hf dX0_secondTurning_75 (fun x31 hf => ?_)
              refine zr_istore (lo2 := [(5, .int x31), (0, .ref (zB E + a0)), (1, .int p0), (3, .int x3), (4, .int x26)]) C dX0_secondTurning_76 (by decide) rfl ?_
              refine zr_iload C dX0_secondTurning_78 4 rfl ?_
              refine zr_iload_n C dX0_secondTurning_80 rfl 3 rfl ?_
              refine zr_idiv C hf dX0_secondTurning_81 (fun x32 hf => ?_)
              refine zr_iload C dX0_secondTurning_82 0 rfl ?_
              refine zr_iload C dX0_secondTurning_84 0 rfl ?_
              refine zr_imul C hf dX0_secondTurning_86 (fun x33 hf => ?_)
              refine zr_isub C hf dX0_secondTurning_87 (fun x34 hf => ?_)
              refine zr_bipush (v := 100) C dX0_secondTurning_88 (by decide) ?_
              refine zr_idiv C hf dX0_secondTurning_90 (fun x35 hf => ?_)
              exact zr_ireturn C hf hr (Nat.le_of_ble_eq_true rfl) (Nat.le_of_ble_eq_true rfl) dX0_secondTurning_91
            · refine zr_iload C dX0_secondTurning_38 3 rfl ?_
              refine zr_aload_n C dX0_secondTurning_40 rfl 0 rfl ?_
              refine zr_gr C hf kg_X0_11 (fun _ _ _ => rfl) dX0_secondTurning_41 (fun w36 hf => ?_)
              refine zr_iload_n C dX0_secondTurning_44 rfl 1 rfl ?_
              refine zr_aaload (t0 := 3) C hf (by decide) rfl rfl dX0_secondTurning_45 (fun w37 hf => ?_)
              refine zr_iload C dX0_secondTurning_46 4 rfl ?_
              refine zr_iaload C hf dX0_secondTurning_48 (fun x38 hf => ?_)
              refine zr_aload_n C dX0_secondTurning_49 rfl 0 rfl ?_
              refine zr_gr C hf kg_X0_11 (fun _ _ _ => rfl) dX0_secondTurning_50 (fun w39 hf => ?_)
              refine zr_iload_n C dX0_secondTurning_53 rfl 1 rfl ?_
              refine zr_aaload (t0 := 3) C hf (by decide) rfl rfl dX0_secondTurning_54 (fun w40 hf => ?_)
              refine zr_iload C dX0_secondTurning_55 4 rfl ?_
              refine zr_iaload C hf dX0_secondTurning_57 (fun x41 hf => ?_)
              refine zr_imul C hf dX0_secondTurning_58 (fun x42 hf => ?_)
              refine zr_iadd C hf dX0_secondTurning_59 (fun x43 hf => ?_)
              refine zr_istore (lo2 := [(4, .int x43), (0, .ref (zB E + a0)), (1, .int p0), (3, .int x3), (5, .int x27)]) C dX0_secondTurning_60 (by decide) rfl ?_
              refine zr_iinc (v0 := 1) (k := 4) (f := fun v => [(5, .int v), (4, .int x43), (0, .ref (zB E + a0)), (1, .int p0), (3, .int x3)]) C hf (by decide) dX0_secondTurning_62 rfl (by decide) (fun v => rfl) (fun x44 hf => ?_)
              refine zr_goto (tgt := 32) C dX0_secondTurning_65 (by decide) ?_
              refine zsub [2, 3, 4, 1, 0] rfl ?_
              exact hk32 (h28, x43, x44) hf
          refine zsub [3, 4, 2, 1, 0] rfl ?_
          exact L32 n (h, (0 : Int32), (1 : Int32)) hf
        · refine zsub [] rfl ?_
          exact J24 h hf
theorem dX0_pullOf_0 : decode cX0_pullOf 0 = .ok (.aload_n 0, 1) := by decide +kernel
theorem dX0_pullOf_1 : decode cX0_pullOf 1 = .ok (.getfield 16, 3) := by decide +kernel
theorem dX0_pullOf_4 : decode cX0_pullOf 4 = .ok (.iload_n 3, 1) := by decide +kernel
theorem dX0_pullOf_5 : decode cX0_pullOf 5 = .ok (.iaload, 1) := by decide +kernel
theorem dX0_pullOf_6 : decode cX0_pullOf 6 = .ok (.istore 4, 2) := by decide +kernel
theorem dX0_pullOf_8 : decode cX0_pullOf 8 = .ok (.aload_n 1, 1) := by decide +kernel
theorem dX0_pullOf_9 : decode cX0_pullOf 9 = .ok (.iload 4, 2) := by decide +kernel
theorem dX0_pullOf_11 : decode cX0_pullOf 11 = .ok (.invokevirtual 93, 3) := by decide +kernel
theorem dX0_pullOf_14 : decode cX0_pullOf 14 = .ok (.ifCond .ne 5, 3) := by decide +kernel
theorem dX0_pullOf_17 : decode cX0_pullOf 17 = .ok (.iconst 0, 1) := by decide +kernel
theorem dX0_pullOf_18 : decode cX0_pullOf 18 = .ok (.ireturn, 1) := by decide +kernel
theorem dX0_pullOf_19 : decode cX0_pullOf 19 = .ok (.aload_n 0, 1) := by decide +kernel
theorem dX0_pullOf_20 : decode cX0_pullOf 20 = .ok (.getfield 11, 3) := by decide +kernel
theorem dX0_pullOf_23 : decode cX0_pullOf 23 = .ok (.iload 4, 2) := by decide +kernel
theorem dX0_pullOf_25 : decode cX0_pullOf 25 = .ok (.aaload, 1) := by decide +kernel
theorem dX0_pullOf_26 : decode cX0_pullOf 26 = .ok (.iconst 0, 1) := by decide +kernel
theorem dX0_pullOf_27 : decode cX0_pullOf 27 = .ok (.iaload, 1) := by decide +kernel
theorem dX0_pullOf_28 : decode cX0_pullOf 28 = .ok (.istore 5, 2) := by decide +kernel
theorem dX0_pullOf_30 : decode cX0_pullOf 30 = .ok (.aload_n 0, 1) := by decide +kernel
theorem dX0_pullOf_31 : decode cX0_pullOf 31 = .ok (.iload 4, 2) := by decide +kernel
theorem dX0_pullOf_33 : decode cX0_pullOf 33 = .ok (.aload_n 1, 1) := by decide +kernel
theorem dX0_pullOf_34 : decode cX0_pullOf 34 = .ok (.invokevirtual 59, 3) := by decide +kernel
theorem dX0_pullOf_37 : decode cX0_pullOf 37 = .ok (.invokevirtual 97, 3) := by decide +kernel
theorem dX0_pullOf_40 : decode cX0_pullOf 40 = .ok (.aload_n 2, 1) := by decide +kernel
theorem dX0_pullOf_41 : decode cX0_pullOf 41 = .ok (.getfield 100, 3) := by decide +kernel
theorem dX0_pullOf_44 : decode cX0_pullOf 44 = .ok (.iload_n 3, 1) := by decide +kernel
theorem dX0_pullOf_45 : decode cX0_pullOf 45 = .ok (.iaload, 1) := by decide +kernel
theorem dX0_pullOf_46 : decode cX0_pullOf 46 = .ok (.iload 5, 2) := by decide +kernel
theorem dX0_pullOf_48 : decode cX0_pullOf 48 = .ok (.imul, 1) := by decide +kernel
theorem dX0_pullOf_49 : decode cX0_pullOf 49 = .ok (.iload 5, 2) := by decide +kernel
theorem dX0_pullOf_51 : decode cX0_pullOf 51 = .ok (.imul, 1) := by decide +kernel
theorem dX0_pullOf_52 : decode cX0_pullOf 52 = .ok (.sipush 1000, 3) := by decide +kernel
theorem dX0_pullOf_55 : decode cX0_pullOf 55 = .ok (.idiv, 1) := by decide +kernel
theorem dX0_pullOf_56 : decode cX0_pullOf 56 = .ok (.isub, 1) := by decide +kernel
theorem dX0_pullOf_57 : decode cX0_pullOf 57 = .ok (.ireturn, 1) := by decide +kernel
set_option maxHeartbeats 4000000 in
set_option maxRecDepth 100000 in
theorem c_X0_pullOf (l : Launch) (E : zE) (n : Nat) (h : zH) (a0 : Nat) (p0 : Nat) (p1 : Nat) (p2 : Int32) (res : Int32 × zH) (hf : F_X0_pullOf n h a0 p0 p1 p2 = some res) : Met l yX0_pullOf (zw yX0_pullOf cX0_pullOf 6 (some .int)) ({ frames := 1, cells := 0, slots := 0, locals := 25 } : Room) (zPc E h [.ref (zB E + a0), .ref (zB E + p0), .ref (zB E + p1), .int p2]) (zQc E res.2 (some (.int res.1))) 0 0 (zfr E) := by
  refine zmet (lo := [(0, .ref (zB E + a0)), (1, .ref (zB E + p0)), (2, .ref (zB E + p1)), (3, .int p2)]) (by decide +kernel) (Nat.le_of_ble_eq_true rfl) rfl ?_
  intro p e s m args below meth c C hr hin
  unfold F_X0_pullOf at hf
  refine zr_aload_n C dX0_pullOf_0 rfl 0 rfl ?_
  refine zr_gr C hf kg_X0_16 (fun _ _ _ => rfl) dX0_pullOf_1 (fun w1 hf => ?_)
  refine zr_iload_n C dX0_pullOf_4 rfl 3 rfl ?_
  refine zr_iaload C hf dX0_pullOf_5 (fun x2 hf => ?_)
  refine zr_istore (lo2 := [(4, .int x2), (0, .ref (zB E + a0)), (1, .ref (zB E + p0)), (2, .ref (zB E + p1)), (3, .int p2)]) C dX0_pullOf_6 (by decide) rfl ?_
  refine zr_aload_n C dX0_pullOf_8 rfl 2 rfl ?_
  refine zr_iload C dX0_pullOf_9 0 rfl ?_
  refine zr_callVi (As := [.int x2]) (rest := []) C hf (fun x hx => c_X1_hasRing l E n h p0 x2 x hx) kv_X0_93 rfl rfl (Nat.le_of_ble_eq_true rfl) ⟨rfl, rfl⟩ ⟨Nat.le_of_ble_eq_true rfl, Nat.le_of_ble_eq_true rfl⟩ ⟨Nat.le_of_ble_eq_true rfl, Nat.le_of_ble_eq_true rfl⟩ dX0_pullOf_11 (fun x4 h3 hf => ?_)
  refine zr_if_ne (tgt := 19) C hf dX0_pullOf_14 (by decide) (fun hf => ?_) (fun hf => ?_)
  · refine zr_aload_n C dX0_pullOf_19 rfl 1 rfl ?_
    refine zr_gr C hf kg_X0_11 (fun _ _ _ => rfl) dX0_pullOf_20 (fun w5 hf => ?_)
    refine zr_iload C dX0_pullOf_23 0 rfl ?_
    refine zr_aaload (t0 := 3) C hf (by decide) rfl rfl dX0_pullOf_25 (fun w6 hf => ?_)
    refine zr_iconst (v := 0) C dX0_pullOf_26 (by decide) ?_
    refine zr_iaload C hf dX0_pullOf_27 (fun x7 hf => ?_)
    refine zr_istore (lo2 := [(5, .int x7), (4, .int x2), (0, .ref (zB E + a0)), (1, .ref (zB E + p0)), (2, .ref (zB E + p1)), (3, .int p2)]) C dX0_pullOf_28 (by decide) rfl ?_
    refine zr_aload_n C dX0_pullOf_30 rfl 2 rfl ?_
    refine zr_iload C dX0_pullOf_31 1 rfl ?_
    refine zr_aload_n C dX0_pullOf_33 rfl 3 rfl ?_
    refine zr_callVi (As := []) (rest := [.int x2, .ref (zB E + a0)]) C hf (fun x hx => c_X1_heights l E n h3 p0 x hx) kv_X0_59 rfl rfl (Nat.le_of_ble_eq_true rfl) ⟨rfl, rfl⟩ ⟨Nat.le_of_ble_eq_true rfl, Nat.le_of_ble_eq_true rfl⟩ ⟨Nat.le_of_ble_eq_true rfl, Nat.le_of_ble_eq_true rfl⟩ dX0_pullOf_34 (fun x9 h8 hf => ?_)
    refine zr_callVi (As := [.int x2, .int x9]) (rest := []) C hf (fun x hx => c_X0_secondTurning l E n h8 a0 x2 x9 x hx) kv_X0_97 rfl rfl (Nat.le_of_ble_eq_true rfl) ⟨rfl, rfl⟩ ⟨Nat.le_of_ble_eq_true rfl, Nat.le_of_ble_eq_true rfl⟩ ⟨Nat.le_of_ble_eq_true rfl, Nat.le_of_ble_eq_true rfl⟩ dX0_pullOf_37 (fun x11 h10 hf => ?_)
    refine zr_aload_n C dX0_pullOf_40 rfl 4 rfl ?_
    refine zr_gr C hf kg_X0_100 (fun _ _ _ => rfl) dX0_pullOf_41 (fun w12 hf => ?_)
    refine zr_iload_n C dX0_pullOf_44 rfl 5 rfl ?_
    refine zr_iaload C hf dX0_pullOf_45 (fun x13 hf => ?_)
    refine zr_iload C dX0_pullOf_46 0 rfl ?_
    refine zr_imul C hf dX0_pullOf_48 (fun x14 hf => ?_)
    refine zr_iload C dX0_pullOf_49 0 rfl ?_
    refine zr_imul C hf dX0_pullOf_51 (fun x15 hf => ?_)
    refine zr_sipush (v := 1000) C dX0_pullOf_52 (by decide) ?_
    refine zr_idiv C hf dX0_pullOf_55 (fun x16 hf => ?_)
    refine zr_isub C hf dX0_pullOf_56 (fun x17 hf => ?_)
    exact zr_ireturn C hf hr (Nat.le_of_ble_eq_true rfl) (Nat.le_of_ble_eq_true rfl) dX0_pullOf_57
  · refine zr_iconst (v := 0) C dX0_pullOf_17 (by decide) ?_
    exact zr_ireturn C hf hr (Nat.le_of_ble_eq_true rfl) (Nat.le_of_ble_eq_true rfl) dX0_pullOf_18
theorem dX10_about_0 : decode cX10_about 0 = .ok (.aload_n 0, 1) := by decide +kernel
theorem dX10_about_1 : decode cX10_about 1 = .ok (.getfield 75, 3) := by decide +kernel
theorem dX10_about_4 : decode cX10_about 4 = .ok (.iload_n 1, 1) := by decide +kernel
theorem dX10_about_5 : decode cX10_about 5 = .ok (.invokevirtual 177, 3) := by decide +kernel
theorem dX10_about_8 : decode cX10_about 8 = .ok (.ifCond .ne 6, 3) := by decide +kernel
theorem dX10_about_11 : decode cX10_about 11 = .ok (.bipush (-101), 2) := by decide +kernel
theorem dX10_about_13 : decode cX10_about 13 = .ok (.ireturn, 1) := by decide +kernel
theorem dX10_about_14 : decode cX10_about 14 = .ok (.iload_n 2, 1) := by decide +kernel
theorem dX10_about_15 : decode cX10_about 15 = .ok (.tableswitch 104 0 5 #[37, 47, 57, 67, 77, 94], 37) := by decide +kernel
theorem dX10_about_52 : decode cX10_about 52 = .ok (.aload_n 0, 1) := by decide +kernel
theorem dX10_about_53 : decode cX10_about 53 = .ok (.getfield 85, 3) := by decide +kernel
theorem dX10_about_56 : decode cX10_about 56 = .ok (.getfield 180, 3) := by decide +kernel
theorem dX10_about_59 : decode cX10_about 59 = .ok (.iload_n 1, 1) := by decide +kernel
theorem dX10_about_60 : decode cX10_about 60 = .ok (.iaload, 1) := by decide +kernel
theorem dX10_about_61 : decode cX10_about 61 = .ok (.ireturn, 1) := by decide +kernel
theorem dX10_about_62 : decode cX10_about 62 = .ok (.aload_n 0, 1) := by decide +kernel
theorem dX10_about_63 : decode cX10_about 63 = .ok (.getfield 75, 3) := by decide +kernel
theorem dX10_about_66 : decode cX10_about 66 = .ok (.getfield 183, 3) := by decide +kernel
theorem dX10_about_69 : decode cX10_about 69 = .ok (.iload_n 1, 1) := by decide +kernel
theorem dX10_about_70 : decode cX10_about 70 = .ok (.iaload, 1) := by decide +kernel
theorem dX10_about_71 : decode cX10_about 71 = .ok (.ireturn, 1) := by decide +kernel
theorem dX10_about_72 : decode cX10_about 72 = .ok (.aload_n 0, 1) := by decide +kernel
theorem dX10_about_73 : decode cX10_about 73 = .ok (.getfield 75, 3) := by decide +kernel
theorem dX10_about_76 : decode cX10_about 76 = .ok (.getfield 184, 3) := by decide +kernel
theorem dX10_about_79 : decode cX10_about 79 = .ok (.iload_n 1, 1) := by decide +kernel
theorem dX10_about_80 : decode cX10_about 80 = .ok (.iaload, 1) := by decide +kernel
theorem dX10_about_81 : decode cX10_about 81 = .ok (.ireturn, 1) := by decide +kernel
theorem dX10_about_82 : decode cX10_about 82 = .ok (.aload_n 0, 1) := by decide +kernel
theorem dX10_about_83 : decode cX10_about 83 = .ok (.getfield 75, 3) := by decide +kernel
theorem dX10_about_86 : decode cX10_about 86 = .ok (.getfield 187, 3) := by decide +kernel
theorem dX10_about_89 : decode cX10_about 89 = .ok (.iload_n 1, 1) := by decide +kernel
theorem dX10_about_90 : decode cX10_about 90 = .ok (.iaload, 1) := by decide +kernel
theorem dX10_about_91 : decode cX10_about 91 = .ok (.ireturn, 1) := by decide +kernel
theorem dX10_about_92 : decode cX10_about 92 = .ok (.aload_n 0, 1) := by decide +kernel
theorem dX10_about_93 : decode cX10_about 93 = .ok (.getfield 85, 3) := by decide +kernel
theorem dX10_about_96 : decode cX10_about 96 = .ok (.aload_n 0, 1) := by decide +kernel
theorem dX10_about_97 : decode cX10_about 97 = .ok (.getfield 36, 3) := by decide +kernel
theorem dX10_about_100 : decode cX10_about 100 = .ok (.aload_n 0, 1) := by decide +kernel
theorem dX10_about_101 : decode cX10_about 101 = .ok (.getfield 75, 3) := by decide +kernel
theorem dX10_about_104 : decode cX10_about 104 = .ok (.iload_n 1, 1) := by decide +kernel
theorem dX10_about_105 : decode cX10_about 105 = .ok (.invokevirtual 190, 3) := by decide +kernel
theorem dX10_about_108 : decode cX10_about 108 = .ok (.ireturn, 1) := by decide +kernel
theorem dX10_about_109 : decode cX10_about 109 = .ok (.aload_n 0, 1) := by decide +kernel
theorem dX10_about_110 : decode cX10_about 110 = .ok (.getfield 75, 3) := by decide +kernel
theorem dX10_about_113 : decode cX10_about 113 = .ok (.getfield 194, 3) := by decide +kernel
theorem dX10_about_116 : decode cX10_about 116 = .ok (.iload_n 1, 1) := by decide +kernel
theorem dX10_about_117 : decode cX10_about 117 = .ok (.iaload, 1) := by decide +kernel
theorem dX10_about_118 : decode cX10_about 118 = .ok (.ireturn, 1) := by decide +kernel
theorem dX10_about_119 : decode cX10_about 119 = .ok (.bipush (-102), 2) := by decide +kernel
theorem dX10_about_121 : decode cX10_about 121 = .ok (.ireturn, 1) := by decide +kernel
set_option maxHeartbeats 4000000 in
set_option maxRecDepth 100000 in
theorem c_X10_about (l : Launch) (E : zE) (n : Nat) (h : zH) (a0 : Nat) (p0 : Int32) (p1 : Int32) (res : Int32 × zH) (hf : F_X10_about n h a0 p0 p1 = some res) : Met l yX10_about (zw yX10_about cX10_about 3 (some .int)) ({ frames := 2, cells := 0, slots := 0, locals := 50 } : Room) (zPc E h [.ref (zB E + a0), .int p0, .int p1]) (zQc E res.2 (some (.int res.1))) 0 0 (zfr E) := by
  refine zmet (lo := [(0, .ref (zB E + a0)), (1, .int p0), (2, .int p1)]) (by decide +kernel) (Nat.le_of_ble_eq_true rfl) rfl ?_
  intro p e s m args below meth c C hr hin
  unfold F_X10_about at hf
  refine zr_aload_n C dX10_about_0 rfl 0 rfl ?_
  refine zr_gr C hf kg_X10_75 (fun _ _ _ => rfl) dX10_about_1 (fun w1 hf => ?_)
  refine zr_iload_n C dX10_about_4 rfl 1 rfl ?_
  refine zr_callVi (As := [.int p0]) (rest := []) C hf (fun x hx => c_X4_has l E n h w1 p0 x hx) kv_X10_177 rfl rfl (Nat.le_of_ble_eq_true rfl) ⟨rfl, rfl⟩ ⟨Nat.le_of_ble_eq_true rfl, Nat.le_of_ble_eq_true rfl⟩ ⟨Nat.le_of_ble_eq_true rfl, Nat.le_of_ble_eq_true rfl⟩ dX10_about_5 (fun x3 h2 hf => ?_)
  refine zr_if_ne (tgt := 14) C hf dX10_about_8 (by decide) (fun hf => ?_) (fun hf => ?_)
  · refine zr_iload_n C dX10_about_14 rfl 2 rfl ?_
    refine zr_ite hf (fun hx hf => zr_tableOut (tgt := 119) C dX10_about_15 hx (by decide) ?_) (fun hx hf => ?_)
    · refine zr_bipush (v := -102) C dX10_about_119 (by decide) ?_
      exact zr_ireturn C hf hr (Nat.le_of_ble_eq_true rfl) (Nat.le_of_ble_eq_true rfl) dX10_about_121
    · refine zr_ite hf (fun he hf => zr_tableIn (off := 37) (tgt := 52) C dX10_about_15 (by rw [he]; decide) (by rw [he]; decide) (by rw [he]; decide +kernel) (by decide) ?_) (fun _ hf => ?_)
      · refine zr_aload_n C dX10_about_52 rfl 0 rfl ?_
        refine zr_gr C hf kg_X10_85 (fun _ _ _ => rfl) dX10_about_53 (fun w4 hf => ?_)
        refine zr_gr C hf kg_X10_180 (fun _ _ _ => rfl) dX10_about_56 (fun w5 hf => ?_)
        refine zr_iload_n C dX10_about_59 rfl 1 rfl ?_
        refine zr_iaload C hf dX10_about_60 (fun x6 hf => ?_)
        exact zr_ireturn C hf hr (Nat.le_of_ble_eq_true rfl) (Nat.le_of_ble_eq_true rfl) dX10_about_61
      refine zr_ite hf (fun he hf => zr_tableIn (off := 47) (tgt := 62) C dX10_about_15 (by rw [he]; decide) (by rw [he]; decide) (by rw [he]; decide +kernel) (by decide) ?_) (fun _ hf => ?_)
      · refine zr_aload_n C dX10_about_62 rfl 0 rfl ?_
        refine zr_gr C hf kg_X10_75 (fun _ _ _ => rfl) dX10_about_63 (fun w7 hf => ?_)
        refine zr_gr C hf kg_X10_183 (fun _ _ _ => rfl) dX10_about_66 (fun w8 hf => ?_)
        refine zr_iload_n C dX10_about_69 rfl 1 rfl ?_
        refine zr_iaload C hf dX10_about_70 (fun x9 hf => ?_)
        exact zr_ireturn C hf hr (Nat.le_of_ble_eq_true rfl) (Nat.le_of_ble_eq_true rfl) dX10_about_71
      refine zr_ite hf (fun he hf => zr_tableIn (off := 57) (tgt := 72) C dX10_about_15 (by rw [he]; decide) (by rw [he]; decide) (by rw [he]; decide +kernel) (by decide) ?_) (fun _ hf => ?_)
      · refine zr_aload_n C dX10_about_72 rfl 0 rfl ?_
        refine zr_gr C hf kg_X10_75 (fun _ _ _ => rfl) dX10_about_73 (fun w10 hf => ?_)
        refine zr_gr C hf kg_X10_184 (fun _ _ _ => rfl) dX10_about_76 (fun w11 hf => ?_)
        refine zr_iload_n C dX10_about_79 rfl 1 rfl ?_
        refine zr_iaload C hf dX10_about_80 (fun x12 hf => ?_)
        exact zr_ireturn C hf hr (Nat.le_of_ble_eq_true rfl) (Nat.le_of_ble_eq_true rfl) dX10_about_81
      refine zr_ite hf (fun he hf => zr_tableIn (off := 67) (tgt := 82) C dX10_about_15 (by rw [he]; decide) (by rw [he]; decide) (by rw [he]; decide +kernel) (by decide) ?_) (fun _ hf => ?_)
      · refine zr_aload_n C dX10_about_82 rfl 0 rfl ?_
        refine zr_gr C hf kg_X10_75 (fun _ _ _ => rfl) dX10_about_83 (fun w13 hf => ?_)
        refine zr_gr C hf kg_X10_187 (fun _ _ _ => rfl) dX10_about_86 (fun w14 hf => ?_)
        refine zr_iload_n C dX10_about_89 rfl 1 rfl ?_
        refine zr_iaload C hf dX10_about_90 (fun x15 hf => ?_)
        exact zr_ireturn C hf hr (Nat.le_of_ble_eq_true rfl) (Nat.le_of_ble_eq_true rfl) dX10_about_91
      refine zr_ite hf (fun he hf => zr_tableIn (off := 77) (tgt := 92) C dX10_about_15 (by rw [he]; decide) (by rw [he]; decide) (by rw [he]; decide +kernel) (by decide) ?_) (fun _ hf => ?_)
      · refine zr_aload_n C dX10_about_92 rfl 0 rfl ?_
        refine zr_gr C hf kg_X10_85 (fun _ _ _ => rfl) dX10_about_93 (fun w16 hf => ?_)
        refine zr_aload_n C dX10_about_96 rfl 0 rfl ?_
        refine zr_gr C hf kg_X10_36 (fun _ _ _ => rfl) dX10_about_97 (fun w17 hf => ?_)
        refine zr_aload_n C dX10_about_100 rfl 0 rfl ?_
        refine zr_gr C hf kg_X10_75 (fun _ _ _ => rfl) dX10_about_101 (fun w18 hf => ?_)
        refine zr_iload_n C dX10_about_104 rfl 1 rfl ?_
        refine zr_callVi (As := [.ref (zB E + w17), .ref (zB E + w18), .int p0]) (rest := []) C hf (fun x hx => c_X0_pullOf l E n h2 w16 w17 w18 p0 x hx) kv_X10_190 rfl rfl (Nat.le_of_ble_eq_true rfl) ⟨rfl, rfl⟩ ⟨Nat.le_of_ble_eq_true rfl, Nat.le_of_ble_eq_true rfl⟩ ⟨Nat.le_of_ble_eq_true rfl, Nat.le_of_ble_eq_true rfl⟩ dX10_about_105 (fun x20 h19 hf => ?_)
        exact zr_ireturn C hf hr (Nat.le_of_ble_eq_true rfl) (Nat.le_of_ble_eq_true rfl) dX10_about_108
      refine zr_ite hf (fun he hf => zr_tableIn (off := 94) (tgt := 109) C dX10_about_15 (by rw [he]; decide) (by rw [he]; decide) (by rw [he]; decide +kernel) (by decide) ?_) (fun _ hf => ?_)
      · refine zr_aload_n C dX10_about_109 rfl 0 rfl ?_
        refine zr_gr C hf kg_X10_75 (fun _ _ _ => rfl) dX10_about_110 (fun w21 hf => ?_)
        refine zr_gr C hf kg_X10_194 (fun _ _ _ => rfl) dX10_about_113 (fun w22 hf => ?_)
        refine zr_iload_n C dX10_about_116 rfl 1 rfl ?_
        refine zr_iaload C hf dX10_about_117 (fun x23 hf => ?_)
        exact zr_ireturn C hf hr (Nat.le_of_ble_eq_true rfl) (Nat.le_of_ble_eq_true rfl) dX10_about_118
      cases hf
  · refine zr_bipush (v := -101) C dX10_about_11 (by decide) ?_
    exact zr_ireturn C hf hr (Nat.le_of_ble_eq_true rfl) (Nat.le_of_ble_eq_true rfl) dX10_about_13
