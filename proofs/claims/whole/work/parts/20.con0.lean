theorem dX5_init_0 : decode cX5_init 0 = .ok (.aload_n 0, 1) := by decide +kernel
theorem dX5_init_1 : decode cX5_init 1 = .ok (.invokespecial 3, 3) := by decide +kernel
theorem dX5_init_4 : decode cX5_init 4 = .ok (.aload_n 0, 1) := by decide +kernel
theorem dX5_init_5 : decode cX5_init 5 = .ok (.bipush 50, 2) := by decide +kernel
theorem dX5_init_7 : decode cX5_init 7 = .ok (.newarray .int, 2) := by decide +kernel
theorem dX5_init_9 : decode cX5_init 9 = .ok (.putfield 9, 3) := by decide +kernel
theorem dX5_init_12 : decode cX5_init 12 = .ok (.aload_n 0, 1) := by decide +kernel
theorem dX5_init_13 : decode cX5_init 13 = .ok (.iconst 0, 1) := by decide +kernel
theorem dX5_init_14 : decode cX5_init 14 = .ok (.putfield 15, 3) := by decide +kernel
theorem dX5_init_17 : decode cX5_init 17 = .ok (.return_, 1) := by decide +kernel
set_option maxHeartbeats 4000000 in
set_option maxRecDepth 100000 in
theorem c_X5_init (l : Launch) (E : zE) (n : Nat) (h : zH) (a0 : Nat) (res : Unit × zH) (hf : F_X5_init n h a0 = some res) : Met l yX5_init (zw yX5_init cX5_init 1 none) ({ frames := 1, cells := 1, slots := 50, locals := 20 } : Room) (zPc E h [.ref (zB E + a0)]) (zQc E res.2 none) 1 50 (zfr E) := by
  refine zmet (lo := [(0, .ref (zB E + a0))]) (by decide +kernel) (Nat.le_of_ble_eq_true rfl) rfl ?_
  intro p e s m args below meth c C hr hin
  unfold F_X5_init at hf
  refine zr_aload_n C dX5_init_0 rfl 0 rfl ?_
  refine zr_objInit C zt91 zt84 zt85 (Nat.le_of_ble_eq_true rfl) (Nat.le_of_ble_eq_true rfl) dX5_init_1 ?_
  refine zr_aload_n C dX5_init_4 rfl 0 rfl ?_
  refine zr_bipush (v := 50) C dX5_init_5 (by decide) ?_
  refine zr_newarray (ty := .int) (t0 := 0) (mx := 50) C hf (by decide) rfl rfl (fun _ => rfl) rfl zt101 (by decide) (Nat.le_of_ble_eq_true rfl) (Nat.le_of_ble_eq_true rfl) dX5_init_7 (fun w1 h2 hf => ?_)
  refine zr_srF C hf hin kf_X5_9 (fun _ _ _ => rfl) ⟨rfl, rfl⟩ dX5_init_9 (fun h3 hf => ?_)
  refine zr_aload_n C dX5_init_12 rfl 0 rfl ?_
  refine zr_iconst (v := 0) C dX5_init_13 (by decide) ?_
  refine zr_si C hf kp_X5_15 (fun _ _ _ => rfl) rfl dX5_init_14 (fun h4 hf => ?_)
  exact zr_return C hf hr (Nat.le_of_ble_eq_true rfl) (Nat.le_of_ble_eq_true rfl) dX5_init_17
theorem dX2_init_0 : decode cX2_init 0 = .ok (.aload_n 0, 1) := by decide +kernel
theorem dX2_init_1 : decode cX2_init 1 = .ok (.invokespecial 3, 3) := by decide +kernel
theorem dX2_init_4 : decode cX2_init 4 = .ok (.aload_n 0, 1) := by decide +kernel
theorem dX2_init_5 : decode cX2_init 5 = .ok (.iload_n 1, 1) := by decide +kernel
theorem dX2_init_6 : decode cX2_init 6 = .ok (.putfield 9, 3) := by decide +kernel
theorem dX2_init_9 : decode cX2_init 9 = .ok (.aload_n 0, 1) := by decide +kernel
theorem dX2_init_10 : decode cX2_init 10 = .ok (.iload_n 2, 1) := by decide +kernel
theorem dX2_init_11 : decode cX2_init 11 = .ok (.putfield 15, 3) := by decide +kernel
theorem dX2_init_14 : decode cX2_init 14 = .ok (.return_, 1) := by decide +kernel
set_option maxHeartbeats 4000000 in
set_option maxRecDepth 100000 in
theorem c_X2_init (l : Launch) (E : zE) (n : Nat) (h : zH) (a0 : Nat) (p0 : Int32) (p1 : Int32) (res : Unit × zH) (hf : F_X2_init n h a0 p0 p1 = some res) : Met l yX2_init (zw yX2_init cX2_init 3 none) ({ frames := 1, cells := 0, slots := 0, locals := 20 } : Room) (zPc E h [.ref (zB E + a0), .int p0, .int p1]) (zQc E res.2 none) 0 0 (zfr E) := by
  refine zmet (lo := [(0, .ref (zB E + a0)), (1, .int p0), (2, .int p1)]) (by decide +kernel) (Nat.le_of_ble_eq_true rfl) rfl ?_
  intro p e s m args below meth c C hr hin
  unfold F_X2_init at hf
  refine zr_aload_n C dX2_init_0 rfl 0 rfl ?_
  refine zr_objInit C zt107 zt84 zt85 (Nat.le_of_ble_eq_true rfl) (Nat.le_of_ble_eq_true rfl) dX2_init_1 ?_
  refine zr_aload_n C dX2_init_4 rfl 0 rfl ?_
  refine zr_iload_n C dX2_init_5 rfl 1 rfl ?_
  refine zr_siF C hf hin kf_X2_9 (fun _ _ _ => rfl) rfl dX2_init_6 (fun h1 hf => ?_)
  refine zr_aload_n C dX2_init_9 rfl 0 rfl ?_
  refine zr_iload_n C dX2_init_10 rfl 2 rfl ?_
  refine zr_siF C hf hin kf_X2_15 (fun _ _ _ => rfl) rfl dX2_init_11 (fun h2 hf => ?_)
  exact zr_return C hf hr (Nat.le_of_ble_eq_true rfl) (Nat.le_of_ble_eq_true rfl) dX2_init_14
theorem dX9_init_0 : decode cX9_init 0 = .ok (.aload_n 0, 1) := by decide +kernel
theorem dX9_init_1 : decode cX9_init 1 = .ok (.invokespecial 3, 3) := by decide +kernel
theorem dX9_init_4 : decode cX9_init 4 = .ok (.return_, 1) := by decide +kernel
set_option maxHeartbeats 4000000 in
set_option maxRecDepth 100000 in
theorem c_X9_init (l : Launch) (E : zE) (n : Nat) (h : zH) (a0 : Nat) (res : Unit × zH) (hf : F_X9_init n h a0 = some res) : Met l yX9_init (zw yX9_init cX9_init 1 none) ({ frames := 1, cells := 0, slots := 0, locals := 20 } : Room) (zPc E h [.ref (zB E + a0)]) (zQc E res.2 none) 0 0 (zfr E) := by
  refine zmet (lo := [(0, .ref (zB E + a0))]) (by decide +kernel) (Nat.le_of_ble_eq_true rfl) rfl ?_
  intro p e s m args below meth c C hr hin
  unfold F_X9_init at hf
  refine zr_aload_n C dX9_init_0 rfl 0 rfl ?_
  refine zr_objInit C zt127 zt84 zt85 (Nat.le_of_ble_eq_true rfl) (Nat.le_of_ble_eq_true rfl) dX9_init_1 ?_
  exact zr_return C hf hr (Nat.le_of_ble_eq_true rfl) (Nat.le_of_ble_eq_true rfl) dX9_init_4
theorem dX1_init_0 : decode cX1_init 0 = .ok (.aload_n 0, 1) := by decide +kernel
theorem dX1_init_1 : decode cX1_init 1 = .ok (.invokespecial 3, 3) := by decide +kernel
theorem dX1_init_4 : decode cX1_init 4 = .ok (.aload_n 0, 1) := by decide +kernel
theorem dX1_init_5 : decode cX1_init 5 = .ok (.bipush 6, 2) := by decide +kernel
theorem dX1_init_7 : decode cX1_init 7 = .ok (.newarray .int, 2) := by decide +kernel
theorem dX1_init_9 : decode cX1_init 9 = .ok (.putfield 9, 3) := by decide +kernel
theorem dX1_init_12 : decode cX1_init 12 = .ok (.aload_n 0, 1) := by decide +kernel
theorem dX1_init_13 : decode cX1_init 13 = .ok (.iconst 0, 1) := by decide +kernel
theorem dX1_init_14 : decode cX1_init 14 = .ok (.putfield 13, 3) := by decide +kernel
theorem dX1_init_17 : decode cX1_init 17 = .ok (.return_, 1) := by decide +kernel
set_option maxHeartbeats 4000000 in
set_option maxRecDepth 100000 in
theorem c_X1_init (l : Launch) (E : zE) (n : Nat) (h : zH) (a0 : Nat) (res : Unit × zH) (hf : F_X1_init n h a0 = some res) : Met l yX1_init (zw yX1_init cX1_init 1 none) ({ frames := 2, cells := 1, slots := 6, locals := 40 } : Room) (zPc E h [.ref (zB E + a0)]) (zQc E res.2 none) 1 6 (zfr E) := by
  refine zmet (lo := [(0, .ref (zB E + a0))]) (by decide +kernel) (Nat.le_of_ble_eq_true rfl) rfl ?_
  intro p e s m args below meth c C hr hin
  unfold F_X1_init at hf
  refine zr_aload_n C dX1_init_0 rfl 0 rfl ?_
  refine zr_callN (As := []) (rest := []) C hf (fun x hx => c_X9_init l E n h a0 x hx) kn_X1_3 rfl rfl (Nat.le_of_ble_eq_true rfl) ⟨rfl, rfl⟩ ⟨Nat.le_of_ble_eq_true rfl, Nat.le_of_ble_eq_true rfl⟩ ⟨Nat.le_of_ble_eq_true rfl, Nat.le_of_ble_eq_true rfl⟩ dX1_init_1 (fun _ h1 hf => ?_)
  refine zr_aload_n C dX1_init_4 rfl 0 rfl ?_
  refine zr_bipush (v := 6) C dX1_init_5 (by decide) ?_
  refine zr_newarray (ty := .int) (t0 := 0) (mx := 6) C hf (by decide) rfl rfl (fun _ => rfl) rfl zt101 (by decide) (Nat.le_of_ble_eq_true rfl) (Nat.le_of_ble_eq_true rfl) dX1_init_7 (fun w2 h3 hf => ?_)
  refine zr_srF C hf hin kf_X1_9 (fun _ _ _ => rfl) ⟨rfl, rfl⟩ dX1_init_9 (fun h4 hf => ?_)
  refine zr_aload_n C dX1_init_12 rfl 0 rfl ?_
  refine zr_iconst (v := 0) C dX1_init_13 (by decide) ?_
  refine zr_si C hf kp_X1_13 (fun _ _ _ => rfl) rfl dX1_init_14 (fun h5 hf => ?_)
  exact zr_return C hf hr (Nat.le_of_ble_eq_true rfl) (Nat.le_of_ble_eq_true rfl) dX1_init_17
theorem dX7_init_0 : decode cX7_init 0 = .ok (.aload_n 0, 1) := by decide +kernel
theorem dX7_init_1 : decode cX7_init 1 = .ok (.invokespecial 3, 3) := by decide +kernel
theorem dX7_init_4 : decode cX7_init 4 = .ok (.aload_n 0, 1) := by decide +kernel
theorem dX7_init_5 : decode cX7_init 5 = .ok (.bipush 10, 2) := by decide +kernel
theorem dX7_init_7 : decode cX7_init 7 = .ok (.newarray .int, 2) := by decide +kernel
theorem dX7_init_9 : decode cX7_init 9 = .ok (.putfield 9, 3) := by decide +kernel
theorem dX7_init_12 : decode cX7_init 12 = .ok (.aload_n 0, 1) := by decide +kernel
theorem dX7_init_13 : decode cX7_init 13 = .ok (.bipush 10, 2) := by decide +kernel
theorem dX7_init_15 : decode cX7_init 15 = .ok (.newarray .boolean, 2) := by decide +kernel
theorem dX7_init_17 : decode cX7_init 17 = .ok (.putfield 15, 3) := by decide +kernel
theorem dX7_init_20 : decode cX7_init 20 = .ok (.aload_n 0, 1) := by decide +kernel
theorem dX7_init_21 : decode cX7_init 21 = .ok (.bipush 10, 2) := by decide +kernel
theorem dX7_init_23 : decode cX7_init 23 = .ok (.newarray .int, 2) := by decide +kernel
theorem dX7_init_25 : decode cX7_init 25 = .ok (.putfield 19, 3) := by decide +kernel
theorem dX7_init_28 : decode cX7_init 28 = .ok (.aload_n 0, 1) := by decide +kernel
theorem dX7_init_29 : decode cX7_init 29 = .ok (.bipush 10, 2) := by decide +kernel
theorem dX7_init_31 : decode cX7_init 31 = .ok (.newarray .int, 2) := by decide +kernel
theorem dX7_init_33 : decode cX7_init 33 = .ok (.putfield 22, 3) := by decide +kernel
theorem dX7_init_36 : decode cX7_init 36 = .ok (.aload_n 0, 1) := by decide +kernel
theorem dX7_init_37 : decode cX7_init 37 = .ok (.iconst 0, 1) := by decide +kernel
theorem dX7_init_38 : decode cX7_init 38 = .ok (.putfield 25, 3) := by decide +kernel
theorem dX7_init_41 : decode cX7_init 41 = .ok (.aload_n 0, 1) := by decide +kernel
theorem dX7_init_42 : decode cX7_init 42 = .ok (.iconst 0, 1) := by decide +kernel
theorem dX7_init_43 : decode cX7_init 43 = .ok (.putfield 29, 3) := by decide +kernel
theorem dX7_init_46 : decode cX7_init 46 = .ok (.return_, 1) := by decide +kernel
set_option maxHeartbeats 4000000 in
set_option maxRecDepth 100000 in
theorem c_X7_init (l : Launch) (E : zE) (n : Nat) (h : zH) (a0 : Nat) (res : Unit × zH) (hf : F_X7_init n h a0 = some res) : Met l yX7_init (zw yX7_init cX7_init 1 none) ({ frames := 2, cells := 4, slots := 40, locals := 40 } : Room) (zPc E h [.ref (zB E + a0)]) (zQc E res.2 none) 4 40 (zfr E) := by
  refine zmet (lo := [(0, .ref (zB E + a0))]) (by decide +kernel) (Nat.le_of_ble_eq_true rfl) rfl ?_
  intro p e s m args below meth c C hr hin
  unfold F_X7_init at hf
  refine zr_aload_n C dX7_init_0 rfl 0 rfl ?_
  refine zr_callN (As := []) (rest := []) C hf (fun x hx => c_X9_init l E n h a0 x hx) kn_X7_3 rfl rfl (Nat.le_of_ble_eq_true rfl) ⟨rfl, rfl⟩ ⟨Nat.le_of_ble_eq_true rfl, Nat.le_of_ble_eq_true rfl⟩ ⟨Nat.le_of_ble_eq_true rfl, Nat.le_of_ble_eq_true rfl⟩ dX7_init_1 (fun _ h1 hf => ?_)
  refine zr_aload_n C dX7_init_4 rfl 0 rfl ?_
  refine zr_bipush (v := 10) C dX7_init_5 (by decide) ?_
  refine zr_newarray (ty := .int) (t0 := 0) (mx := 10) C hf (by decide) rfl rfl (fun _ => rfl) rfl zt101 (by decide) (Nat.le_of_ble_eq_true rfl) (Nat.le_of_ble_eq_true rfl) dX7_init_7 (fun w2 h3 hf => ?_)
  refine zr_srF C hf hin kf_X7_9 (fun _ _ _ => rfl) ⟨rfl, rfl⟩ dX7_init_9 (fun h4 hf => ?_)
  refine zr_aload_n C dX7_init_12 rfl 0 rfl ?_
  refine zr_bipush (v := 10) C dX7_init_13 (by decide) ?_
  refine zr_newarray (ty := .boolean) (t0 := 2) (mx := 10) C hf (by decide) rfl rfl (fun _ => rfl) rfl zt165 (by decide) (Nat.le_of_ble_eq_true rfl) (Nat.le_of_ble_eq_true rfl) dX7_init_15 (fun w5 h6 hf => ?_)
  refine zr_srF C hf hin kf_X7_15 (fun _ _ _ => rfl) ⟨rfl, rfl⟩ dX7_init_17 (fun h7 hf => ?_)
  refine zr_aload_n C dX7_init_20 rfl 0 rfl ?_
  refine zr_bipush (v := 10) C dX7_init_21 (by decide) ?_
  refine zr_newarray (ty := .int) (t0 := 0) (mx := 10) C hf (by decide) rfl rfl (fun _ => rfl) rfl zt101 (by decide) (Nat.le_of_ble_eq_true rfl) (Nat.le_of_ble_eq_true rfl) dX7_init_23 (fun w8 h9 hf => ?_)
  refine zr_srF C hf hin kf_X7_19 (fun _ _ _ => rfl) ⟨rfl, rfl⟩ dX7_init_25 (fun h10 hf => ?_)
  refine zr_aload_n C dX7_init_28 rfl 0 rfl ?_
  refine zr_bipush (v := 10) C dX7_init_29 (by decide) ?_
  refine zr_newarray (ty := .int) (t0 := 0) (mx := 10) C hf (by decide) rfl rfl (fun _ => rfl) rfl zt101 (by decide) (Nat.le_of_ble_eq_true rfl) (Nat.le_of_ble_eq_true rfl) dX7_init_31 (fun w11 h12 hf => ?_)
  refine zr_srF C hf hin kf_X7_22 (fun _ _ _ => rfl) ⟨rfl, rfl⟩ dX7_init_33 (fun h13 hf => ?_)
  refine zr_aload_n C dX7_init_36 rfl 0 rfl ?_
  refine zr_iconst (v := 0) C dX7_init_37 (by decide) ?_
  refine zr_si C hf kp_X7_25 (fun _ _ _ => rfl) rfl dX7_init_38 (fun h14 hf => ?_)
  refine zr_aload_n C dX7_init_41 rfl 0 rfl ?_
  refine zr_iconst (v := 0) C dX7_init_42 (by decide) ?_
  refine zr_si C hf kp_X7_29 (fun _ _ _ => rfl) rfl dX7_init_43 (fun h15 hf => ?_)
  exact zr_return C hf hr (Nat.le_of_ble_eq_true rfl) (Nat.le_of_ble_eq_true rfl) dX7_init_46
theorem dX8_init_0 : decode cX8_init 0 = .ok (.aload_n 0, 1) := by decide +kernel
theorem dX8_init_1 : decode cX8_init 1 = .ok (.invokespecial 3, 3) := by decide +kernel
theorem dX8_init_4 : decode cX8_init 4 = .ok (.aload_n 0, 1) := by decide +kernel
theorem dX8_init_5 : decode cX8_init 5 = .ok (.bipush 6, 2) := by decide +kernel
theorem dX8_init_7 : decode cX8_init 7 = .ok (.newarray .int, 2) := by decide +kernel
theorem dX8_init_9 : decode cX8_init 9 = .ok (.putfield 9, 3) := by decide +kernel
theorem dX8_init_12 : decode cX8_init 12 = .ok (.aload_n 0, 1) := by decide +kernel
theorem dX8_init_13 : decode cX8_init 13 = .ok (.bipush 6, 2) := by decide +kernel
theorem dX8_init_15 : decode cX8_init 15 = .ok (.newarray .int, 2) := by decide +kernel
theorem dX8_init_17 : decode cX8_init 17 = .ok (.putfield 15, 3) := by decide +kernel
theorem dX8_init_20 : decode cX8_init 20 = .ok (.aload_n 0, 1) := by decide +kernel
theorem dX8_init_21 : decode cX8_init 21 = .ok (.iconst 0, 1) := by decide +kernel
theorem dX8_init_22 : decode cX8_init 22 = .ok (.putfield 18, 3) := by decide +kernel
theorem dX8_init_25 : decode cX8_init 25 = .ok (.aload_n 0, 1) := by decide +kernel
theorem dX8_init_26 : decode cX8_init 26 = .ok (.iconst 0, 1) := by decide +kernel
theorem dX8_init_27 : decode cX8_init 27 = .ok (.putfield 22, 3) := by decide +kernel
theorem dX8_init_30 : decode cX8_init 30 = .ok (.return_, 1) := by decide +kernel
set_option maxHeartbeats 4000000 in
set_option maxRecDepth 100000 in
theorem c_X8_init (l : Launch) (E : zE) (n : Nat) (h : zH) (a0 : Nat) (res : Unit × zH) (hf : F_X8_init n h a0 = some res) : Met l yX8_init (zw yX8_init cX8_init 1 none) ({ frames := 2, cells := 2, slots := 12, locals := 40 } : Room) (zPc E h [.ref (zB E + a0)]) (zQc E res.2 none) 2 12 (zfr E) := by
  refine zmet (lo := [(0, .ref (zB E + a0))]) (by decide +kernel) (Nat.le_of_ble_eq_true rfl) rfl ?_
  intro p e s m args below meth c C hr hin
  unfold F_X8_init at hf
  refine zr_aload_n C dX8_init_0 rfl 0 rfl ?_
  refine zr_callN (As := []) (rest := []) C hf (fun x hx => c_X9_init l E n h a0 x hx) kn_X8_3 rfl rfl (Nat.le_of_ble_eq_true rfl) ⟨rfl, rfl⟩ ⟨Nat.le_of_ble_eq_true rfl, Nat.le_of_ble_eq_true rfl⟩ ⟨Nat.le_of_ble_eq_true rfl, Nat.le_of_ble_eq_true rfl⟩ dX8_init_1 (fun _ h1 hf => ?_)
  refine zr_aload_n C dX8_init_4 rfl 0 rfl ?_
  refine zr_bipush (v := 6) C dX8_init_5 (by decide) ?_
  refine zr_newarray (ty := .int) (t0 := 0) (mx := 6) C hf (by decide) rfl rfl (fun _ => rfl) rfl zt101 (by decide) (Nat.le_of_ble_eq_true rfl) (Nat.le_of_ble_eq_true rfl) dX8_init_7 (fun w2 h3 hf => ?_)
  refine zr_srF C hf hin kf_X8_9 (fun _ _ _ => rfl) ⟨rfl, rfl⟩ dX8_init_9 (fun h4 hf => ?_)
  refine zr_aload_n C dX8_init_12 rfl 0 rfl ?_
  refine zr_bipush (v := 6) C dX8_init_13 (by decide) ?_
  refine zr_newarray (ty := .int) (t0 := 0) (mx := 6) C hf (by decide) rfl rfl (fun _ => rfl) rfl zt101 (by decide) (Nat.le_of_ble_eq_true rfl) (Nat.le_of_ble_eq_true rfl) dX8_init_15 (fun w5 h6 hf => ?_)
  refine zr_srF C hf hin kf_X8_15 (fun _ _ _ => rfl) ⟨rfl, rfl⟩ dX8_init_17 (fun h7 hf => ?_)
  refine zr_aload_n C dX8_init_20 rfl 0 rfl ?_
  refine zr_iconst (v := 0) C dX8_init_21 (by decide) ?_
  refine zr_si C hf kp_X8_18 (fun _ _ _ => rfl) rfl dX8_init_22 (fun h8 hf => ?_)
  refine zr_aload_n C dX8_init_25 rfl 0 rfl ?_
  refine zr_iconst (v := 0) C dX8_init_26 (by decide) ?_
  refine zr_si C hf kp_X8_22 (fun _ _ _ => rfl) rfl dX8_init_27 (fun h9 hf => ?_)
  exact zr_return C hf hr (Nat.le_of_ble_eq_true rfl) (Nat.le_of_ble_eq_true rfl) dX8_init_30
theorem dX4_init_0 : decode cX4_init 0 = .ok (.aload_n 0, 1) := by decide +kernel
theorem dX4_init_1 : decode cX4_init 1 = .ok (.invokespecial 3, 3) := by decide +kernel
theorem dX4_init_4 : decode cX4_init 4 = .ok (.aload_n 0, 1) := by decide +kernel
theorem dX4_init_5 : decode cX4_init 5 = .ok (.iconst 0, 1) := by decide +kernel
theorem dX4_init_6 : decode cX4_init 6 = .ok (.putfield 9, 3) := by decide +kernel
theorem dX4_init_9 : decode cX4_init 9 = .ok (.aload_n 0, 1) := by decide +kernel
theorem dX4_init_10 : decode cX4_init 10 = .ok (.iload_n 1, 1) := by decide +kernel
theorem dX4_init_11 : decode cX4_init 11 = .ok (.newarray .int, 2) := by decide +kernel
theorem dX4_init_13 : decode cX4_init 13 = .ok (.putfield 15, 3) := by decide +kernel
theorem dX4_init_16 : decode cX4_init 16 = .ok (.aload_n 0, 1) := by decide +kernel
theorem dX4_init_17 : decode cX4_init 17 = .ok (.iload_n 1, 1) := by decide +kernel
theorem dX4_init_18 : decode cX4_init 18 = .ok (.newarray .int, 2) := by decide +kernel
theorem dX4_init_20 : decode cX4_init 20 = .ok (.putfield 19, 3) := by decide +kernel
theorem dX4_init_23 : decode cX4_init 23 = .ok (.aload_n 0, 1) := by decide +kernel
theorem dX4_init_24 : decode cX4_init 24 = .ok (.iload_n 1, 1) := by decide +kernel
theorem dX4_init_25 : decode cX4_init 25 = .ok (.newarray .int, 2) := by decide +kernel
theorem dX4_init_27 : decode cX4_init 27 = .ok (.putfield 22, 3) := by decide +kernel
theorem dX4_init_30 : decode cX4_init 30 = .ok (.aload_n 0, 1) := by decide +kernel
theorem dX4_init_31 : decode cX4_init 31 = .ok (.iload_n 1, 1) := by decide +kernel
theorem dX4_init_32 : decode cX4_init 32 = .ok (.newarray .int, 2) := by decide +kernel
theorem dX4_init_34 : decode cX4_init 34 = .ok (.putfield 25, 3) := by decide +kernel
theorem dX4_init_37 : decode cX4_init 37 = .ok (.return_, 1) := by decide +kernel
set_option maxHeartbeats 4000000 in
set_option maxRecDepth 100000 in
theorem c_X4_init (l : Launch) (E : zE) (n : Nat) (h : zH) (a0 : Nat) (p0 : Int32) (res : Unit × zH) (hf : F_X4_init n h a0 p0 = some res) : Met l yX4_init (zw yX4_init cX4_init 2 none) ({ frames := 1, cells := 4, slots := 40, locals := 20 } : Room) (zPc E h [.ref (zB E + a0), .int p0]) (zQc E res.2 none) 4 40 (zfr E) := by
  refine zmet (lo := [(0, .ref (zB E + a0)), (1, .int p0)]) (by decide +kernel) (Nat.le_of_ble_eq_true rfl) rfl ?_
  intro p e s m args below meth c C hr hin
  unfold F_X4_init at hf
  refine zr_aload_n C dX4_init_0 rfl 0 rfl ?_
  refine zr_objInit C zt194 zt84 zt85 (Nat.le_of_ble_eq_true rfl) (Nat.le_of_ble_eq_true rfl) dX4_init_1 ?_
  refine zr_aload_n C dX4_init_4 rfl 0 rfl ?_
  refine zr_iconst (v := 0) C dX4_init_5 (by decide) ?_
  refine zr_si C hf kp_X4_9 (fun _ _ _ => rfl) rfl dX4_init_6 (fun h1 hf => ?_)
  refine zr_aload_n C dX4_init_9 rfl 0 rfl ?_
  refine zr_iload_n C dX4_init_10 rfl 1 rfl ?_
  refine zr_newarray (ty := .int) (t0 := 0) (mx := 10) C hf (by decide) rfl rfl (fun _ => rfl) rfl zt101 (by decide) (Nat.le_of_ble_eq_true rfl) (Nat.le_of_ble_eq_true rfl) dX4_init_11 (fun w2 h3 hf => ?_)
  refine zr_srF C hf hin kf_X4_15 (fun _ _ _ => rfl) ⟨rfl, rfl⟩ dX4_init_13 (fun h4 hf => ?_)
  refine zr_aload_n C dX4_init_16 rfl 0 rfl ?_
  refine zr_iload_n C dX4_init_17 rfl 1 rfl ?_
  refine zr_newarray (ty := .int) (t0 := 0) (mx := 10) C hf (by decide) rfl rfl (fun _ => rfl) rfl zt101 (by decide) (Nat.le_of_ble_eq_true rfl) (Nat.le_of_ble_eq_true rfl) dX4_init_18 (fun w5 h6 hf => ?_)
  refine zr_srF C hf hin kf_X4_19 (fun _ _ _ => rfl) ⟨rfl, rfl⟩ dX4_init_20 (fun h7 hf => ?_)
  refine zr_aload_n C dX4_init_23 rfl 0 rfl ?_
  refine zr_iload_n C dX4_init_24 rfl 1 rfl ?_
  refine zr_newarray (ty := .int) (t0 := 0) (mx := 10) C hf (by decide) rfl rfl (fun _ => rfl) rfl zt101 (by decide) (Nat.le_of_ble_eq_true rfl) (Nat.le_of_ble_eq_true rfl) dX4_init_25 (fun w8 h9 hf => ?_)
  refine zr_srF C hf hin kf_X4_22 (fun _ _ _ => rfl) ⟨rfl, rfl⟩ dX4_init_27 (fun h10 hf => ?_)
  refine zr_aload_n C dX4_init_30 rfl 0 rfl ?_
  refine zr_iload_n C dX4_init_31 rfl 1 rfl ?_
  refine zr_newarray (ty := .int) (t0 := 0) (mx := 10) C hf (by decide) rfl rfl (fun _ => rfl) rfl zt101 (by decide) (Nat.le_of_ble_eq_true rfl) (Nat.le_of_ble_eq_true rfl) dX4_init_32 (fun w11 h12 hf => ?_)
  refine zr_srF C hf hin kf_X4_25 (fun _ _ _ => rfl) ⟨rfl, rfl⟩ dX4_init_34 (fun h13 hf => ?_)
  exact zr_return C hf hr (Nat.le_of_ble_eq_true rfl) (Nat.le_of_ble_eq_true rfl) dX4_init_37
theorem dX0_init_0 : decode cX0_init 0 = .ok (.aload_n 0, 1) := by decide +kernel
theorem dX0_init_1 : decode cX0_init 1 = .ok (.invokespecial 3, 3) := by decide +kernel
theorem dX0_init_4 : decode cX0_init 4 = .ok (.aload_n 0, 1) := by decide +kernel
theorem dX0_init_5 : decode cX0_init 5 = .ok (.bipush 6, 2) := by decide +kernel
theorem dX0_init_7 : decode cX0_init 7 = .ok (.iconst 4, 1) := by decide +kernel
theorem dX0_init_8 : decode cX0_init 8 = .ok (.multianewarray 9 2, 4) := by decide +kernel
theorem dX0_init_12 : decode cX0_init 12 = .ok (.putfield 11, 3) := by decide +kernel
theorem dX0_init_15 : decode cX0_init 15 = .ok (.aload_n 0, 1) := by decide +kernel
theorem dX0_init_16 : decode cX0_init 16 = .ok (.bipush 10, 2) := by decide +kernel
theorem dX0_init_18 : decode cX0_init 18 = .ok (.newarray .int, 2) := by decide +kernel
theorem dX0_init_20 : decode cX0_init 20 = .ok (.putfield 16, 3) := by decide +kernel
theorem dX0_init_23 : decode cX0_init 23 = .ok (.return_, 1) := by decide +kernel
set_option maxHeartbeats 4000000 in
set_option maxRecDepth 100000 in
theorem c_X0_init (l : Launch) (E : zE) (n : Nat) (h : zH) (a0 : Nat) (res : Unit × zH) (hf : F_X0_init n h a0 = some res) : Met l yX0_init (zw yX0_init cX0_init 1 none) ({ frames := 1, cells := 8, slots := 40, locals := 20 } : Room) (zPc E h [.ref (zB E + a0)]) (zQc E res.2 none) 8 40 (zfr E) := by
  refine zmet (lo := [(0, .ref (zB E + a0))]) (by decide +kernel) (Nat.le_of_ble_eq_true rfl) rfl ?_
  intro p e s m args below meth c C hr hin
  unfold F_X0_init at hf
  refine zr_aload_n C dX0_init_0 rfl 0 rfl ?_
  refine zr_objInit C zt227 zt84 zt85 (Nat.le_of_ble_eq_true rfl) (Nat.le_of_ble_eq_true rfl) dX0_init_1 ?_
  refine zr_aload_n C dX0_init_4 rfl 0 rfl ?_
  refine zr_bipush (v := 6) C dX0_init_5 (by decide) ?_
  refine zr_iconst (v := 4) C dX0_init_7 (by decide) ?_
  refine zr_mna C hf zt228 zt101 (by decide) (by decide) (Nat.le_of_ble_eq_true rfl) (Nat.le_of_ble_eq_true rfl) dX0_init_8 (fun w1 h2 hf => ?_)
  refine zr_srF C hf hin kf_X0_11 (fun _ _ _ => rfl) ⟨rfl, rfl⟩ dX0_init_12 (fun h3 hf => ?_)
  refine zr_aload_n C dX0_init_15 rfl 0 rfl ?_
  refine zr_bipush (v := 10) C dX0_init_16 (by decide) ?_
  refine zr_newarray (ty := .int) (t0 := 0) (mx := 10) C hf (by decide) rfl rfl (fun _ => rfl) rfl zt101 (by decide) (Nat.le_of_ble_eq_true rfl) (Nat.le_of_ble_eq_true rfl) dX0_init_18 (fun w4 h5 hf => ?_)
  refine zr_srF C hf hin kf_X0_16 (fun _ _ _ => rfl) ⟨rfl, rfl⟩ dX0_init_20 (fun h6 hf => ?_)
  exact zr_return C hf hr (Nat.le_of_ble_eq_true rfl) (Nat.le_of_ble_eq_true rfl) dX0_init_23
theorem dX3_init_0 : decode cX3_init 0 = .ok (.aload_n 0, 1) := by decide +kernel
theorem dX3_init_1 : decode cX3_init 1 = .ok (.invokespecial 3, 3) := by decide +kernel
theorem dX3_init_4 : decode cX3_init 4 = .ok (.aload_n 0, 1) := by decide +kernel
theorem dX3_init_5 : decode cX3_init 5 = .ok (.new 9, 3) := by decide +kernel
theorem dX3_init_8 : decode cX3_init 8 = .ok (.dup, 1) := by decide +kernel
theorem dX3_init_9 : decode cX3_init 9 = .ok (.invokespecial 11, 3) := by decide +kernel
theorem dX3_init_12 : decode cX3_init 12 = .ok (.putfield 12, 3) := by decide +kernel
theorem dX3_init_15 : decode cX3_init 15 = .ok (.aload_n 0, 1) := by decide +kernel
theorem dX3_init_16 : decode cX3_init 16 = .ok (.bipush 6, 2) := by decide +kernel
theorem dX3_init_18 : decode cX3_init 18 = .ok (.newarray .int, 2) := by decide +kernel
theorem dX3_init_20 : decode cX3_init 20 = .ok (.putfield 18, 3) := by decide +kernel
theorem dX3_init_23 : decode cX3_init 23 = .ok (.aload_n 0, 1) := by decide +kernel
theorem dX3_init_24 : decode cX3_init 24 = .ok (.bipush 8, 2) := by decide +kernel
theorem dX3_init_26 : decode cX3_init 26 = .ok (.newarray .int, 2) := by decide +kernel
theorem dX3_init_28 : decode cX3_init 28 = .ok (.putfield 22, 3) := by decide +kernel
theorem dX3_init_31 : decode cX3_init 31 = .ok (.aload_n 0, 1) := by decide +kernel
theorem dX3_init_32 : decode cX3_init 32 = .ok (.iconst (-1), 1) := by decide +kernel
theorem dX3_init_33 : decode cX3_init 33 = .ok (.putfield 25, 3) := by decide +kernel
theorem dX3_init_36 : decode cX3_init 36 = .ok (.return_, 1) := by decide +kernel
set_option maxHeartbeats 4000000 in
set_option maxRecDepth 100000 in
theorem c_X3_init (l : Launch) (E : zE) (n : Nat) (h : zH) (a0 : Nat) (res : Unit × zH) (hf : F_X3_init n h a0 = some res) : Met l yX3_init (zw yX3_init cX3_init 1 none) ({ frames := 2, cells := 11, slots := 56, locals := 40 } : Room) (zPc E h [.ref (zB E + a0)]) (zQc E res.2 none) 11 56 (zfr E) := by
  refine zmet (lo := [(0, .ref (zB E + a0))]) (by decide +kernel) (Nat.le_of_ble_eq_true rfl) rfl ?_
  intro p e s m args below meth c C hr hin
  unfold F_X3_init at hf
  refine zr_aload_n C dX3_init_0 rfl 0 rfl ?_
  refine zr_objInit C zt244 zt84 zt85 (Nat.le_of_ble_eq_true rfl) (Nat.le_of_ble_eq_true rfl) dX3_init_1 ?_
  refine zr_aload_n C dX3_init_4 rfl 0 rfl ?_
  refine zr_new C hf kw_X3_9 (Nat.le_of_ble_eq_true rfl) (Nat.le_of_ble_eq_true rfl) dX3_init_5 (fun w1 h2 hf => ?_)
  refine zr_dup C dX3_init_8 rfl ?_
  refine zr_callN (As := []) (rest := [.ref (zB E + w1), .ref (zB E + a0)]) C hf (fun x hx => c_X0_init l E n h2 w1 x hx) kn_X3_11 rfl rfl (Nat.le_of_ble_eq_true rfl) ⟨rfl, rfl⟩ ⟨Nat.le_of_ble_eq_true rfl, Nat.le_of_ble_eq_true rfl⟩ ⟨Nat.le_of_ble_eq_true rfl, Nat.le_of_ble_eq_true rfl⟩ dX3_init_9 (fun _ h3 hf => ?_)
  refine zr_srF C hf hin kf_X3_12 (fun _ _ _ => rfl) ⟨rfl, rfl⟩ dX3_init_12 (fun h4 hf => ?_)
  refine zr_aload_n C dX3_init_15 rfl 0 rfl ?_
  refine zr_bipush (v := 6) C dX3_init_16 (by decide) ?_
  refine zr_newarray (ty := .int) (t0 := 0) (mx := 6) C hf (by decide) rfl rfl (fun _ => rfl) rfl zt101 (by decide) (Nat.le_of_ble_eq_true rfl) (Nat.le_of_ble_eq_true rfl) dX3_init_18 (fun w5 h6 hf => ?_)
  refine zr_srF C hf hin kf_X3_18 (fun _ _ _ => rfl) ⟨rfl, rfl⟩ dX3_init_20 (fun h7 hf => ?_)
  refine zr_aload_n C dX3_init_23 rfl 0 rfl ?_
  refine zr_bipush (v := 8) C dX3_init_24 (by decide) ?_
  refine zr_newarray (ty := .int) (t0 := 0) (mx := 8) C hf (by decide) rfl rfl (fun _ => rfl) rfl zt101 (by decide) (Nat.le_of_ble_eq_true rfl) (Nat.le_of_ble_eq_true rfl) dX3_init_26 (fun w8 h9 hf => ?_)
  refine zr_srF C hf hin kf_X3_22 (fun _ _ _ => rfl) ⟨rfl, rfl⟩ dX3_init_28 (fun h10 hf => ?_)
  refine zr_aload_n C dX3_init_31 rfl 0 rfl ?_
  refine zr_iconst (v := -1) C dX3_init_32 (by decide) ?_
  refine zr_si C hf kp_X3_25 (fun _ _ _ => rfl) rfl dX3_init_33 (fun h11 hf => ?_)
  exact zr_return C hf hr (Nat.le_of_ble_eq_true rfl) (Nat.le_of_ble_eq_true rfl) dX3_init_36
theorem dX6_init_0 : decode cX6_init 0 = .ok (.aload_n 0, 1) := by decide +kernel
theorem dX6_init_1 : decode cX6_init 1 = .ok (.invokespecial 3, 3) := by decide +kernel
theorem dX6_init_4 : decode cX6_init 4 = .ok (.aload_n 0, 1) := by decide +kernel
theorem dX6_init_5 : decode cX6_init 5 = .ok (.bipush 12, 2) := by decide +kernel
theorem dX6_init_7 : decode cX6_init 7 = .ok (.newarray .int, 2) := by decide +kernel
theorem dX6_init_9 : decode cX6_init 9 = .ok (.putfield 9, 3) := by decide +kernel
theorem dX6_init_12 : decode cX6_init 12 = .ok (.aload_n 0, 1) := by decide +kernel
theorem dX6_init_13 : decode cX6_init 13 = .ok (.bipush 12, 2) := by decide +kernel
theorem dX6_init_15 : decode cX6_init 15 = .ok (.newarray .int, 2) := by decide +kernel
theorem dX6_init_17 : decode cX6_init 17 = .ok (.putfield 15, 3) := by decide +kernel
theorem dX6_init_20 : decode cX6_init 20 = .ok (.aload_n 0, 1) := by decide +kernel
theorem dX6_init_21 : decode cX6_init 21 = .ok (.iconst 0, 1) := by decide +kernel
theorem dX6_init_22 : decode cX6_init 22 = .ok (.putfield 18, 3) := by decide +kernel
theorem dX6_init_25 : decode cX6_init 25 = .ok (.return_, 1) := by decide +kernel
set_option maxHeartbeats 4000000 in
set_option maxRecDepth 100000 in
theorem c_X6_init (l : Launch) (E : zE) (n : Nat) (h : zH) (a0 : Nat) (res : Unit × zH) (hf : F_X6_init n h a0 = some res) : Met l yX6_init (zw yX6_init cX6_init 1 none) ({ frames := 1, cells := 2, slots := 24, locals := 20 } : Room) (zPc E h [.ref (zB E + a0)]) (zQc E res.2 none) 2 24 (zfr E) := by
  refine zmet (lo := [(0, .ref (zB E + a0))]) (by decide +kernel) (Nat.le_of_ble_eq_true rfl) rfl ?_
  intro p e s m args below meth c C hr hin
  unfold F_X6_init at hf
  refine zr_aload_n C dX6_init_0 rfl 0 rfl ?_
  refine zr_objInit C zt265 zt84 zt85 (Nat.le_of_ble_eq_true rfl) (Nat.le_of_ble_eq_true rfl) dX6_init_1 ?_
  refine zr_aload_n C dX6_init_4 rfl 0 rfl ?_
  refine zr_bipush (v := 12) C dX6_init_5 (by decide) ?_
  refine zr_newarray (ty := .int) (t0 := 0) (mx := 12) C hf (by decide) rfl rfl (fun _ => rfl) rfl zt101 (by decide) (Nat.le_of_ble_eq_true rfl) (Nat.le_of_ble_eq_true rfl) dX6_init_7 (fun w1 h2 hf => ?_)
  refine zr_srF C hf hin kf_X6_9 (fun _ _ _ => rfl) ⟨rfl, rfl⟩ dX6_init_9 (fun h3 hf => ?_)
  refine zr_aload_n C dX6_init_12 rfl 0 rfl ?_
  refine zr_bipush (v := 12) C dX6_init_13 (by decide) ?_
  refine zr_newarray (ty := .int) (t0 := 0) (mx := 12) C hf (by decide) rfl rfl (fun _ => rfl) rfl zt101 (by decide) (Nat.le_of_ble_eq_true rfl) (Nat.le_of_ble_eq_true rfl) dX6_init_15 (fun w4 h5 hf => ?_)
  refine zr_srF C hf hin kf_X6_15 (fun _ _ _ => rfl) ⟨rfl, rfl⟩ dX6_init_17 (fun h6 hf => ?_)
  refine zr_aload_n C dX6_init_20 rfl 0 rfl ?_
  refine zr_iconst (v := 0) C dX6_init_21 (by decide) ?_
  refine zr_si C hf kp_X6_18 (fun _ _ _ => rfl) rfl dX6_init_22 (fun h7 hf => ?_)
  exact zr_return C hf hr (Nat.le_of_ble_eq_true rfl) (Nat.le_of_ble_eq_true rfl) dX6_init_25
theorem dX10_init_0 : decode cX10_init 0 = .ok (.aload_n 0, 1) := by decide +kernel
theorem dX10_init_1 : decode cX10_init 1 = .ok (.invokespecial 1, 3) := by decide +kernel
theorem dX10_init_4 : decode cX10_init 4 = .ok (.aload_n 0, 1) := by decide +kernel
theorem dX10_init_5 : decode cX10_init 5 = .ok (.new 7, 3) := by decide +kernel
theorem dX10_init_8 : decode cX10_init 8 = .ok (.dup, 1) := by decide +kernel
theorem dX10_init_9 : decode cX10_init 9 = .ok (.invokespecial 9, 3) := by decide +kernel
theorem dX10_init_12 : decode cX10_init 12 = .ok (.putfield 10, 3) := by decide +kernel
theorem dX10_init_15 : decode cX10_init 15 = .ok (.aload_n 0, 1) := by decide +kernel
theorem dX10_init_16 : decode cX10_init 16 = .ok (.new 16, 3) := by decide +kernel
theorem dX10_init_19 : decode cX10_init 19 = .ok (.dup, 1) := by decide +kernel
theorem dX10_init_20 : decode cX10_init 20 = .ok (.iconst 0, 1) := by decide +kernel
theorem dX10_init_21 : decode cX10_init 21 = .ok (.iconst 0, 1) := by decide +kernel
theorem dX10_init_22 : decode cX10_init 22 = .ok (.invokespecial 18, 3) := by decide +kernel
theorem dX10_init_25 : decode cX10_init 25 = .ok (.putfield 21, 3) := by decide +kernel
theorem dX10_init_28 : decode cX10_init 28 = .ok (.aload_n 0, 1) := by decide +kernel
theorem dX10_init_29 : decode cX10_init 29 = .ok (.bipush 8, 2) := by decide +kernel
theorem dX10_init_31 : decode cX10_init 31 = .ok (.anewarray 16, 3) := by decide +kernel
theorem dX10_init_34 : decode cX10_init 34 = .ok (.putfield 25, 3) := by decide +kernel
theorem dX10_init_37 : decode cX10_init 37 = .ok (.aload_n 0, 1) := by decide +kernel
theorem dX10_init_38 : decode cX10_init 38 = .ok (.iconst 0, 1) := by decide +kernel
theorem dX10_init_39 : decode cX10_init 39 = .ok (.putfield 29, 3) := by decide +kernel
theorem dX10_init_42 : decode cX10_init 42 = .ok (.aload_n 0, 1) := by decide +kernel
theorem dX10_init_43 : decode cX10_init 43 = .ok (.new 33, 3) := by decide +kernel
theorem dX10_init_46 : decode cX10_init 46 = .ok (.dup, 1) := by decide +kernel
theorem dX10_init_47 : decode cX10_init 47 = .ok (.invokespecial 35, 3) := by decide +kernel
theorem dX10_init_50 : decode cX10_init 50 = .ok (.putfield 36, 3) := by decide +kernel
theorem dX10_init_53 : decode cX10_init 53 = .ok (.aload_n 0, 1) := by decide +kernel
theorem dX10_init_54 : decode cX10_init 54 = .ok (.new 33, 3) := by decide +kernel
theorem dX10_init_57 : decode cX10_init 57 = .ok (.dup, 1) := by decide +kernel
theorem dX10_init_58 : decode cX10_init 58 = .ok (.invokespecial 35, 3) := by decide +kernel
theorem dX10_init_61 : decode cX10_init 61 = .ok (.putfield 40, 3) := by decide +kernel
theorem dX10_init_64 : decode cX10_init 64 = .ok (.aload_n 0, 1) := by decide +kernel
theorem dX10_init_65 : decode cX10_init 65 = .ok (.iconst 0, 1) := by decide +kernel
theorem dX10_init_66 : decode cX10_init 66 = .ok (.putfield 43, 3) := by decide +kernel
theorem dX10_init_69 : decode cX10_init 69 = .ok (.aload_n 0, 1) := by decide +kernel
theorem dX10_init_70 : decode cX10_init 70 = .ok (.new 46, 3) := by decide +kernel
theorem dX10_init_73 : decode cX10_init 73 = .ok (.dup, 1) := by decide +kernel
theorem dX10_init_74 : decode cX10_init 74 = .ok (.invokespecial 48, 3) := by decide +kernel
theorem dX10_init_77 : decode cX10_init 77 = .ok (.putfield 49, 3) := by decide +kernel
theorem dX10_init_80 : decode cX10_init 80 = .ok (.aload_n 0, 1) := by decide +kernel
theorem dX10_init_81 : decode cX10_init 81 = .ok (.new 46, 3) := by decide +kernel
theorem dX10_init_84 : decode cX10_init 84 = .ok (.dup, 1) := by decide +kernel
theorem dX10_init_85 : decode cX10_init 85 = .ok (.invokespecial 48, 3) := by decide +kernel
theorem dX10_init_88 : decode cX10_init 88 = .ok (.putfield 53, 3) := by decide +kernel
theorem dX10_init_91 : decode cX10_init 91 = .ok (.aload_n 0, 1) := by decide +kernel
theorem dX10_init_92 : decode cX10_init 92 = .ok (.bipush 6, 2) := by decide +kernel
theorem dX10_init_94 : decode cX10_init 94 = .ok (.anewarray 56, 3) := by decide +kernel
theorem dX10_init_97 : decode cX10_init 97 = .ok (.putfield 58, 3) := by decide +kernel
theorem dX10_init_100 : decode cX10_init 100 = .ok (.aload_n 0, 1) := by decide +kernel
theorem dX10_init_101 : decode cX10_init 101 = .ok (.new 56, 3) := by decide +kernel
theorem dX10_init_104 : decode cX10_init 104 = .ok (.dup, 1) := by decide +kernel
theorem dX10_init_105 : decode cX10_init 105 = .ok (.invokespecial 62, 3) := by decide +kernel
theorem dX10_init_108 : decode cX10_init 108 = .ok (.putfield 63, 3) := by decide +kernel
theorem dX10_init_111 : decode cX10_init 111 = .ok (.aload_n 0, 1) := by decide +kernel
theorem dX10_init_112 : decode cX10_init 112 = .ok (.iconst 0, 1) := by decide +kernel
theorem dX10_init_113 : decode cX10_init 113 = .ok (.putfield 67, 3) := by decide +kernel
theorem dX10_init_116 : decode cX10_init 116 = .ok (.aload_n 0, 1) := by decide +kernel
theorem dX10_init_117 : decode cX10_init 117 = .ok (.new 70, 3) := by decide +kernel
theorem dX10_init_120 : decode cX10_init 120 = .ok (.dup, 1) := by decide +kernel
theorem dX10_init_121 : decode cX10_init 121 = .ok (.bipush 8, 2) := by decide +kernel
theorem dX10_init_123 : decode cX10_init 123 = .ok (.invokespecial 72, 3) := by decide +kernel
theorem dX10_init_126 : decode cX10_init 126 = .ok (.putfield 75, 3) := by decide +kernel
theorem dX10_init_129 : decode cX10_init 129 = .ok (.aload_n 0, 1) := by decide +kernel
theorem dX10_init_130 : decode cX10_init 130 = .ok (.new 70, 3) := by decide +kernel
theorem dX10_init_133 : decode cX10_init 133 = .ok (.dup, 1) := by decide +kernel
theorem dX10_init_134 : decode cX10_init 134 = .ok (.bipush 10, 2) := by decide +kernel
theorem dX10_init_136 : decode cX10_init 136 = .ok (.invokespecial 72, 3) := by decide +kernel
theorem dX10_init_139 : decode cX10_init 139 = .ok (.putfield 79, 3) := by decide +kernel
theorem dX10_init_142 : decode cX10_init 142 = .ok (.aload_n 0, 1) := by decide +kernel
theorem dX10_init_143 : decode cX10_init 143 = .ok (.new 82, 3) := by decide +kernel
theorem dX10_init_146 : decode cX10_init 146 = .ok (.dup, 1) := by decide +kernel
theorem dX10_init_147 : decode cX10_init 147 = .ok (.invokespecial 84, 3) := by decide +kernel
theorem dX10_init_150 : decode cX10_init 150 = .ok (.putfield 85, 3) := by decide +kernel
theorem dX10_init_153 : decode cX10_init 153 = .ok (.aload_n 0, 1) := by decide +kernel
theorem dX10_init_154 : decode cX10_init 154 = .ok (.new 82, 3) := by decide +kernel
theorem dX10_init_157 : decode cX10_init 157 = .ok (.dup, 1) := by decide +kernel
theorem dX10_init_158 : decode cX10_init 158 = .ok (.invokespecial 84, 3) := by decide +kernel
theorem dX10_init_161 : decode cX10_init 161 = .ok (.putfield 89, 3) := by decide +kernel
theorem dX10_init_164 : decode cX10_init 164 = .ok (.aload_n 0, 1) := by decide +kernel
theorem dX10_init_165 : decode cX10_init 165 = .ok (.new 92, 3) := by decide +kernel
theorem dX10_init_168 : decode cX10_init 168 = .ok (.dup, 1) := by decide +kernel
theorem dX10_init_169 : decode cX10_init 169 = .ok (.invokespecial 94, 3) := by decide +kernel
theorem dX10_init_172 : decode cX10_init 172 = .ok (.putfield 95, 3) := by decide +kernel
theorem dX10_init_175 : decode cX10_init 175 = .ok (.aload_n 0, 1) := by decide +kernel
theorem dX10_init_176 : decode cX10_init 176 = .ok (.bipush 6, 2) := by decide +kernel
theorem dX10_init_178 : decode cX10_init 178 = .ok (.newarray .int, 2) := by decide +kernel
theorem dX10_init_180 : decode cX10_init 180 = .ok (.putfield 99, 3) := by decide +kernel
theorem dX10_init_183 : decode cX10_init 183 = .ok (.aload_n 0, 1) := by decide +kernel
theorem dX10_init_184 : decode cX10_init 184 = .ok (.iconst 0, 1) := by decide +kernel
theorem dX10_init_185 : decode cX10_init 185 = .ok (.putfield 103, 3) := by decide +kernel
theorem dX10_init_188 : decode cX10_init 188 = .ok (.aload_n 0, 1) := by decide +kernel
theorem dX10_init_189 : decode cX10_init 189 = .ok (.new 106, 3) := by decide +kernel
theorem dX10_init_192 : decode cX10_init 192 = .ok (.dup, 1) := by decide +kernel
theorem dX10_init_193 : decode cX10_init 193 = .ok (.invokespecial 108, 3) := by decide +kernel
theorem dX10_init_196 : decode cX10_init 196 = .ok (.putfield 109, 3) := by decide +kernel
theorem dX10_init_199 : decode cX10_init 199 = .ok (.iconst 0, 1) := by decide +kernel
theorem dX10_init_200 : decode cX10_init 200 = .ok (.istore_n 1, 1) := by decide +kernel
theorem dX10_init_201 : decode cX10_init 201 = .ok (.iload_n 1, 1) := by decide +kernel
theorem dX10_init_202 : decode cX10_init 202 = .ok (.bipush 8, 2) := by decide +kernel
theorem dX10_init_204 : decode cX10_init 204 = .ok (.if_icmp .ge 19, 3) := by decide +kernel
theorem dX10_init_207 : decode cX10_init 207 = .ok (.aload_n 0, 1) := by decide +kernel
theorem dX10_init_208 : decode cX10_init 208 = .ok (.getfield 25, 3) := by decide +kernel
theorem dX10_init_211 : decode cX10_init 211 = .ok (.iload_n 1, 1) := by decide +kernel
theorem dX10_init_212 : decode cX10_init 212 = .ok (.aload_n 0, 1) := by decide +kernel
theorem dX10_init_213 : decode cX10_init 213 = .ok (.getfield 21, 3) := by decide +kernel
theorem dX10_init_216 : decode cX10_init 216 = .ok (.aastore, 1) := by decide +kernel
theorem dX10_init_217 : decode cX10_init 217 = .ok (.iinc 1 1, 3) := by decide +kernel
theorem dX10_init_220 : decode cX10_init 220 = .ok (.goto (-19), 3) := by decide +kernel
theorem dX10_init_223 : decode cX10_init 223 = .ok (.iconst 0, 1) := by decide +kernel
theorem dX10_init_224 : decode cX10_init 224 = .ok (.istore_n 1, 1) := by decide +kernel
theorem dX10_init_225 : decode cX10_init 225 = .ok (.iload_n 1, 1) := by decide +kernel
theorem dX10_init_226 : decode cX10_init 226 = .ok (.bipush 6, 2) := by decide +kernel
theorem dX10_init_228 : decode cX10_init 228 = .ok (.if_icmp .ge 22, 3) := by decide +kernel
theorem dX10_init_231 : decode cX10_init 231 = .ok (.aload_n 0, 1) := by decide +kernel
theorem dX10_init_232 : decode cX10_init 232 = .ok (.getfield 58, 3) := by decide +kernel
theorem dX10_init_235 : decode cX10_init 235 = .ok (.iload_n 1, 1) := by decide +kernel
theorem dX10_init_236 : decode cX10_init 236 = .ok (.new 56, 3) := by decide +kernel
theorem dX10_init_239 : decode cX10_init 239 = .ok (.dup, 1) := by decide +kernel
theorem dX10_init_240 : decode cX10_init 240 = .ok (.invokespecial 62, 3) := by decide +kernel
theorem dX10_init_243 : decode cX10_init 243 = .ok (.aastore, 1) := by decide +kernel
theorem dX10_init_244 : decode cX10_init 244 = .ok (.iinc 1 1, 3) := by decide +kernel
theorem dX10_init_247 : decode cX10_init 247 = .ok (.goto (-22), 3) := by decide +kernel
theorem dX10_init_250 : decode cX10_init 250 = .ok (.return_, 1) := by decide +kernel
set_option maxHeartbeats 4000000 in
set_option maxRecDepth 100000 in
theorem c_X10_init (l : Launch) (E : zE) (n : Nat) (h : zH) (a0 : Nat) (res : Unit × zH) (hf : F_X10_init n h a0 = some res) : Met l yX10_init (zw yX10_init cX10_init 2 none) ({ frames := 3, cells := 84, slots := 555, locals := 60 } : Room) (zPc E h [.ref (zB E + a0)]) (zQc E res.2 none) 84 555 (zfr E) := by
  refine zmet (lo := [(0, .ref (zB E + a0))]) (by decide +kernel) (Nat.le_of_ble_eq_true rfl) rfl ?_
  intro p e s m args below meth c C hr hin
  unfold F_X10_init at hf
  refine zr_aload_n C dX10_init_0 rfl 0 rfl ?_
  refine zr_objInit C zt83 zt84 zt85 (Nat.le_of_ble_eq_true rfl) (Nat.le_of_ble_eq_true rfl) dX10_init_1 ?_
  refine zr_aload_n C dX10_init_4 rfl 0 rfl ?_
  refine zr_new C hf kw_X10_7 (Nat.le_of_ble_eq_true rfl) (Nat.le_of_ble_eq_true rfl) dX10_init_5 (fun w1 h2 hf => ?_)
  refine zr_dup C dX10_init_8 rfl ?_
  refine zr_callN (As := []) (rest := [.ref (zB E + w1), .ref (zB E + a0)]) C hf (fun x hx => c_X5_init l E n h2 w1 x hx) kn_X10_9 rfl rfl (Nat.le_of_ble_eq_true rfl) ⟨rfl, rfl⟩ ⟨Nat.le_of_ble_eq_true rfl, Nat.le_of_ble_eq_true rfl⟩ ⟨Nat.le_of_ble_eq_true rfl, Nat.le_of_ble_eq_true rfl⟩ dX10_init_9 (fun _ h3 hf => ?_)
  refine zr_srF C hf hin kf_X10_10 (fun _ _ _ => rfl) ⟨rfl, rfl⟩ dX10_init_12 (fun h4 hf => ?_)
  refine zr_aload_n C dX10_init_15 rfl 0 rfl ?_
  refine zr_new C hf kw_X10_16 (Nat.le_of_ble_eq_true rfl) (Nat.le_of_ble_eq_true rfl) dX10_init_16 (fun w5 h6 hf => ?_)
  refine zr_dup C dX10_init_19 rfl ?_
  refine zr_iconst (v := 0) C dX10_init_20 (by decide) ?_
  refine zr_iconst (v := 0) C dX10_init_21 (by decide) ?_
  refine zr_callI (As := [.int (0 : Int32), .int (0 : Int32)]) (rest := [.ref (zB E + w5), .ref (zB E + a0)]) C hf (fun x hx => c_X2_init l E n h6 w5 (0 : Int32) (0 : Int32) x hx) ki_X10_18 rfl rfl (Nat.le_of_ble_eq_true rfl) ⟨rfl, rfl⟩ ⟨Nat.le_of_ble_eq_true rfl, Nat.le_of_ble_eq_true rfl⟩ ⟨Nat.le_of_ble_eq_true rfl, Nat.le_of_ble_eq_true rfl⟩ dX10_init_22 (fun _ h7 hf => ?_)
  refine zr_srF C hf hin kf_X10_21 (fun _ _ _ => rfl) ⟨rfl, rfl⟩ dX10_init_25 (fun h8 hf => ?_)
  refine zr_aload_n C dX10_init_28 rfl 0 rfl ?_
  refine zr_bipush (v := 8) C dX10_init_29 (by decide) ?_
  refine zr_anewarray (t0 := 4) (mx := 8) C hf (by decide) rfl zt102 C.2.2.2.2.2.1.2.2.1 (by decide) (Nat.le_of_ble_eq_true rfl) (Nat.le_of_ble_eq_true rfl) dX10_init_31 (fun w9 h10 hf => ?_)
  refine zr_srF C hf hin kf_X10_25 (fun _ _ _ => rfl) ⟨rfl, rfl⟩ dX10_init_34 (fun h11 hf => ?_)
  refine zr_aload_n C dX10_init_37 rfl 0 rfl ?_
  refine zr_iconst (v := 0) C dX10_init_38 (by decide) ?_
  refine zr_si C hf kp_X10_29 (fun _ _ _ => rfl) rfl dX10_init_39 (fun h12 hf => ?_)
  refine zr_aload_n C dX10_init_42 rfl 0 rfl ?_
  refine zr_new C hf kw_X10_33 (Nat.le_of_ble_eq_true rfl) (Nat.le_of_ble_eq_true rfl) dX10_init_43 (fun w13 h14 hf => ?_)
  refine zr_dup C dX10_init_46 rfl ?_
  refine zr_callN (As := []) (rest := [.ref (zB E + w13), .ref (zB E + a0)]) C hf (fun x hx => c_X1_init l E n h14 w13 x hx) kn_X10_35 rfl rfl (Nat.le_of_ble_eq_true rfl) ⟨rfl, rfl⟩ ⟨Nat.le_of_ble_eq_true rfl, Nat.le_of_ble_eq_true rfl⟩ ⟨Nat.le_of_ble_eq_true rfl, Nat.le_of_ble_eq_true rfl⟩ dX10_init_47 (fun _ h15 hf => ?_)
  refine zr_sr C hf kp_X10_36 (fun _ _ _ => rfl) ⟨rfl, rfl⟩ dX10_init_50 (fun h16 hf => ?_)
  refine zr_aload_n C dX10_init_53 rfl 0 rfl ?_
  refine zr_new C hf kw_X10_33 (Nat.le_of_ble_eq_true rfl) (Nat.le_of_ble_eq_true rfl) dX10_init_54 (fun w17 h18 hf => ?_)
  refine zr_dup C dX10_init_57 rfl ?_
  refine zr_callN (As := []) (rest := [.ref (zB E + w17), .ref (zB E + a0)]) C hf (fun x hx => c_X1_init l E n h18 w17 x hx) kn_X10_35 rfl rfl (Nat.le_of_ble_eq_true rfl) ⟨rfl, rfl⟩ ⟨Nat.le_of_ble_eq_true rfl, Nat.le_of_ble_eq_true rfl⟩ ⟨Nat.le_of_ble_eq_true rfl, Nat.le_of_ble_eq_true rfl⟩ dX10_init_58 (fun _ h19 hf => ?_)
  refine zr_sr C hf kp_X10_40 (fun _ _ _ => rfl) ⟨rfl, rfl⟩ dX10_init_61 (fun h20 hf => ?_)
  refine zr_aload_n C dX10_init_64 rfl 0 rfl ?_
  refine zr_iconst (v := 0) C dX10_init_65 (by decide) ?_
  refine zr_si C hf kp_X10_43 (fun _ _ _ => rfl) rfl dX10_init_66 (fun h21 hf => ?_)
  refine zr_aload_n C dX10_init_69 rfl 0 rfl ?_
  refine zr_new C hf kw_X10_46 (Nat.le_of_ble_eq_true rfl) (Nat.le_of_ble_eq_true rfl) dX10_init_70 (fun w22 h23 hf => ?_)
  refine zr_dup C dX10_init_73 rfl ?_
  refine zr_callN (As := []) (rest := [.ref (zB E + w22), .ref (zB E + a0)]) C hf (fun x hx => c_X7_init l E n h23 w22 x hx) kn_X10_48 rfl rfl (Nat.le_of_ble_eq_true rfl) ⟨rfl, rfl⟩ ⟨Nat.le_of_ble_eq_true rfl, Nat.le_of_ble_eq_true rfl⟩ ⟨Nat.le_of_ble_eq_true rfl, Nat.le_of_ble_eq_true rfl⟩ dX10_init_74 (fun _ h24 hf => ?_)
  refine zr_sr C hf kp_X10_49 (fun _ _ _ => rfl) ⟨rfl, rfl⟩ dX10_init_77 (fun h25 hf => ?_)
  refine zr_aload_n C dX10_init_80 rfl 0 rfl ?_
  refine zr_new C hf kw_X10_46 (Nat.le_of_ble_eq_true rfl) (Nat.le_of_ble_eq_true rfl) dX10_init_81 (fun w26 h27 hf => ?_)
  refine zr_dup C dX10_init_84 rfl ?_
  refine zr_callN (As := []) (rest := [.ref (zB E + w26), .ref (zB E + a0)]) C hf (fun x hx => c_X7_init l E n h27 w26 x hx) kn_X10_48 rfl rfl (Nat.le_of_ble_eq_true rfl) ⟨rfl, rfl⟩ ⟨Nat.le_of_ble_eq_true rfl, Nat.le_of_ble_eq_true rfl⟩ ⟨Nat.le_of_ble_eq_true rfl, Nat.le_of_ble_eq_true rfl⟩ dX10_init_85 (fun _ h28 hf => ?_)
  refine zr_sr C hf kp_X10_53 (fun _ _ _ => rfl) ⟨rfl, rfl⟩ dX10_init_88 (fun h29 hf => ?_)
  refine zr_aload_n C dX10_init_91 rfl 0 rfl ?_
  refine zr_bipush (v := 6) C dX10_init_92 (by decide) ?_
  refine zr_anewarray (t0 := 5) (mx := 6) C hf (by decide) rfl zt166 C.2.2.2.2.2.1.2.2.2.1 (by decide) (Nat.le_of_ble_eq_true rfl) (Nat.le_of_ble_eq_true rfl) dX10_init_94 (fun w30 h31 hf => ?_)
  refine zr_srF C hf hin kf_X10_58 (fun _ _ _ => rfl) ⟨rfl, rfl⟩ dX10_init_97 (fun h32 hf => ?_)
  refine zr_aload_n C dX10_init_100 rfl 0 rfl ?_
  refine zr_new C hf kw_X10_56 (Nat.le_of_ble_eq_true rfl) (Nat.le_of_ble_eq_true rfl) dX10_init_101 (fun w33 h34 hf => ?_)
  refine zr_dup C dX10_init_104 rfl ?_
  refine zr_callN (As := []) (rest := [.ref (zB E + w33), .ref (zB E + a0)]) C hf (fun x hx => c_X8_init l E n h34 w33 x hx) kn_X10_62 rfl rfl (Nat.le_of_ble_eq_true rfl) ⟨rfl, rfl⟩ ⟨Nat.le_of_ble_eq_true rfl, Nat.le_of_ble_eq_true rfl⟩ ⟨Nat.le_of_ble_eq_true rfl, Nat.le_of_ble_eq_true rfl⟩ dX10_init_105 (fun _ h35 hf => ?_)
  refine zr_sr C hf kp_X10_63 (fun _ _ _ => rfl) ⟨rfl, rfl⟩ dX10_init_108 (fun h36 hf => ?_)
  refine zr_aload_n C dX10_init_111 rfl 0 rfl ?_
  refine zr_iconst (v := 0) C dX10_init_112 (by decide) ?_
  refine zr_si C hf kp_X10_67 (fun _ _ _ => rfl) rfl dX10_init_113 (fun h37 hf => ?_)
  refine zr_aload_n C dX10_init_116 rfl 0 rfl ?_
  refine zr_new C hf kw_X10_70 (Nat.le_of_ble_eq_true rfl) (Nat.le_of_ble_eq_true rfl) dX10_init_117 (fun w38 h39 hf => ?_)
  refine zr_dup C dX10_init_120 rfl ?_
  refine zr_bipush (v := 8) C dX10_init_121 (by decide) ?_
  refine zr_callI (As := [.int (8 : Int32)]) (rest := [.ref (zB E + w38), .ref (zB E + a0)]) C hf (fun x hx => c_X4_init l E n h39 w38 (8 : Int32) x hx) ki_X10_72 rfl rfl (Nat.le_of_ble_eq_true rfl) ⟨rfl, rfl⟩ ⟨Nat.le_of_ble_eq_true rfl, Nat.le_of_ble_eq_true rfl⟩ ⟨Nat.le_of_ble_eq_true rfl, Nat.le_of_ble_eq_true rfl⟩ dX10_init_123 (fun _ h40 hf => ?_)
  refine zr_srF C hf hin kf_X10_75 (fun _ _ _ => rfl) ⟨rfl, rfl⟩ dX10_init_126 (fun h41 hf => ?_)
  refine zr_aload_n C dX10_init_129 rfl 0 rfl ?_
  refine zr_new C hf kw_X10_70 (Nat.le_of_ble_eq_true rfl) (Nat.le_of_ble_eq_true rfl) dX10_init_130 (fun w42 h43 hf => ?_)
  refine zr_dup C dX10_init_133 rfl ?_
  refine zr_bipush (v := 10) C dX10_init_134 (by decide) ?_
  refine zr_callI (As := [.int (10 : Int32)]) (rest := [.ref (zB E + w42), .ref (zB E + a0)]) C hf (fun x hx => c_X4_init l E n h43 w42 (10 : Int32) x hx) ki_X10_72 rfl rfl (Nat.le_of_ble_eq_true rfl) ⟨rfl, rfl⟩ ⟨Nat.le_of_ble_eq_true rfl, Nat.le_of_ble_eq_true rfl⟩ ⟨Nat.le_of_ble_eq_true rfl, Nat.le_of_ble_eq_true rfl⟩ dX10_init_136 (fun _ h44 hf => ?_)
  refine zr_srF C hf hin kf_X10_79 (fun _ _ _ => rfl) ⟨rfl, rfl⟩ dX10_init_139 (fun h45 hf => ?_)
  refine zr_aload_n C dX10_init_142 rfl 0 rfl ?_
  refine zr_new C hf kw_X10_82 (Nat.le_of_ble_eq_true rfl) (Nat.le_of_ble_eq_true rfl) dX10_init_143 (fun w46 h47 hf => ?_)
  refine zr_dup C dX10_init_146 rfl ?_
  refine zr_callN (As := []) (rest := [.ref (zB E + w46), .ref (zB E + a0)]) C hf (fun x hx => c_X0_init l E n h47 w46 x hx) kn_X10_84 rfl rfl (Nat.le_of_ble_eq_true rfl) ⟨rfl, rfl⟩ ⟨Nat.le_of_ble_eq_true rfl, Nat.le_of_ble_eq_true rfl⟩ ⟨Nat.le_of_ble_eq_true rfl, Nat.le_of_ble_eq_true rfl⟩ dX10_init_147 (fun _ h48 hf => ?_)
  refine zr_srF C hf hin kf_X10_85 (fun _ _ _ => rfl) ⟨rfl, rfl⟩ dX10_init_150 (fun h49 hf => ?_)
  refine zr_aload_n C dX10_init_153 rfl 0 rfl ?_
  refine zr_new C hf kw_X10_82 (Nat.le_of_ble_eq_true rfl) (Nat.le_of_ble_eq_true rfl) dX10_init_154 (fun w50 h51 hf => ?_)
  refine zr_dup C dX10_init_157 rfl ?_
  refine zr_callN (As := []) (rest := [.ref (zB E + w50), .ref (zB E + a0)]) C hf (fun x hx => c_X0_init l E n h51 w50 x hx) kn_X10_84 rfl rfl (Nat.le_of_ble_eq_true rfl) ⟨rfl, rfl⟩ ⟨Nat.le_of_ble_eq_true rfl, Nat.le_of_ble_eq_true rfl⟩ ⟨Nat.le_of_ble_eq_true rfl, Nat.le_of_ble_eq_true rfl⟩ dX10_init_158 (fun _ h52 hf => ?_)
  refine zr_srF C hf hin kf_X10_89 (fun _ _ _ => rfl) ⟨rfl, rfl⟩ dX10_init_161 (fun h53 hf => ?_)
  refine zr_aload_n C dX10_init_164 rfl 0 rfl ?_
  refine zr_new C hf kw_X10_92 (Nat.le_of_ble_eq_true rfl) (Nat.le_of_ble_eq_true rfl) dX10_init_165 (fun w54 h55 hf => ?_)
  refine zr_dup C dX10_init_168 rfl ?_
  refine zr_callN (As := []) (rest := [.ref (zB E + w54), .ref (zB E + a0)]) C hf (fun x hx => c_X3_init l E n h55 w54 x hx) kn_X10_94 rfl rfl (Nat.le_of_ble_eq_true rfl) ⟨rfl, rfl⟩ ⟨Nat.le_of_ble_eq_true rfl, Nat.le_of_ble_eq_true rfl⟩ ⟨Nat.le_of_ble_eq_true rfl, Nat.le_of_ble_eq_true rfl⟩ dX10_init_169 (fun _ h56 hf => ?_)
  refine zr_srF C hf hin kf_X10_95 (fun _ _ _ => rfl) ⟨rfl, rfl⟩ dX10_init_172 (fun h57 hf => ?_)
  refine zr_aload_n C dX10_init_175 rfl 0 rfl ?_
  refine zr_bipush (v := 6) C dX10_init_176 (by decide) ?_
  refine zr_newarray (ty := .int) (t0 := 0) (mx := 6) C hf (by decide) rfl rfl (fun _ => rfl) rfl zt101 (by decide) (Nat.le_of_ble_eq_true rfl) (Nat.le_of_ble_eq_true rfl) dX10_init_178 (fun w58 h59 hf => ?_)
  refine zr_srF C hf hin kf_X10_99 (fun _ _ _ => rfl) ⟨rfl, rfl⟩ dX10_init_180 (fun h60 hf => ?_)
  refine zr_aload_n C dX10_init_183 rfl 0 rfl ?_
  refine zr_iconst (v := 0) C dX10_init_184 (by decide) ?_
  refine zr_si C hf kp_X10_103 (fun _ _ _ => rfl) rfl dX10_init_185 (fun h61 hf => ?_)
  refine zr_aload_n C dX10_init_188 rfl 0 rfl ?_
  refine zr_new C hf kw_X10_106 (Nat.le_of_ble_eq_true rfl) (Nat.le_of_ble_eq_true rfl) dX10_init_189 (fun w62 h63 hf => ?_)
  refine zr_dup C dX10_init_192 rfl ?_
  refine zr_callN (As := []) (rest := [.ref (zB E + w62), .ref (zB E + a0)]) C hf (fun x hx => c_X6_init l E n h63 w62 x hx) kn_X10_108 rfl rfl (Nat.le_of_ble_eq_true rfl) ⟨rfl, rfl⟩ ⟨Nat.le_of_ble_eq_true rfl, Nat.le_of_ble_eq_true rfl⟩ ⟨Nat.le_of_ble_eq_true rfl, Nat.le_of_ble_eq_true rfl⟩ dX10_init_193 (fun _ h64 hf => ?_)
  refine zr_srF C hf hin kf_X10_109 (fun _ _ _ => rfl) ⟨rfl, rfl⟩ dX10_init_196 (fun h65 hf => ?_)
  refine zr_iconst (v := 0) C dX10_init_199 (by decide) ?_
  refine zr_istore_n (lo2 := [(1, .int (0 : Int32)), (0, .ref (zB E + a0))]) C dX10_init_200 rfl (by decide) rfl ?_
  have L201 : ∀ (fu : Nat) (x : zH × Int32), zloop (fun kc x => F_X10_init_B201 n kc x.1 a0 x.2) fu x = some res → zW p l e (headSpec (zw yX10_init cX10_init 2 none) ({ frames := 3, cells := 84, slots := 555, locals := 60 } : Room)).room s m args below meth c E 2 (MQ below (zQc E res.2 none) args s 84 555 (zfr E)) 66 459 201 [(0, .ref (zB E + a0)), (1, .int x.2)] [] x.1 := by
    refine z_loop _ ?_
    intro kc201 hk201 x hf
    obtain ⟨h91, x90⟩ := x
    dsimp only at hf ⊢
    unfold F_X10_init_B201 at hf
    refine zr_iload_n C dX10_init_201 rfl 1 rfl ?_
    refine zr_bipush (v := 8) C dX10_init_202 (by decide) ?_
    refine zr_icmp_ge (tgt := 223) C hf dX10_init_204 (by decide) (fun hf => ?_) (fun hf => ?_)
    · refine zr_iconst (v := 0) C dX10_init_223 (by decide) ?_
      refine zr_istore_n (lo2 := [(1, .int (0 : Int32)), (0, .ref (zB E + a0))]) C dX10_init_224 rfl (by decide) rfl ?_
      have L225 : ∀ (fu : Nat) (x : zH × Int32 × Nat), zloop (fun kc x => F_X10_init_B225 n kc x.2.2 x.1 a0 x.2.1) fu x = some res → zW p l e (headSpec (zw yX10_init cX10_init 2 none) ({ frames := 3, cells := 84, slots := 555, locals := 60 } : Room)).room s m args below meth c E 2 (MQ below (zQc E res.2 none) args s 84 555 (zfr E)) (66 + 3 * x.2.2) (459 + 16 * x.2.2) 225 [(0, .ref (zB E + a0)), (1, .int x.2.1)] [] x.1 := by
        refine z_loop _ ?_
        intro kc225 hk225 x hf
        obtain ⟨h93, x92, gn⟩ := x
        dsimp only at hf ⊢
        unfold F_X10_init_B225 at hf
        obtain ⟨hg20, hf⟩ := zif hf
        refine zr_iload_n C dX10_init_225 rfl 1 rfl ?_
        refine zr_bipush (v := 6) C dX10_init_226 (by decide) ?_
        refine zr_icmp_ge (tgt := 250) C hf dX10_init_228 (by decide) (fun hf => ?_) (fun hf => ?_)
        · refine zwiden (k := 84) (n := 555) (by omega) (by omega) ?_
          exact zr_return C hf hr (Nat.le_of_ble_eq_true rfl) (Nat.le_of_ble_eq_true rfl) dX10_init_250
        · refine zr_aload_n C dX10_init_231 rfl 0 rfl ?_
          refine zr_gr C hf kg_X10_58 (fun _ _ _ => rfl) dX10_init_232 (fun w94 hf => ?_)
          refine zr_iload_n C dX10_init_235 rfl 1 rfl ?_
          obtain ⟨hgn, hf⟩ := zif hf
          refine zr_new C hf kw_X10_56 (by show _ ≤ 84; omega) (by show _ ≤ 555; omega) dX10_init_236 (fun w95 h96 hf => ?_)
          refine zr_dup C dX10_init_239 rfl ?_
          refine zr_callN (As := []) (rest := [.ref (zB E + w95), .int x92, .ref (zB E + w94)]) C hf (fun x hx => c_X8_init l E n h96 w95 x hx) kn_X10_62 rfl rfl (Nat.le_of_ble_eq_true rfl) ⟨rfl, rfl⟩ ⟨Nat.le_of_ble_eq_true rfl, Nat.le_of_ble_eq_true rfl⟩ ⟨by show _ ≤ 84; omega, by show _ ≤ 555; omega⟩ dX10_init_240 (fun _ h97 hf => ?_)
          refine zr_aastore (t0 := 5) C hf (by decide) (by decide) rfl rfl dX10_init_243 (fun h98 hf => ?_)
          refine zr_iinc (v0 := 1) (k := 1) (f := fun v => [(1, .int v), (0, .ref (zB E + a0))]) C hf (by decide) dX10_init_244 rfl (by decide) (fun v => rfl) (fun x99 hf => ?_)
          refine zr_goto (tgt := 225) C dX10_init_247 (by decide) ?_
          refine zsub [1, 0] rfl ?_
          refine zwiden (k := 66 + 3 * (gn + 1)) (n := 459 + 16 * (gn + 1)) (by omega) (by omega) ?_
          exact hk225 (h98, x99, gn + 1) hf
      refine zwiden (k := 66 + 3 * 0) (n := 459 + 16 * 0) (by omega) (by omega) ?_
      refine zsub [1, 0] rfl ?_
      exact L225 n (h91, (0 : Int32), 0) hf
    · refine zr_aload_n C dX10_init_207 rfl 0 rfl ?_
      refine zr_gr C hf kg_X10_25 (fun _ _ _ => rfl) dX10_init_208 (fun w100 hf => ?_)
      refine zr_iload_n C dX10_init_211 rfl 1 rfl ?_
      refine zr_aload_n C dX10_init_212 rfl 0 rfl ?_
      refine zr_gr C hf kg_X10_21 (fun _ _ _ => rfl) dX10_init_213 (fun w101 hf => ?_)
      refine zr_aastore (t0 := 4) C hf (by decide) (by decide) rfl rfl dX10_init_216 (fun h102 hf => ?_)
      refine zr_iinc (v0 := 1) (k := 1) (f := fun v => [(1, .int v), (0, .ref (zB E + a0))]) C hf (by decide) dX10_init_217 rfl (by decide) (fun v => rfl) (fun x103 hf => ?_)
      refine zr_goto (tgt := 201) C dX10_init_220 (by decide) ?_
      refine zsub [1, 0] rfl ?_
      exact hk201 (h102, x103) hf
  refine zsub [1, 0] rfl ?_
  exact L201 n (h65, (0 : Int32)) hf
theorem dX5_byteOf_0 : decode cX5_byteOf 0 = .ok (.lload_n 0, 1) := by decide +kernel
theorem dX5_byteOf_1 : decode cX5_byteOf 1 = .ok (.bipush 8, 2) := by decide +kernel
theorem dX5_byteOf_3 : decode cX5_byteOf 3 = .ok (.iload_n 2, 1) := by decide +kernel
theorem dX5_byteOf_4 : decode cX5_byteOf 4 = .ok (.imul, 1) := by decide +kernel
theorem dX5_byteOf_5 : decode cX5_byteOf 5 = .ok (.lushr, 1) := by decide +kernel
theorem dX5_byteOf_6 : decode cX5_byteOf 6 = .ok (.ldc2_w 27, 3) := by decide +kernel
theorem dX5_byteOf_9 : decode cX5_byteOf 9 = .ok (.land, 1) := by decide +kernel
theorem dX5_byteOf_10 : decode cX5_byteOf 10 = .ok (.l2i, 1) := by decide +kernel
theorem dX5_byteOf_11 : decode cX5_byteOf 11 = .ok (.ireturn, 1) := by decide +kernel
set_option maxHeartbeats 4000000 in
set_option maxRecDepth 100000 in
theorem c_X5_byteOf (l : Launch) (E : zE) (n : Nat) (h : zH) (p0 : Int64) (p1 : Int32) (res : Int32 × zH) (hf : F_X5_byteOf n h p0 p1 = some res) : Met l yX5_byteOf (zw yX5_byteOf cX5_byteOf 3 (some .int)) ({ frames := 0, cells := 0, slots := 0, locals := 0 } : Room) (zPc E h [.long p0, .int p1]) (zQc E res.2 (some (.int res.1))) 0 0 (zfr E) := by
  refine zmet (lo := [(0, .long p0), (2, .int p1)]) (by decide +kernel) (Nat.le_of_ble_eq_true rfl) rfl ?_
  intro p e s m args below meth c C hr hin
  unfold F_X5_byteOf at hf
  refine zr_lload_n C dX5_byteOf_0 rfl 0 rfl ?_
  refine zr_bipush (v := 8) C dX5_byteOf_1 (by decide) ?_
  refine zr_iload_n C dX5_byteOf_3 rfl 1 rfl ?_
  refine zr_imul C hf dX5_byteOf_4 (fun x1 hf => ?_)
  refine zr_lushr C hf dX5_byteOf_5 (fun j2 hf => ?_)
  refine zr_ldc2 (v := 255) C zt354 dX5_byteOf_6 ?_
  refine zr_land C hf dX5_byteOf_9 (fun j3 hf => ?_)
  refine zr_l2i C hf dX5_byteOf_10 (fun x4 hf => ?_)
  exact zr_ireturn C hf hr (Nat.le_of_ble_eq_true rfl) (Nat.le_of_ble_eq_true rfl) dX5_byteOf_11
theorem dX5_lettersIn_0 : decode cX5_lettersIn 0 = .ok (.iconst 0, 1) := by decide +kernel
theorem dX5_lettersIn_1 : decode cX5_lettersIn 1 = .ok (.istore_n 2, 1) := by decide +kernel
theorem dX5_lettersIn_2 : decode cX5_lettersIn 2 = .ok (.iconst 0, 1) := by decide +kernel
theorem dX5_lettersIn_3 : decode cX5_lettersIn 3 = .ok (.istore_n 3, 1) := by decide +kernel
theorem dX5_lettersIn_4 : decode cX5_lettersIn 4 = .ok (.iload_n 3, 1) := by decide +kernel
theorem dX5_lettersIn_5 : decode cX5_lettersIn 5 = .ok (.bipush 8, 2) := by decide +kernel
theorem dX5_lettersIn_7 : decode cX5_lettersIn 7 = .ok (.if_icmp .ge 43, 3) := by decide +kernel
theorem dX5_lettersIn_10 : decode cX5_lettersIn 10 = .ok (.lload_n 0, 1) := by decide +kernel
theorem dX5_lettersIn_11 : decode cX5_lettersIn 11 = .ok (.iload_n 3, 1) := by decide +kernel
theorem dX5_lettersIn_12 : decode cX5_lettersIn 12 = .ok (.invokestatic 23, 3) := by decide +kernel
theorem dX5_lettersIn_15 : decode cX5_lettersIn 15 = .ok (.istore 4, 2) := by decide +kernel
theorem dX5_lettersIn_17 : decode cX5_lettersIn 17 = .ok (.iload 4, 2) := by decide +kernel
theorem dX5_lettersIn_19 : decode cX5_lettersIn 19 = .ok (.bipush 126, 2) := by decide +kernel
theorem dX5_lettersIn_21 : decode cX5_lettersIn 21 = .ok (.if_icmp .gt 13, 3) := by decide +kernel
theorem dX5_lettersIn_24 : decode cX5_lettersIn 24 = .ok (.iload 4, 2) := by decide +kernel
theorem dX5_lettersIn_26 : decode cX5_lettersIn 26 = .ok (.ifCond .eq 10, 3) := by decide +kernel
theorem dX5_lettersIn_29 : decode cX5_lettersIn 29 = .ok (.iload_n 2, 1) := by decide +kernel
theorem dX5_lettersIn_30 : decode cX5_lettersIn 30 = .ok (.iload_n 3, 1) := by decide +kernel
theorem dX5_lettersIn_31 : decode cX5_lettersIn 31 = .ok (.if_icmp .ge 5, 3) := by decide +kernel
theorem dX5_lettersIn_34 : decode cX5_lettersIn 34 = .ok (.iconst (-1), 1) := by decide +kernel
theorem dX5_lettersIn_35 : decode cX5_lettersIn 35 = .ok (.ireturn, 1) := by decide +kernel
theorem dX5_lettersIn_36 : decode cX5_lettersIn 36 = .ok (.iload 4, 2) := by decide +kernel
theorem dX5_lettersIn_38 : decode cX5_lettersIn 38 = .ok (.ifCond .eq 6, 3) := by decide +kernel
theorem dX5_lettersIn_41 : decode cX5_lettersIn 41 = .ok (.iinc 2 1, 3) := by decide +kernel
theorem dX5_lettersIn_44 : decode cX5_lettersIn 44 = .ok (.iinc 3 1, 3) := by decide +kernel
theorem dX5_lettersIn_47 : decode cX5_lettersIn 47 = .ok (.goto (-43), 3) := by decide +kernel
theorem dX5_lettersIn_50 : decode cX5_lettersIn 50 = .ok (.iload_n 2, 1) := by decide +kernel
theorem dX5_lettersIn_51 : decode cX5_lettersIn 51 = .ok (.ireturn, 1) := by decide +kernel
set_option maxHeartbeats 4000000 in
set_option maxRecDepth 100000 in
theorem c_X5_lettersIn (l : Launch) (E : zE) (n : Nat) (h : zH) (p0 : Int64) (res : Int32 × zH) (hf : F_X5_lettersIn n h p0 = some res) : Met l yX5_lettersIn (zw yX5_lettersIn cX5_lettersIn 5 (some .int)) ({ frames := 1, cells := 0, slots := 0, locals := 22 } : Room) (zPc E h [.long p0]) (zQc E res.2 (some (.int res.1))) 0 0 (zfr E) := by
  refine zmet (lo := [(0, .long p0)]) (by decide +kernel) (Nat.le_of_ble_eq_true rfl) rfl ?_
  intro p e s m args below meth c C hr hin
  unfold F_X5_lettersIn at hf
  have J34 : ∀ (h2 : zH), F_X5_lettersIn_J34 n h2 = some res → zW p l e (headSpec (zw yX5_lettersIn cX5_lettersIn 5 (some .int)) ({ frames := 1, cells := 0, slots := 0, locals := 22 } : Room)).room s m args below meth c E 5 (MQ below (zQc E res.2 (some (.int res.1))) args s 0 0 (zfr E)) 0 0 34 [] [] h2 := by
    intro h2 hf
    unfold F_X5_lettersIn_J34 at hf
    refine zr_iconst (v := -1) C dX5_lettersIn_34 (by decide) ?_
    exact zr_ireturn C hf hr (Nat.le_of_ble_eq_true rfl) (Nat.le_of_ble_eq_true rfl) dX5_lettersIn_35
  refine zr_iconst (v := 0) C dX5_lettersIn_0 (by decide) ?_
  refine zr_istore_n (lo2 := [(2, .int (0 : Int32)), (0, .long p0)]) C dX5_lettersIn_1 rfl (by decide) rfl ?_
  refine zr_iconst (v := 0) C dX5_lettersIn_2 (by decide) ?_
  refine zr_istore_n (lo2 := [(3, .int (0 : Int32)), (2, .int (0 : Int32)), (0, .long p0)]) C dX5_lettersIn_3 rfl (by decide) rfl ?_
  have L4 : ∀ (fu : Nat) (x : zH × Int32 × Int32), zloop (fun kc x => F_X5_lettersIn_B4 n kc x.1 p0 x.2.1 x.2.2) fu x = some res → zW p l e (headSpec (zw yX5_lettersIn cX5_lettersIn 5 (some .int)) ({ frames := 1, cells := 0, slots := 0, locals := 22 } : Room)).room s m args below meth c E 5 (MQ below (zQc E res.2 (some (.int res.1))) args s 0 0 (zfr E)) 0 0 4 [(0, .long p0), (2, .int x.2.1), (3, .int x.2.2)] [] x.1 := by
    refine z_loop _ ?_
    intro kc4 hk4 x hf
    obtain ⟨h22, x20, x21⟩ := x
    dsimp only at hf ⊢
    unfold F_X5_lettersIn_B4 at hf
    have J44 : ∀ (h25 : zH) (x23 : Int32) (x24 : Int32), F_X5_lettersIn_J44 n kc4 h25 p0 x23 x24 = some res → zW p l e (headSpec (zw yX5_lettersIn cX5_lettersIn 5 (some .int)) ({ frames := 1, cells := 0, slots := 0, locals := 22 } : Room)).room s m args below meth c E 5 (MQ below (zQc E res.2 (some (.int res.1))) args s 0 0 (zfr E)) 0 0 44 [(0, .long p0), (2, .int x23), (3, .int x24)] [] h25 := by
      intro h25 x23 x24 hf
      unfold F_X5_lettersIn_J44 at hf
      refine zr_iinc (v0 := 1) (k := 2) (f := fun v => [(3, .int v), (0, .long p0), (2, .int x23)]) C hf (by decide) dX5_lettersIn_44 rfl (by decide) (fun v => rfl) (fun x26 hf => ?_)
      refine zr_goto (tgt := 4) C dX5_lettersIn_47 (by decide) ?_
      refine zsub [1, 2, 0] rfl ?_
      exact hk4 (h25, x23, x26) hf
    have J36 : ∀ (h30 : zH) (x27 : Int32) (x28 : Int32) (x29 : Int32), F_X5_lettersIn_J36 n kc4 h30 p0 x27 x28 x29 = some res → zW p l e (headSpec (zw yX5_lettersIn cX5_lettersIn 5 (some .int)) ({ frames := 1, cells := 0, slots := 0, locals := 22 } : Room)).room s m args below meth c E 5 (MQ below (zQc E res.2 (some (.int res.1))) args s 0 0 (zfr E)) 0 0 36 [(0, .long p0), (2, .int x27), (3, .int x28), (4, .int x29)] [] h30 := by
      intro h30 x27 x28 x29 hf
      unfold F_X5_lettersIn_J36 at hf
      refine zr_iload C dX5_lettersIn_36 3 rfl ?_
      refine zr_if_eq (tgt := 44) C hf dX5_lettersIn_38 (by decide) (fun hf => ?_) (fun hf => ?_)
      · refine zsub [0, 1, 2] rfl ?_
        exact J44 h30 x27 x28 hf
      · refine zr_iinc (v0 := 1) (k := 1) (f := fun v => [(2, .int v), (0, .long p0), (3, .int x28), (4, .int x29)]) C hf (by decide) dX5_lettersIn_41 rfl (by decide) (fun v => rfl) (fun x31 hf => ?_)
        refine zsub [1, 0, 2] rfl ?_
        exact J44 h30 x31 x28 hf
    refine zr_iload_n C dX5_lettersIn_4 rfl 2 rfl ?_
    refine zr_bipush (v := 8) C dX5_lettersIn_5 (by decide) ?_
    refine zr_icmp_ge (tgt := 50) C hf dX5_lettersIn_7 (by decide) (fun hf => ?_) (fun hf => ?_)
    · refine zr_iload_n C dX5_lettersIn_50 rfl 1 rfl ?_
      exact zr_ireturn C hf hr (Nat.le_of_ble_eq_true rfl) (Nat.le_of_ble_eq_true rfl) dX5_lettersIn_51
    · refine zr_lload_n C dX5_lettersIn_10 rfl 0 rfl ?_
      refine zr_iload_n C dX5_lettersIn_11 rfl 2 rfl ?_
      refine zr_callSi (As := [.long p0, .int x21]) (rest := []) C hf (fun x hx => c_X5_byteOf l E n h22 p0 x21 x hx) ks_X5_23 rfl rfl (Nat.le_of_ble_eq_true rfl) ⟨rfl, rfl⟩ ⟨Nat.le_of_ble_eq_true rfl, Nat.le_of_ble_eq_true rfl⟩ ⟨Nat.le_of_ble_eq_true rfl, Nat.le_of_ble_eq_true rfl⟩ dX5_lettersIn_12 (fun x33 h32 hf => ?_)
      refine zr_istore (lo2 := [(4, .int x33), (0, .long p0), (2, .int x20), (3, .int x21)]) C dX5_lettersIn_15 (by decide) rfl ?_
      refine zr_iload C dX5_lettersIn_17 0 rfl ?_
      refine zr_bipush (v := 126) C dX5_lettersIn_19 (by decide) ?_
      refine zr_icmp_gt (tgt := 34) C hf dX5_lettersIn_21 (by decide) (fun hf => ?_) (fun hf => ?_)
      · refine zsub [] rfl ?_
        exact J34 h32 hf
      · refine zr_iload C dX5_lettersIn_24 0 rfl ?_
        refine zr_if_eq (tgt := 36) C hf dX5_lettersIn_26 (by decide) (fun hf => ?_) (fun hf => ?_)
        · refine zsub [1, 2, 3, 0] rfl ?_
          exact J36 h32 x20 x21 x33 hf
        · refine zr_iload_n C dX5_lettersIn_29 rfl 2 rfl ?_
          refine zr_iload_n C dX5_lettersIn_30 rfl 3 rfl ?_
          refine zr_icmp_ge (tgt := 36) C hf dX5_lettersIn_31 (by decide) (fun hf => ?_) (fun hf => ?_)
          · refine zsub [1, 2, 3, 0] rfl ?_
            exact J36 h32 x20 x21 x33 hf
          · refine zsub [] rfl ?_
            exact J34 h32 hf
  refine zsub [2, 1, 0] rfl ?_
  exact L4 n (h, (0 : Int32), (0 : Int32)) hf
theorem dX5_append_0 : decode cX5_append 0 = .ok (.lload_n 1, 1) := by decide +kernel
theorem dX5_append_1 : decode cX5_append 1 = .ok (.invokestatic 19, 3) := by decide +kernel
theorem dX5_append_4 : decode cX5_append 4 = .ok (.istore_n 3, 1) := by decide +kernel
theorem dX5_append_5 : decode cX5_append 5 = .ok (.iload_n 3, 1) := by decide +kernel
theorem dX5_append_6 : decode cX5_append 6 = .ok (.ifCond .ge 6, 3) := by decide +kernel
theorem dX5_append_9 : decode cX5_append 9 = .ok (.bipush (-102), 2) := by decide +kernel
theorem dX5_append_11 : decode cX5_append 11 = .ok (.ireturn, 1) := by decide +kernel
theorem dX5_append_12 : decode cX5_append 12 = .ok (.aload_n 0, 1) := by decide +kernel
theorem dX5_append_13 : decode cX5_append 13 = .ok (.getfield 15, 3) := by decide +kernel
theorem dX5_append_16 : decode cX5_append 16 = .ok (.iload_n 3, 1) := by decide +kernel
theorem dX5_append_17 : decode cX5_append 17 = .ok (.iadd, 1) := by decide +kernel
theorem dX5_append_18 : decode cX5_append 18 = .ok (.bipush 50, 2) := by decide +kernel
theorem dX5_append_20 : decode cX5_append 20 = .ok (.if_icmp .le 6, 3) := by decide +kernel
theorem dX5_append_23 : decode cX5_append 23 = .ok (.bipush (-104), 2) := by decide +kernel
theorem dX5_append_25 : decode cX5_append 25 = .ok (.ireturn, 1) := by decide +kernel
theorem dX5_append_26 : decode cX5_append 26 = .ok (.iconst 0, 1) := by decide +kernel
theorem dX5_append_27 : decode cX5_append 27 = .ok (.istore 4, 2) := by decide +kernel
theorem dX5_append_29 : decode cX5_append 29 = .ok (.iload 4, 2) := by decide +kernel
theorem dX5_append_31 : decode cX5_append 31 = .ok (.iload_n 3, 1) := by decide +kernel
theorem dX5_append_32 : decode cX5_append 32 = .ok (.if_icmp .ge 34, 3) := by decide +kernel
theorem dX5_append_35 : decode cX5_append 35 = .ok (.aload_n 0, 1) := by decide +kernel
theorem dX5_append_36 : decode cX5_append 36 = .ok (.getfield 9, 3) := by decide +kernel
theorem dX5_append_39 : decode cX5_append 39 = .ok (.aload_n 0, 1) := by decide +kernel
theorem dX5_append_40 : decode cX5_append 40 = .ok (.getfield 15, 3) := by decide +kernel
theorem dX5_append_43 : decode cX5_append 43 = .ok (.lload_n 1, 1) := by decide +kernel
theorem dX5_append_44 : decode cX5_append 44 = .ok (.iload 4, 2) := by decide +kernel
theorem dX5_append_46 : decode cX5_append 46 = .ok (.invokestatic 23, 3) := by decide +kernel
theorem dX5_append_49 : decode cX5_append 49 = .ok (.iastore, 1) := by decide +kernel
theorem dX5_append_50 : decode cX5_append 50 = .ok (.aload_n 0, 1) := by decide +kernel
theorem dX5_append_51 : decode cX5_append 51 = .ok (.dup, 1) := by decide +kernel
theorem dX5_append_52 : decode cX5_append 52 = .ok (.getfield 15, 3) := by decide +kernel
theorem dX5_append_55 : decode cX5_append 55 = .ok (.iconst 1, 1) := by decide +kernel
theorem dX5_append_56 : decode cX5_append 56 = .ok (.iadd, 1) := by decide +kernel
theorem dX5_append_57 : decode cX5_append 57 = .ok (.putfield 15, 3) := by decide +kernel
theorem dX5_append_60 : decode cX5_append 60 = .ok (.iinc 4 1, 3) := by decide +kernel
theorem dX5_append_63 : decode cX5_append 63 = .ok (.goto (-34), 3) := by decide +kernel
theorem dX5_append_66 : decode cX5_append 66 = .ok (.aload_n 0, 1) := by decide +kernel
theorem dX5_append_67 : decode cX5_append 67 = .ok (.getfield 15, 3) := by decide +kernel
theorem dX5_append_70 : decode cX5_append 70 = .ok (.ireturn, 1) := by decide +kernel
set_option maxHeartbeats 4000000 in
set_option maxRecDepth 100000 in
theorem c_X5_append (l : Launch) (E : zE) (n : Nat) (h : zH) (a0 : Nat) (p0 : Int64) (res : Int32 × zH) (hf : F_X5_append n h a0 p0 = some res) : Met l yX5_append (zw yX5_append cX5_append 5 (some .int)) ({ frames := 2, cells := 0, slots := 0, locals := 46 } : Room) (zPc E h [.ref (zB E + a0), .long p0]) (zQc E res.2 (some (.int res.1))) 0 0 (zfr E) := by
  refine zmet (lo := [(0, .ref (zB E + a0)), (1, .long p0)]) (by decide +kernel) (Nat.le_of_ble_eq_true rfl) rfl ?_
  intro p e s m args below meth c C hr hin
  unfold F_X5_append at hf
  refine zr_lload_n C dX5_append_0 rfl 1 rfl ?_
  refine zr_callSi (As := [.long p0]) (rest := []) C hf (fun x hx => c_X5_lettersIn l E n h p0 x hx) ks_X5_19 rfl rfl (Nat.le_of_ble_eq_true rfl) ⟨rfl, rfl⟩ ⟨Nat.le_of_ble_eq_true rfl, Nat.le_of_ble_eq_true rfl⟩ ⟨Nat.le_of_ble_eq_true rfl, Nat.le_of_ble_eq_true rfl⟩ dX5_append_1 (fun x2 h1 hf => ?_)
  refine zr_istore_n (lo2 := [(3, .int x2), (0, .ref (zB E + a0)), (1, .long p0)]) C dX5_append_4 rfl (by decide) rfl ?_
  refine zr_iload_n C dX5_append_5 rfl 0 rfl ?_
  refine zr_if_ge (tgt := 12) C hf dX5_append_6 (by decide) (fun hf => ?_) (fun hf => ?_)
  · refine zr_aload_n C dX5_append_12 rfl 1 rfl ?_
    refine zr_gi C hf kg_X5_15 (fun _ _ _ => rfl) dX5_append_13 (fun x3 hf => ?_)
    refine zr_iload_n C dX5_append_16 rfl 0 rfl ?_
    refine zr_iadd C hf dX5_append_17 (fun x4 hf => ?_)
    refine zr_bipush (v := 50) C dX5_append_18 (by decide) ?_
    refine zr_icmp_le (tgt := 26) C hf dX5_append_20 (by decide) (fun hf => ?_) (fun hf => ?_)
    · refine zr_iconst (v := 0) C dX5_append_26 (by decide) ?_
      refine zr_istore (lo2 := [(4, .int (0 : Int32)), (3, .int x2), (0, .ref (zB E + a0)), (1, .long p0)]) C dX5_append_27 (by decide) rfl ?_
      have L29 : ∀ (fu : Nat) (x : zH × Int32), zloop (fun kc x => F_X5_append_B29 n kc x.1 a0 p0 x2 x.2) fu x = some res → zW p l e (headSpec (zw yX5_append cX5_append 5 (some .int)) ({ frames := 2, cells := 0, slots := 0, locals := 46 } : Room)).room s m args below meth c E 5 (MQ below (zQc E res.2 (some (.int res.1))) args s 0 0 (zfr E)) 0 0 29 [(0, .ref (zB E + a0)), (1, .long p0), (3, .int x2), (4, .int x.2)] [] x.1 := by
        refine z_loop _ ?_
        intro kc29 hk29 x hf
        obtain ⟨h21, x20⟩ := x
        dsimp only at hf ⊢
        unfold F_X5_append_B29 at hf
        refine zr_iload C dX5_append_29 3 rfl ?_
        refine zr_iload_n C dX5_append_31 rfl 2 rfl ?_
        refine zr_icmp_ge (tgt := 66) C hf dX5_append_32 (by decide) (fun hf => ?_) (fun hf => ?_)
        · refine zr_aload_n C dX5_append_66 rfl 0 rfl ?_
          refine zr_gi C hf kg_X5_15 (fun _ _ _ => rfl) dX5_append_67 (fun x22 hf => ?_)
          exact zr_ireturn C hf hr (Nat.le_of_ble_eq_true rfl) (Nat.le_of_ble_eq_true rfl) dX5_append_70
        · refine zr_aload_n C dX5_append_35 rfl 0 rfl ?_
          refine zr_gr C hf kg_X5_9 (fun _ _ _ => rfl) dX5_append_36 (fun w23 hf => ?_)
          refine zr_aload_n C dX5_append_39 rfl 0 rfl ?_
          refine zr_gi C hf kg_X5_15 (fun _ _ _ => rfl) dX5_append_40 (fun x24 hf => ?_)
          refine zr_lload_n C dX5_append_43 rfl 1 rfl ?_
          refine zr_iload C dX5_append_44 3 rfl ?_
          refine zr_callSi (As := [.long p0, .int x20]) (rest := [.int x24, .ref (zB E + w23)]) C hf (fun x hx => c_X5_byteOf l E n h21 p0 x20 x hx) ks_X5_23 rfl rfl (Nat.le_of_ble_eq_true rfl) ⟨rfl, rfl⟩ ⟨Nat.le_of_ble_eq_true rfl, Nat.le_of_ble_eq_true rfl⟩ ⟨Nat.le_of_ble_eq_true rfl, Nat.le_of_ble_eq_true rfl⟩ dX5_append_46 (fun x26 h25 hf => ?_)
          refine zr_iastore C hf dX5_append_49 (fun h27 hf => ?_)
          refine zr_aload_n C dX5_append_50 rfl 0 rfl ?_
          refine zr_dup C dX5_append_51 rfl ?_
          refine zr_gi C hf kg_X5_15 (fun _ _ _ => rfl) dX5_append_52 (fun x28 hf => ?_)
          refine zr_iconst (v := 1) C dX5_append_55 (by decide) ?_
          refine zr_iadd C hf dX5_append_56 (fun x29 hf => ?_)
          refine zr_si C hf kp_X5_15 (fun _ _ _ => rfl) rfl dX5_append_57 (fun h30 hf => ?_)
          refine zr_iinc (v0 := 1) (k := 3) (f := fun v => [(4, .int v), (0, .ref (zB E + a0)), (1, .long p0), (3, .int x2)]) C hf (by decide) dX5_append_60 rfl (by decide) (fun v => rfl) (fun x31 hf => ?_)
          refine zr_goto (tgt := 29) C dX5_append_63 (by decide) ?_
          refine zsub [1, 2, 3, 0] rfl ?_
          exact hk29 (h30, x31) hf
      refine zsub [2, 3, 1, 0] rfl ?_
      exact L29 n (h1, (0 : Int32)) hf
    · refine zr_bipush (v := -104) C dX5_append_23 (by decide) ?_
      exact zr_ireturn C hf hr (Nat.le_of_ble_eq_true rfl) (Nat.le_of_ble_eq_true rfl) dX5_append_25
  · refine zr_bipush (v := -102) C dX5_append_9 (by decide) ?_
    exact zr_ireturn C hf hr (Nat.le_of_ble_eq_true rfl) (Nat.le_of_ble_eq_true rfl) dX5_append_11
theorem dX10_letters_0 : decode cX10_letters 0 = .ok (.aload_n 0, 1) := by decide +kernel
theorem dX10_letters_1 : decode cX10_letters 1 = .ok (.getfield 10, 3) := by decide +kernel
theorem dX10_letters_4 : decode cX10_letters 4 = .ok (.lload_n 1, 1) := by decide +kernel
theorem dX10_letters_5 : decode cX10_letters 5 = .ok (.invokevirtual 113, 3) := by decide +kernel
theorem dX10_letters_8 : decode cX10_letters 8 = .ok (.ireturn, 1) := by decide +kernel
set_option maxHeartbeats 4000000 in
set_option maxRecDepth 100000 in
theorem c_X10_letters (l : Launch) (E : zE) (n : Nat) (h : zH) (a0 : Nat) (p0 : Int64) (res : Int32 × zH) (hf : F_X10_letters n h a0 p0 = some res) : Met l yX10_letters (zw yX10_letters cX10_letters 3 (some .int)) ({ frames := 3, cells := 0, slots := 0, locals := 70 } : Room) (zPc E h [.ref (zB E + a0), .long p0]) (zQc E res.2 (some (.int res.1))) 0 0 (zfr E) := by
  refine zmet (lo := [(0, .ref (zB E + a0)), (1, .long p0)]) (by decide +kernel) (Nat.le_of_ble_eq_true rfl) rfl ?_
  intro p e s m args below meth c C hr hin
  unfold F_X10_letters at hf
  refine zr_aload_n C dX10_letters_0 rfl 0 rfl ?_
  refine zr_gr C hf kg_X10_10 (fun _ _ _ => rfl) dX10_letters_1 (fun w1 hf => ?_)
  refine zr_lload_n C dX10_letters_4 rfl 1 rfl ?_
  refine zr_callVi (As := [.long p0]) (rest := []) C hf (fun x hx => c_X5_append l E n h w1 p0 x hx) kv_X10_113 rfl rfl (Nat.le_of_ble_eq_true rfl) ⟨rfl, rfl⟩ ⟨Nat.le_of_ble_eq_true rfl, Nat.le_of_ble_eq_true rfl⟩ ⟨Nat.le_of_ble_eq_true rfl, Nat.le_of_ble_eq_true rfl⟩ dX10_letters_5 (fun x3 h2 hf => ?_)
  exact zr_ireturn C hf hr (Nat.le_of_ble_eq_true rfl) (Nat.le_of_ble_eq_true rfl) dX10_letters_8
theorem dX5_clear_0 : decode cX5_clear 0 = .ok (.aload_n 0, 1) := by decide +kernel
theorem dX5_clear_1 : decode cX5_clear 1 = .ok (.getfield 15, 3) := by decide +kernel
theorem dX5_clear_4 : decode cX5_clear 4 = .ok (.istore_n 1, 1) := by decide +kernel
theorem dX5_clear_5 : decode cX5_clear 5 = .ok (.aload_n 0, 1) := by decide +kernel
theorem dX5_clear_6 : decode cX5_clear 6 = .ok (.iconst 0, 1) := by decide +kernel
theorem dX5_clear_7 : decode cX5_clear 7 = .ok (.putfield 15, 3) := by decide +kernel
theorem dX5_clear_10 : decode cX5_clear 10 = .ok (.iload_n 1, 1) := by decide +kernel
theorem dX5_clear_11 : decode cX5_clear 11 = .ok (.ireturn, 1) := by decide +kernel
set_option maxHeartbeats 4000000 in
set_option maxRecDepth 100000 in
theorem c_X5_clear (l : Launch) (E : zE) (n : Nat) (h : zH) (a0 : Nat) (res : Int32 × zH) (hf : F_X5_clear n h a0 = some res) : Met l yX5_clear (zw yX5_clear cX5_clear 2 (some .int)) ({ frames := 0, cells := 0, slots := 0, locals := 0 } : Room) (zPc E h [.ref (zB E + a0)]) (zQc E res.2 (some (.int res.1))) 0 0 (zfr E) := by
  refine zmet (lo := [(0, .ref (zB E + a0))]) (by decide +kernel) (Nat.le_of_ble_eq_true rfl) rfl ?_
  intro p e s m args below meth c C hr hin
  unfold F_X5_clear at hf
  refine zr_aload_n C dX5_clear_0 rfl 0 rfl ?_
  refine zr_gi C hf kg_X5_15 (fun _ _ _ => rfl) dX5_clear_1 (fun x1 hf => ?_)
  refine zr_istore_n (lo2 := [(1, .int x1), (0, .ref (zB E + a0))]) C dX5_clear_4 rfl (by decide) rfl ?_
  refine zr_aload_n C dX5_clear_5 rfl 1 rfl ?_
  refine zr_iconst (v := 0) C dX5_clear_6 (by decide) ?_
  refine zr_si C hf kp_X5_15 (fun _ _ _ => rfl) rfl dX5_clear_7 (fun h2 hf => ?_)
  refine zr_iload_n C dX5_clear_10 rfl 0 rfl ?_
  exact zr_ireturn C hf hr (Nat.le_of_ble_eq_true rfl) (Nat.le_of_ble_eq_true rfl) dX5_clear_11
theorem dX10_blank_0 : decode cX10_blank 0 = .ok (.aload_n 0, 1) := by decide +kernel
theorem dX10_blank_1 : decode cX10_blank 1 = .ok (.getfield 10, 3) := by decide +kernel
theorem dX10_blank_4 : decode cX10_blank 4 = .ok (.invokevirtual 117, 3) := by decide +kernel
theorem dX10_blank_7 : decode cX10_blank 7 = .ok (.ireturn, 1) := by decide +kernel
set_option maxHeartbeats 4000000 in
set_option maxRecDepth 100000 in
theorem c_X10_blank (l : Launch) (E : zE) (n : Nat) (h : zH) (a0 : Nat) (res : Int32 × zH) (hf : F_X10_blank n h a0 = some res) : Met l yX10_blank (zw yX10_blank cX10_blank 1 (some .int)) ({ frames := 1, cells := 0, slots := 0, locals := 21 } : Room) (zPc E h [.ref (zB E + a0)]) (zQc E res.2 (some (.int res.1))) 0 0 (zfr E) := by
  refine zmet (lo := [(0, .ref (zB E + a0))]) (by decide +kernel) (Nat.le_of_ble_eq_true rfl) rfl ?_
  intro p e s m args below meth c C hr hin
  unfold F_X10_blank at hf
  refine zr_aload_n C dX10_blank_0 rfl 0 rfl ?_
  refine zr_gr C hf kg_X10_10 (fun _ _ _ => rfl) dX10_blank_1 (fun w1 hf => ?_)
  refine zr_callVi (As := []) (rest := []) C hf (fun x hx => c_X5_clear l E n h w1 x hx) kv_X10_117 rfl rfl (Nat.le_of_ble_eq_true rfl) ⟨rfl, rfl⟩ ⟨Nat.le_of_ble_eq_true rfl, Nat.le_of_ble_eq_true rfl⟩ ⟨Nat.le_of_ble_eq_true rfl, Nat.le_of_ble_eq_true rfl⟩ dX10_blank_4 (fun x3 h2 hf => ?_)
  exact zr_ireturn C hf hr (Nat.le_of_ble_eq_true rfl) (Nat.le_of_ble_eq_true rfl) dX10_blank_7
theorem dX1_begin_0 : decode cX1_begin 0 = .ok (.aload_n 0, 1) := by decide +kernel
theorem dX1_begin_1 : decode cX1_begin 1 = .ok (.iconst 0, 1) := by decide +kernel
theorem dX1_begin_2 : decode cX1_begin 2 = .ok (.putfield 13, 3) := by decide +kernel
theorem dX1_begin_5 : decode cX1_begin 5 = .ok (.iconst 0, 1) := by decide +kernel
theorem dX1_begin_6 : decode cX1_begin 6 = .ok (.istore_n 1, 1) := by decide +kernel
theorem dX1_begin_7 : decode cX1_begin 7 = .ok (.iload_n 1, 1) := by decide +kernel
theorem dX1_begin_8 : decode cX1_begin 8 = .ok (.iconst 5, 1) := by decide +kernel
theorem dX1_begin_9 : decode cX1_begin 9 = .ok (.if_icmp .gt 16, 3) := by decide +kernel
theorem dX1_begin_12 : decode cX1_begin 12 = .ok (.aload_n 0, 1) := by decide +kernel
theorem dX1_begin_13 : decode cX1_begin 13 = .ok (.getfield 9, 3) := by decide +kernel
theorem dX1_begin_16 : decode cX1_begin 16 = .ok (.iload_n 1, 1) := by decide +kernel
theorem dX1_begin_17 : decode cX1_begin 17 = .ok (.iconst 0, 1) := by decide +kernel
theorem dX1_begin_18 : decode cX1_begin 18 = .ok (.iastore, 1) := by decide +kernel
theorem dX1_begin_19 : decode cX1_begin 19 = .ok (.iinc 1 1, 3) := by decide +kernel
theorem dX1_begin_22 : decode cX1_begin 22 = .ok (.goto (-15), 3) := by decide +kernel
theorem dX1_begin_25 : decode cX1_begin 25 = .ok (.return_, 1) := by decide +kernel
set_option maxHeartbeats 4000000 in
set_option maxRecDepth 100000 in
theorem c_X1_begin (l : Launch) (E : zE) (n : Nat) (h : zH) (a0 : Nat) (res : Unit × zH) (hf : F_X1_begin n h a0 = some res) : Met l yX1_begin (zw yX1_begin cX1_begin 2 none) ({ frames := 0, cells := 0, slots := 0, locals := 0 } : Room) (zPc E h [.ref (zB E + a0)]) (zQc E res.2 none) 0 0 (zfr E) := by
  refine zmet (lo := [(0, .ref (zB E + a0))]) (by decide +kernel) (Nat.le_of_ble_eq_true rfl) rfl ?_
  intro p e s m args below meth c C hr hin
  unfold F_X1_begin at hf
  refine zr_aload_n C dX1_begin_0 rfl 0 rfl ?_
  refine zr_iconst (v := 0) C dX1_begin_1 (by decide) ?_
  refine zr_si C hf kp_X1_13 (fun _ _ _ => rfl) rfl dX1_begin_2 (fun h1 hf => ?_)
  refine zr_iconst (v := 0) C dX1_begin_5 (by decide) ?_
  refine zr_istore_n (lo2 := [(1, .int (0 : Int32)), (0, .ref (zB E + a0))]) C dX1_begin_6 rfl (by decide) rfl ?_
  have L7 : ∀ (fu : Nat) (x : zH × Int32), zloop (fun kc x => F_X1_begin_B7 n kc x.1 a0 x.2) fu x = some res → zW p l e (headSpec (zw yX1_begin cX1_begin 2 none) ({ frames := 0, cells := 0, slots := 0, locals := 0 } : Room)).room s m args below meth c E 2 (MQ below (zQc E res.2 none) args s 0 0 (zfr E)) 0 0 7 [(0, .ref (zB E + a0)), (1, .int x.2)] [] x.1 := by
    refine z_loop _ ?_
    intro kc7 hk7 x hf
    obtain ⟨h9, x8⟩ := x
    dsimp only at hf ⊢
    unfold F_X1_begin_B7 at hf
    refine zr_iload_n C dX1_begin_7 rfl 1 rfl ?_
    refine zr_iconst (v := 5) C dX1_begin_8 (by decide) ?_
    refine zr_icmp_gt (tgt := 25) C hf dX1_begin_9 (by decide) (fun hf => ?_) (fun hf => ?_)
    · exact zr_return C hf hr (Nat.le_of_ble_eq_true rfl) (Nat.le_of_ble_eq_true rfl) dX1_begin_25
    · refine zr_aload_n C dX1_begin_12 rfl 0 rfl ?_
      refine zr_gr C hf kg_X1_9 (fun _ _ _ => rfl) dX1_begin_13 (fun w10 hf => ?_)
      refine zr_iload_n C dX1_begin_16 rfl 1 rfl ?_
      refine zr_iconst (v := 0) C dX1_begin_17 (by decide) ?_
      refine zr_iastore C hf dX1_begin_18 (fun h11 hf => ?_)
      refine zr_iinc (v0 := 1) (k := 1) (f := fun v => [(1, .int v), (0, .ref (zB E + a0))]) C hf (by decide) dX1_begin_19 rfl (by decide) (fun v => rfl) (fun x12 hf => ?_)
      refine zr_goto (tgt := 7) C dX1_begin_22 (by decide) ?_
      refine zsub [1, 0] rfl ?_
      exact hk7 (h11, x12) hf
  refine zsub [1, 0] rfl ?_
  exact L7 n (h1, (0 : Int32)) hf
theorem dX7_begin_0 : decode cX7_begin 0 = .ok (.aload_n 0, 1) := by decide +kernel
theorem dX7_begin_1 : decode cX7_begin 1 = .ok (.iconst 0, 1) := by decide +kernel
theorem dX7_begin_2 : decode cX7_begin 2 = .ok (.putfield 25, 3) := by decide +kernel
theorem dX7_begin_5 : decode cX7_begin 5 = .ok (.aload_n 0, 1) := by decide +kernel
theorem dX7_begin_6 : decode cX7_begin 6 = .ok (.iconst 0, 1) := by decide +kernel
theorem dX7_begin_7 : decode cX7_begin 7 = .ok (.putfield 29, 3) := by decide +kernel
theorem dX7_begin_10 : decode cX7_begin 10 = .ok (.return_, 1) := by decide +kernel
set_option maxHeartbeats 4000000 in
set_option maxRecDepth 100000 in
theorem c_X7_begin (l : Launch) (E : zE) (n : Nat) (h : zH) (a0 : Nat) (res : Unit × zH) (hf : F_X7_begin n h a0 = some res) : Met l yX7_begin (zw yX7_begin cX7_begin 1 none) ({ frames := 0, cells := 0, slots := 0, locals := 0 } : Room) (zPc E h [.ref (zB E + a0)]) (zQc E res.2 none) 0 0 (zfr E) := by
  refine zmet (lo := [(0, .ref (zB E + a0))]) (by decide +kernel) (Nat.le_of_ble_eq_true rfl) rfl ?_
  intro p e s m args below meth c C hr hin
  unfold F_X7_begin at hf
  refine zr_aload_n C dX7_begin_0 rfl 0 rfl ?_
  refine zr_iconst (v := 0) C dX7_begin_1 (by decide) ?_
  refine zr_si C hf kp_X7_25 (fun _ _ _ => rfl) rfl dX7_begin_2 (fun h1 hf => ?_)
  refine zr_aload_n C dX7_begin_5 rfl 0 rfl ?_
  refine zr_iconst (v := 0) C dX7_begin_6 (by decide) ?_
  refine zr_si C hf kp_X7_29 (fun _ _ _ => rfl) rfl dX7_begin_7 (fun h2 hf => ?_)
  exact zr_return C hf hr (Nat.le_of_ble_eq_true rfl) (Nat.le_of_ble_eq_true rfl) dX7_begin_10
theorem dX8_begin_0 : decode cX8_begin 0 = .ok (.aload_n 0, 1) := by decide +kernel
theorem dX8_begin_1 : decode cX8_begin 1 = .ok (.iconst 0, 1) := by decide +kernel
theorem dX8_begin_2 : decode cX8_begin 2 = .ok (.putfield 18, 3) := by decide +kernel
theorem dX8_begin_5 : decode cX8_begin 5 = .ok (.aload_n 0, 1) := by decide +kernel
theorem dX8_begin_6 : decode cX8_begin 6 = .ok (.iconst 0, 1) := by decide +kernel
theorem dX8_begin_7 : decode cX8_begin 7 = .ok (.putfield 22, 3) := by decide +kernel
theorem dX8_begin_10 : decode cX8_begin 10 = .ok (.return_, 1) := by decide +kernel
set_option maxHeartbeats 4000000 in
set_option maxRecDepth 100000 in
theorem c_X8_begin (l : Launch) (E : zE) (n : Nat) (h : zH) (a0 : Nat) (res : Unit × zH) (hf : F_X8_begin n h a0 = some res) : Met l yX8_begin (zw yX8_begin cX8_begin 1 none) ({ frames := 0, cells := 0, slots := 0, locals := 0 } : Room) (zPc E h [.ref (zB E + a0)]) (zQc E res.2 none) 0 0 (zfr E) := by
  refine zmet (lo := [(0, .ref (zB E + a0))]) (by decide +kernel) (Nat.le_of_ble_eq_true rfl) rfl ?_
  intro p e s m args below meth c C hr hin
  unfold F_X8_begin at hf
  refine zr_aload_n C dX8_begin_0 rfl 0 rfl ?_
  refine zr_iconst (v := 0) C dX8_begin_1 (by decide) ?_
  refine zr_si C hf kp_X8_18 (fun _ _ _ => rfl) rfl dX8_begin_2 (fun h1 hf => ?_)
  refine zr_aload_n C dX8_begin_5 rfl 0 rfl ?_
  refine zr_iconst (v := 0) C dX8_begin_6 (by decide) ?_
  refine zr_si C hf kp_X8_22 (fun _ _ _ => rfl) rfl dX8_begin_7 (fun h2 hf => ?_)
  exact zr_return C hf hr (Nat.le_of_ble_eq_true rfl) (Nat.le_of_ble_eq_true rfl) dX8_begin_10
theorem dX9_digitOf_0 : decode cX9_digitOf 0 = .ok (.iload_n 0, 1) := by decide +kernel
theorem dX9_digitOf_1 : decode cX9_digitOf 1 = .ok (.bipush 48, 2) := by decide +kernel
theorem dX9_digitOf_3 : decode cX9_digitOf 3 = .ok (.if_icmp .lt 16, 3) := by decide +kernel
theorem dX9_digitOf_6 : decode cX9_digitOf 6 = .ok (.iload_n 0, 1) := by decide +kernel
theorem dX9_digitOf_7 : decode cX9_digitOf 7 = .ok (.bipush 57, 2) := by decide +kernel
theorem dX9_digitOf_9 : decode cX9_digitOf 9 = .ok (.if_icmp .gt 10, 3) := by decide +kernel
theorem dX9_digitOf_12 : decode cX9_digitOf 12 = .ok (.iload_n 0, 1) := by decide +kernel
theorem dX9_digitOf_13 : decode cX9_digitOf 13 = .ok (.bipush 48, 2) := by decide +kernel
theorem dX9_digitOf_15 : decode cX9_digitOf 15 = .ok (.isub, 1) := by decide +kernel
theorem dX9_digitOf_16 : decode cX9_digitOf 16 = .ok (.goto 4, 3) := by decide +kernel
theorem dX9_digitOf_19 : decode cX9_digitOf 19 = .ok (.iconst (-1), 1) := by decide +kernel
theorem dX9_digitOf_20 : decode cX9_digitOf 20 = .ok (.ireturn, 1) := by decide +kernel
set_option maxHeartbeats 4000000 in
set_option maxRecDepth 100000 in
theorem c_X9_digitOf (l : Launch) (E : zE) (n : Nat) (h : zH) (p0 : Int32) (res : Int32 × zH) (hf : F_X9_digitOf n h p0 = some res) : Met l yX9_digitOf (zw yX9_digitOf cX9_digitOf 1 (some .int)) ({ frames := 0, cells := 0, slots := 0, locals := 0 } : Room) (zPc E h [.int p0]) (zQc E res.2 (some (.int res.1))) 0 0 (zfr E) := by
  refine zmet (lo := [(0, .int p0)]) (by decide +kernel) (Nat.le_of_ble_eq_true rfl) rfl ?_
  intro p e s m args below meth c C hr hin
  unfold F_X9_digitOf at hf
  have J20 : ∀ (h4 : zH) (x3 : Int32), F_X9_digitOf_J20 n h4 x3 = some res → zW p l e (headSpec (zw yX9_digitOf cX9_digitOf 1 (some .int)) ({ frames := 0, cells := 0, slots := 0, locals := 0 } : Room)).room s m args below meth c E 1 (MQ below (zQc E res.2 (some (.int res.1))) args s 0 0 (zfr E)) 0 0 20 [] [.int x3] h4 := by
    intro h4 x3 hf
    unfold F_X9_digitOf_J20 at hf
    exact zr_ireturn C hf hr (Nat.le_of_ble_eq_true rfl) (Nat.le_of_ble_eq_true rfl) dX9_digitOf_20
  have J19 : ∀ (h6 : zH), F_X9_digitOf_J19 n h6 = some res → zW p l e (headSpec (zw yX9_digitOf cX9_digitOf 1 (some .int)) ({ frames := 0, cells := 0, slots := 0, locals := 0 } : Room)).room s m args below meth c E 1 (MQ below (zQc E res.2 (some (.int res.1))) args s 0 0 (zfr E)) 0 0 19 [] [] h6 := by
    intro h6 hf
    unfold F_X9_digitOf_J19 at hf
    refine zr_iconst (v := -1) C dX9_digitOf_19 (by decide) ?_
    exact J20 h6 (-1 : Int32) hf
  refine zr_iload_n C dX9_digitOf_0 rfl 0 rfl ?_
  refine zr_bipush (v := 48) C dX9_digitOf_1 (by decide) ?_
  refine zr_icmp_lt (tgt := 19) C hf dX9_digitOf_3 (by decide) (fun hf => ?_) (fun hf => ?_)
  · refine zsub [] rfl ?_
    exact J19 h hf
  · refine zr_iload_n C dX9_digitOf_6 rfl 0 rfl ?_
    refine zr_bipush (v := 57) C dX9_digitOf_7 (by decide) ?_
    refine zr_icmp_gt (tgt := 19) C hf dX9_digitOf_9 (by decide) (fun hf => ?_) (fun hf => ?_)
    · refine zsub [] rfl ?_
      exact J19 h hf
    · refine zr_iload_n C dX9_digitOf_12 rfl 0 rfl ?_
      refine zr_bipush (v := 48) C dX9_digitOf_13 (by decide) ?_
      refine zr_isub C hf dX9_digitOf_15 (fun x7 hf => ?_)
      refine zr_goto (tgt := 20) C dX9_digitOf_16 (by decide) ?_
      refine zsub [] rfl ?_
      exact J20 h x7 hf
theorem dX1_takes_0 : decode cX1_takes 0 = .ok (.aload_n 0, 1) := by decide +kernel
theorem dX1_takes_1 : decode cX1_takes 1 = .ok (.getfield 13, 3) := by decide +kernel
theorem dX1_takes_4 : decode cX1_takes 4 = .ok (.iconst 2, 1) := by decide +kernel
theorem dX1_takes_5 : decode cX1_takes 5 = .ok (.idiv, 1) := by decide +kernel
theorem dX1_takes_6 : decode cX1_takes 6 = .ok (.istore_n 2, 1) := by decide +kernel
theorem dX1_takes_7 : decode cX1_takes 7 = .ok (.iload_n 2, 1) := by decide +kernel
theorem dX1_takes_8 : decode cX1_takes 8 = .ok (.iconst 5, 1) := by decide +kernel
theorem dX1_takes_9 : decode cX1_takes 9 = .ok (.if_icmp .lt 47, 3) := by decide +kernel
theorem dX1_takes_12 : decode cX1_takes 12 = .ok (.aload_n 0, 1) := by decide +kernel
theorem dX1_takes_13 : decode cX1_takes 13 = .ok (.getfield 13, 3) := by decide +kernel
theorem dX1_takes_16 : decode cX1_takes 16 = .ok (.bipush 10, 2) := by decide +kernel
theorem dX1_takes_18 : decode cX1_takes 18 = .ok (.if_icmp .ne 13, 3) := by decide +kernel
theorem dX1_takes_21 : decode cX1_takes 21 = .ok (.iload_n 1, 1) := by decide +kernel
theorem dX1_takes_22 : decode cX1_takes 22 = .ok (.bipush 113, 2) := by decide +kernel
theorem dX1_takes_24 : decode cX1_takes 24 = .ok (.if_icmp .ne 7, 3) := by decide +kernel
theorem dX1_takes_27 : decode cX1_takes 27 = .ok (.iconst 1, 1) := by decide +kernel
theorem dX1_takes_28 : decode cX1_takes 28 = .ok (.goto 4, 3) := by decide +kernel
theorem dX1_takes_31 : decode cX1_takes 31 = .ok (.iconst 0, 1) := by decide +kernel
theorem dX1_takes_32 : decode cX1_takes 32 = .ok (.istore_n 3, 1) := by decide +kernel
theorem dX1_takes_33 : decode cX1_takes 33 = .ok (.aload_n 0, 1) := by decide +kernel
theorem dX1_takes_34 : decode cX1_takes 34 = .ok (.getfield 9, 3) := by decide +kernel
theorem dX1_takes_37 : decode cX1_takes 37 = .ok (.iconst 5, 1) := by decide +kernel
theorem dX1_takes_38 : decode cX1_takes 38 = .ok (.iload_n 3, 1) := by decide +kernel
theorem dX1_takes_39 : decode cX1_takes 39 = .ok (.ifCond .eq 7, 3) := by decide +kernel
theorem dX1_takes_42 : decode cX1_takes 42 = .ok (.iconst 1, 1) := by decide +kernel
theorem dX1_takes_43 : decode cX1_takes 43 = .ok (.goto 9, 3) := by decide +kernel
theorem dX1_takes_46 : decode cX1_takes 46 = .ok (.aload_n 0, 1) := by decide +kernel
theorem dX1_takes_47 : decode cX1_takes 47 = .ok (.getfield 9, 3) := by decide +kernel
theorem dX1_takes_50 : decode cX1_takes 50 = .ok (.iconst 5, 1) := by decide +kernel
theorem dX1_takes_51 : decode cX1_takes 51 = .ok (.iaload, 1) := by decide +kernel
theorem dX1_takes_52 : decode cX1_takes 52 = .ok (.iastore, 1) := by decide +kernel
theorem dX1_takes_53 : decode cX1_takes 53 = .ok (.goto 79, 3) := by decide +kernel
theorem dX1_takes_56 : decode cX1_takes 56 = .ok (.aload_n 0, 1) := by decide +kernel
theorem dX1_takes_57 : decode cX1_takes 57 = .ok (.getfield 13, 3) := by decide +kernel
theorem dX1_takes_60 : decode cX1_takes 60 = .ok (.iconst 2, 1) := by decide +kernel
theorem dX1_takes_61 : decode cX1_takes 61 = .ok (.irem, 1) := by decide +kernel
theorem dX1_takes_62 : decode cX1_takes 62 = .ok (.ifCond .ne 22, 3) := by decide +kernel
theorem dX1_takes_65 : decode cX1_takes 65 = .ok (.iload_n 1, 1) := by decide +kernel
theorem dX1_takes_66 : decode cX1_takes 66 = .ok (.ldc 17, 2) := by decide +kernel
theorem dX1_takes_68 : decode cX1_takes 68 = .ok (.iload_n 2, 1) := by decide +kernel
theorem dX1_takes_69 : decode cX1_takes 69 = .ok (.invokevirtual 19, 3) := by decide +kernel
theorem dX1_takes_72 : decode cX1_takes 72 = .ok (.if_icmp .ne 7, 3) := by decide +kernel
theorem dX1_takes_75 : decode cX1_takes 75 = .ok (.iconst 1, 1) := by decide +kernel
theorem dX1_takes_76 : decode cX1_takes 76 = .ok (.goto 4, 3) := by decide +kernel
theorem dX1_takes_79 : decode cX1_takes 79 = .ok (.iconst 0, 1) := by decide +kernel
theorem dX1_takes_80 : decode cX1_takes 80 = .ok (.istore_n 3, 1) := by decide +kernel
theorem dX1_takes_81 : decode cX1_takes 81 = .ok (.goto 51, 3) := by decide +kernel
theorem dX1_takes_84 : decode cX1_takes 84 = .ok (.iload_n 1, 1) := by decide +kernel
theorem dX1_takes_85 : decode cX1_takes 85 = .ok (.invokestatic 25, 3) := by decide +kernel
theorem dX1_takes_88 : decode cX1_takes 88 = .ok (.istore 4, 2) := by decide +kernel
theorem dX1_takes_90 : decode cX1_takes 90 = .ok (.iload 4, 2) := by decide +kernel
theorem dX1_takes_92 : decode cX1_takes 92 = .ok (.getstatic 29, 3) := by decide +kernel
theorem dX1_takes_95 : decode cX1_takes 95 = .ok (.iload_n 2, 1) := by decide +kernel
theorem dX1_takes_96 : decode cX1_takes 96 = .ok (.iaload, 1) := by decide +kernel
theorem dX1_takes_97 : decode cX1_takes 97 = .ok (.if_icmp .lt 17, 3) := by decide +kernel
theorem dX1_takes_100 : decode cX1_takes 100 = .ok (.iload 4, 2) := by decide +kernel
theorem dX1_takes_102 : decode cX1_takes 102 = .ok (.getstatic 32, 3) := by decide +kernel
theorem dX1_takes_105 : decode cX1_takes 105 = .ok (.iload_n 2, 1) := by decide +kernel
theorem dX1_takes_106 : decode cX1_takes 106 = .ok (.iaload, 1) := by decide +kernel
theorem dX1_takes_107 : decode cX1_takes 107 = .ok (.if_icmp .gt 7, 3) := by decide +kernel
theorem dX1_takes_110 : decode cX1_takes 110 = .ok (.iconst 1, 1) := by decide +kernel
theorem dX1_takes_111 : decode cX1_takes 111 = .ok (.goto 4, 3) := by decide +kernel
theorem dX1_takes_114 : decode cX1_takes 114 = .ok (.iconst 0, 1) := by decide +kernel
theorem dX1_takes_115 : decode cX1_takes 115 = .ok (.istore_n 3, 1) := by decide +kernel
theorem dX1_takes_116 : decode cX1_takes 116 = .ok (.aload_n 0, 1) := by decide +kernel
theorem dX1_takes_117 : decode cX1_takes 117 = .ok (.getfield 9, 3) := by decide +kernel
theorem dX1_takes_120 : decode cX1_takes 120 = .ok (.iload_n 2, 1) := by decide +kernel
theorem dX1_takes_121 : decode cX1_takes 121 = .ok (.iload_n 3, 1) := by decide +kernel
theorem dX1_takes_122 : decode cX1_takes 122 = .ok (.ifCond .eq 8, 3) := by decide +kernel
theorem dX1_takes_125 : decode cX1_takes 125 = .ok (.iload 4, 2) := by decide +kernel
theorem dX1_takes_127 : decode cX1_takes 127 = .ok (.goto 4, 3) := by decide +kernel
theorem dX1_takes_130 : decode cX1_takes 130 = .ok (.iconst 0, 1) := by decide +kernel
theorem dX1_takes_131 : decode cX1_takes 131 = .ok (.iastore, 1) := by decide +kernel
theorem dX1_takes_132 : decode cX1_takes 132 = .ok (.aload_n 0, 1) := by decide +kernel
theorem dX1_takes_133 : decode cX1_takes 133 = .ok (.dup, 1) := by decide +kernel
theorem dX1_takes_134 : decode cX1_takes 134 = .ok (.getfield 13, 3) := by decide +kernel
theorem dX1_takes_137 : decode cX1_takes 137 = .ok (.iload_n 3, 1) := by decide +kernel
theorem dX1_takes_138 : decode cX1_takes 138 = .ok (.ifCond .eq 7, 3) := by decide +kernel
theorem dX1_takes_141 : decode cX1_takes 141 = .ok (.iconst 1, 1) := by decide +kernel
theorem dX1_takes_142 : decode cX1_takes 142 = .ok (.goto 4, 3) := by decide +kernel
theorem dX1_takes_145 : decode cX1_takes 145 = .ok (.iconst 0, 1) := by decide +kernel
theorem dX1_takes_146 : decode cX1_takes 146 = .ok (.iadd, 1) := by decide +kernel
theorem dX1_takes_147 : decode cX1_takes 147 = .ok (.putfield 13, 3) := by decide +kernel
theorem dX1_takes_150 : decode cX1_takes 150 = .ok (.iload_n 3, 1) := by decide +kernel
theorem dX1_takes_151 : decode cX1_takes 151 = .ok (.ireturn, 1) := by decide +kernel
set_option maxHeartbeats 4000000 in
set_option maxRecDepth 100000 in
theorem c_X1_takes (l : Launch) (E : zE) (n : Nat) (h : zH) (a0 : Nat) (p0 : Int32) (res : Int32 × zH) (hf : F_X1_takes n h a0 p0 = some res) : Met l yX1_takes (zw yX1_takes cX1_takes 5 (some .boolean)) ({ frames := 4, cells := 0, slots := 0, locals := 120 } : Room) (zPc E h [.ref (zB E + a0), .int p0]) (zQc E res.2 (some (.int res.1))) 0 0 (zfr E) := by
  refine zmet (lo := [(0, .ref (zB E + a0)), (1, .int p0)]) (by decide +kernel) (Nat.le_of_ble_eq_true rfl) rfl ?_
  intro p e s m args below meth c C hr hin
  unfold F_X1_takes at hf
  have J146 : ∀ (h12 : zH) (x8 : Int32) (w9 : Nat) (x10 : Int32) (x11 : Int32), F_X1_takes_J146 n h12 x8 w9 x10 x11 = some res → zW p l e (headSpec (zw yX1_takes cX1_takes 5 (some .boolean)) ({ frames := 4, cells := 0, slots := 0, locals := 120 } : Room)).room s m args below meth c E 5 (MQ below (zQc E res.2 (some (.int res.1))) args s 0 0 (zfr E)) 0 0 146 [(3, .int x8)] [.int x11, .int x10, .ref (zB E + w9)] h12 := by
    intro h12 x8 w9 x10 x11 hf
    unfold F_X1_takes_J146 at hf
    refine zr_iadd C hf dX1_takes_146 (fun x13 hf => ?_)
    refine zr_si C hf kp_X1_13 (fun _ _ _ => rfl) rfl dX1_takes_147 (fun h14 hf => ?_)
    refine zr_iload_n C dX1_takes_150 rfl 0 rfl ?_
    exact zr_zreturn C hf hr (Nat.le_of_ble_eq_true rfl) (Nat.le_of_ble_eq_true rfl) dX1_takes_151
  have J132 : ∀ (h21 : zH) (w19 : Nat) (x20 : Int32), F_X1_takes_J132 n h21 w19 x20 = some res → zW p l e (headSpec (zw yX1_takes cX1_takes 5 (some .boolean)) ({ frames := 4, cells := 0, slots := 0, locals := 120 } : Room)).room s m args below meth c E 5 (MQ below (zQc E res.2 (some (.int res.1))) args s 0 0 (zfr E)) 0 0 132 [(0, .ref (zB E + w19)), (3, .int x20)] [] h21 := by
    intro h21 w19 x20 hf
    unfold F_X1_takes_J132 at hf
    refine zr_aload_n C dX1_takes_132 rfl 0 rfl ?_
    refine zr_dup C dX1_takes_133 rfl ?_
    refine zr_gi C hf kg_X1_13 (fun _ _ _ => rfl) dX1_takes_134 (fun x22 hf => ?_)
    refine zr_iload_n C dX1_takes_137 rfl 1 rfl ?_
    refine zr_if_eq (tgt := 145) C hf dX1_takes_138 (by decide) (fun hf => ?_) (fun hf => ?_)
    · refine zr_iconst (v := 0) C dX1_takes_145 (by decide) ?_
      refine zsub [1] rfl ?_
      exact J146 h21 x20 w19 x22 (0 : Int32) hf
    · refine zr_iconst (v := 1) C dX1_takes_141 (by decide) ?_
      refine zr_goto (tgt := 146) C dX1_takes_142 (by decide) ?_
      refine zsub [1] rfl ?_
      exact J146 h21 x20 w19 x22 (1 : Int32) hf
  have J131 : ∀ (h35 : zH) (w30 : Nat) (x31 : Int32) (w32 : Nat) (x33 : Int32) (x34 : Int32), F_X1_takes_J131 n h35 w30 x31 w32 x33 x34 = some res → zW p l e (headSpec (zw yX1_takes cX1_takes 5 (some .boolean)) ({ frames := 4, cells := 0, slots := 0, locals := 120 } : Room)).room s m args below meth c E 5 (MQ below (zQc E res.2 (some (.int res.1))) args s 0 0 (zfr E)) 0 0 131 [(0, .ref (zB E + w30)), (3, .int x31)] [.int x34, .int x33, .ref (zB E + w32)] h35 := by
    intro h35 w30 x31 w32 x33 x34 hf
    unfold F_X1_takes_J131 at hf
    refine zr_iastore C hf dX1_takes_131 (fun h36 hf => ?_)
    exact J132 h36 w30 x31 hf
  have J115 : ∀ (h47 : zH) (w43 : Nat) (x44 : Int32) (x45 : Int32) (x46 : Int32), F_X1_takes_J115 n h47 w43 x44 x45 x46 = some res → zW p l e (headSpec (zw yX1_takes cX1_takes 5 (some .boolean)) ({ frames := 4, cells := 0, slots := 0, locals := 120 } : Room)).room s m args below meth c E 5 (MQ below (zQc E res.2 (some (.int res.1))) args s 0 0 (zfr E)) 0 0 115 [(0, .ref (zB E + w43)), (2, .int x44), (4, .int x45)] [.int x46] h47 := by
    intro h47 w43 x44 x45 x46 hf
    unfold F_X1_takes_J115 at hf
    refine zr_istore_n (lo2 := [(3, .int x46), (0, .ref (zB E + w43)), (2, .int x44), (4, .int x45)]) C dX1_takes_115 rfl (by decide) rfl ?_
    refine zr_aload_n C dX1_takes_116 rfl 1 rfl ?_
    refine zr_gr C hf kg_X1_9 (fun _ _ _ => rfl) dX1_takes_117 (fun w48 hf => ?_)
    refine zr_iload_n C dX1_takes_120 rfl 2 rfl ?_
    refine zr_iload_n C dX1_takes_121 rfl 0 rfl ?_
    refine zr_if_eq (tgt := 130) C hf dX1_takes_122 (by decide) (fun hf => ?_) (fun hf => ?_)
    · refine zr_iconst (v := 0) C dX1_takes_130 (by decide) ?_
      refine zsub [1, 0] rfl ?_
      exact J131 h47 w43 x46 w48 x44 (0 : Int32) hf
    · refine zr_iload C dX1_takes_125 3 rfl ?_
      refine zr_goto (tgt := 131) C dX1_takes_127 (by decide) ?_
      refine zsub [1, 0] rfl ?_
      exact J131 h47 w43 x46 w48 x44 x45 hf
  have J114 : ∀ (h56 : zH) (w53 : Nat) (x54 : Int32) (x55 : Int32), F_X1_takes_J114 n h56 w53 x54 x55 = some res → zW p l e (headSpec (zw yX1_takes cX1_takes 5 (some .boolean)) ({ frames := 4, cells := 0, slots := 0, locals := 120 } : Room)).room s m args below meth c E 5 (MQ below (zQc E res.2 (some (.int res.1))) args s 0 0 (zfr E)) 0 0 114 [(0, .ref (zB E + w53)), (2, .int x54), (4, .int x55)] [] h56 := by
    intro h56 w53 x54 x55 hf
    unfold F_X1_takes_J114 at hf
    refine zr_iconst (v := 0) C dX1_takes_114 (by decide) ?_
    exact J115 h56 w53 x54 x55 (0 : Int32) hf
  have J80 : ∀ (h62 : zH) (w60 : Nat) (x61 : Int32), F_X1_takes_J80 n h62 w60 x61 = some res → zW p l e (headSpec (zw yX1_takes cX1_takes 5 (some .boolean)) ({ frames := 4, cells := 0, slots := 0, locals := 120 } : Room)).room s m args below meth c E 5 (MQ below (zQc E res.2 (some (.int res.1))) args s 0 0 (zfr E)) 0 0 80 [(0, .ref (zB E + w60))] [.int x61] h62 := by
    intro h62 w60 x61 hf
    unfold F_X1_takes_J80 at hf
    refine zr_istore_n (lo2 := [(3, .int x61), (0, .ref (zB E + w60))]) C dX1_takes_80 rfl (by decide) rfl ?_
    refine zr_goto (tgt := 132) C dX1_takes_81 (by decide) ?_
    refine zsub [1, 0] rfl ?_
    exact J132 h62 w60 x61 hf
  have J52 : ∀ (h75 : zH) (w70 : Nat) (x71 : Int32) (w72 : Nat) (x73 : Int32) (x74 : Int32), F_X1_takes_J52 n h75 w70 x71 w72 x73 x74 = some res → zW p l e (headSpec (zw yX1_takes cX1_takes 5 (some .boolean)) ({ frames := 4, cells := 0, slots := 0, locals := 120 } : Room)).room s m args below meth c E 5 (MQ below (zQc E res.2 (some (.int res.1))) args s 0 0 (zfr E)) 0 0 52 [(0, .ref (zB E + w70)), (3, .int x71)] [.int x74, .int x73, .ref (zB E + w72)] h75 := by
    intro h75 w70 x71 w72 x73 x74 hf
    unfold F_X1_takes_J52 at hf
    refine zr_iastore C hf dX1_takes_52 (fun h76 hf => ?_)
    refine zr_goto (tgt := 132) C dX1_takes_53 (by decide) ?_
    exact J132 h76 w70 x71 hf
  have J32 : ∀ (h85 : zH) (w83 : Nat) (x84 : Int32), F_X1_takes_J32 n h85 w83 x84 = some res → zW p l e (headSpec (zw yX1_takes cX1_takes 5 (some .boolean)) ({ frames := 4, cells := 0, slots := 0, locals := 120 } : Room)).room s m args below meth c E 5 (MQ below (zQc E res.2 (some (.int res.1))) args s 0 0 (zfr E)) 0 0 32 [(0, .ref (zB E + w83))] [.int x84] h85 := by
    intro h85 w83 x84 hf
    unfold F_X1_takes_J32 at hf
    refine zr_istore_n (lo2 := [(3, .int x84), (0, .ref (zB E + w83))]) C dX1_takes_32 rfl (by decide) rfl ?_
    refine zr_aload_n C dX1_takes_33 rfl 1 rfl ?_
    refine zr_gr C hf kg_X1_9 (fun _ _ _ => rfl) dX1_takes_34 (fun w86 hf => ?_)
    refine zr_iconst (v := 5) C dX1_takes_37 (by decide) ?_
    refine zr_iload_n C dX1_takes_38 rfl 0 rfl ?_
    refine zr_if_eq (tgt := 46) C hf dX1_takes_39 (by decide) (fun hf => ?_) (fun hf => ?_)
    · refine zr_aload_n C dX1_takes_46 rfl 1 rfl ?_
      refine zr_gr C hf kg_X1_9 (fun _ _ _ => rfl) dX1_takes_47 (fun w87 hf => ?_)
      refine zr_iconst (v := 5) C dX1_takes_50 (by decide) ?_
      refine zr_iaload C hf dX1_takes_51 (fun x88 hf => ?_)
      refine zsub [1, 0] rfl ?_
      exact J52 h85 w83 x84 w86 (5 : Int32) x88 hf
    · refine zr_iconst (v := 1) C dX1_takes_42 (by decide) ?_
      refine zr_goto (tgt := 52) C dX1_takes_43 (by decide) ?_
      refine zsub [1, 0] rfl ?_
      exact J52 h85 w83 x84 w86 (5 : Int32) (1 : Int32) hf
  have J31 : ∀ (h92 : zH) (w91 : Nat), F_X1_takes_J31 n h92 w91 = some res → zW p l e (headSpec (zw yX1_takes cX1_takes 5 (some .boolean)) ({ frames := 4, cells := 0, slots := 0, locals := 120 } : Room)).room s m args below meth c E 5 (MQ below (zQc E res.2 (some (.int res.1))) args s 0 0 (zfr E)) 0 0 31 [(0, .ref (zB E + w91))] [] h92 := by
    intro h92 w91 hf
    unfold F_X1_takes_J31 at hf
    refine zr_iconst (v := 0) C dX1_takes_31 (by decide) ?_
    exact J32 h92 w91 (0 : Int32) hf
  refine zr_aload_n C dX1_takes_0 rfl 0 rfl ?_
  refine zr_gi C hf kg_X1_13 (fun _ _ _ => rfl) dX1_takes_1 (fun x93 hf => ?_)
  refine zr_iconst (v := 2) C dX1_takes_4 (by decide) ?_
  refine zr_idiv C hf dX1_takes_5 (fun x94 hf => ?_)
  refine zr_istore_n (lo2 := [(2, .int x94), (0, .ref (zB E + a0)), (1, .int p0)]) C dX1_takes_6 rfl (by decide) rfl ?_
  refine zr_iload_n C dX1_takes_7 rfl 0 rfl ?_
  refine zr_iconst (v := 5) C dX1_takes_8 (by decide) ?_
  refine zr_icmp_lt (tgt := 56) C hf dX1_takes_9 (by decide) (fun hf => ?_) (fun hf => ?_)
  · refine zr_aload_n C dX1_takes_56 rfl 1 rfl ?_
    refine zr_gi C hf kg_X1_13 (fun _ _ _ => rfl) dX1_takes_57 (fun x95 hf => ?_)
    refine zr_iconst (v := 2) C dX1_takes_60 (by decide) ?_
    refine zr_irem C hf dX1_takes_61 (fun x96 hf => ?_)
    refine zr_if_ne (tgt := 84) C hf dX1_takes_62 (by decide) (fun hf => ?_) (fun hf => ?_)
    · refine zr_iload_n C dX1_takes_84 rfl 2 rfl ?_
      refine zr_callSUi (As := [.int p0]) (rest := []) C hf (fun x hx => c_X9_digitOf l E n h p0 x hx) ku_X1_25 rfl rfl (Nat.le_of_ble_eq_true rfl) ⟨rfl, rfl⟩ ⟨Nat.le_of_ble_eq_true rfl, Nat.le_of_ble_eq_true rfl⟩ ⟨Nat.le_of_ble_eq_true rfl, Nat.le_of_ble_eq_true rfl⟩ dX1_takes_85 (fun x98 h97 hf => ?_)
      refine zr_istore (lo2 := [(4, .int x98), (2, .int x94), (0, .ref (zB E + a0)), (1, .int p0)]) C dX1_takes_88 (by decide) rfl ?_
      refine zr_iload C dX1_takes_90 0 rfl ?_
      refine zr_least C zt434 dX1_takes_92 ?_
      refine zr_iload_n C dX1_takes_95 rfl 1 rfl ?_
      refine zr_tab0 C hf dX1_takes_96 (fun x99 hf => ?_)
      refine zr_icmp_lt (tgt := 114) C hf dX1_takes_97 (by decide) (fun hf => ?_) (fun hf => ?_)
      · refine zsub [2, 1, 0] rfl ?_
        exact J114 h97 a0 x94 x98 hf
      · refine zr_iload C dX1_takes_100 0 rfl ?_
        refine zr_most C zt436 dX1_takes_102 ?_
        refine zr_iload_n C dX1_takes_105 rfl 1 rfl ?_
        refine zr_tab1 C hf dX1_takes_106 (fun x100 hf => ?_)
        refine zr_icmp_gt (tgt := 114) C hf dX1_takes_107 (by decide) (fun hf => ?_) (fun hf => ?_)
        · refine zsub [2, 1, 0] rfl ?_
          exact J114 h97 a0 x94 x98 hf
        · refine zr_iconst (v := 1) C dX1_takes_110 (by decide) ?_
          refine zr_goto (tgt := 115) C dX1_takes_111 (by decide) ?_
          refine zsub [2, 1, 0] rfl ?_
          exact J115 h97 a0 x94 x98 (1 : Int32) hf
    · refine zr_iload_n C dX1_takes_65 rfl 2 rfl ?_
      refine zr_ldcS C dX1_takes_66 ?_
      refine zr_iload_n C dX1_takes_68 rfl 0 rfl ?_
      refine zr_charAt C hf (Nat.le_of_ble_eq_true rfl) ⟨Nat.le_of_ble_eq_true rfl, Nat.le_of_ble_eq_true rfl⟩ ⟨Nat.le_of_ble_eq_true rfl, Nat.le_of_ble_eq_true rfl⟩ dX1_takes_69 (fun x101 hf => ?_)
      refine zr_icmp_ne (tgt := 79) C hf dX1_takes_72 (by decide) (fun hf => ?_) (fun hf => ?_)
      · refine zr_iconst (v := 0) C dX1_takes_79 (by decide) ?_
        refine zsub [1] rfl ?_
        exact J80 h a0 (0 : Int32) hf
      · refine zr_iconst (v := 1) C dX1_takes_75 (by decide) ?_
        refine zr_goto (tgt := 80) C dX1_takes_76 (by decide) ?_
        refine zsub [1] rfl ?_
        exact J80 h a0 (1 : Int32) hf
  · refine zr_aload_n C dX1_takes_12 rfl 1 rfl ?_
    refine zr_gi C hf kg_X1_13 (fun _ _ _ => rfl) dX1_takes_13 (fun x102 hf => ?_)
    refine zr_bipush (v := 10) C dX1_takes_16 (by decide) ?_
    refine zr_icmp_ne (tgt := 31) C hf dX1_takes_18 (by decide) (fun hf => ?_) (fun hf => ?_)
    · refine zsub [1] rfl ?_
      exact J31 h a0 hf
    · refine zr_iload_n C dX1_takes_21 rfl 2 rfl ?_
      refine zr_bipush (v := 113) C dX1_takes_22 (by decide) ?_
      refine zr_icmp_ne (tgt := 31) C hf dX1_takes_24 (by decide) (fun hf => ?_) (fun hf => ?_)
      · refine zsub [1] rfl ?_
        exact J31 h a0 hf
      · refine zr_iconst (v := 1) C dX1_takes_27 (by decide) ?_
        refine zr_goto (tgt := 32) C dX1_takes_28 (by decide) ?_
        refine zsub [1] rfl ?_
        exact J32 h a0 (1 : Int32) hf
theorem dX7_takesFirstDigit_0 : decode cX7_takesFirstDigit 0 = .ok (.iload_n 1, 1) := by decide +kernel
theorem dX7_takesFirstDigit_1 : decode cX7_takesFirstDigit 1 = .ok (.iconst (-1), 1) := by decide +kernel
theorem dX7_takesFirstDigit_2 : decode cX7_takesFirstDigit 2 = .ok (.if_icmp .eq 12, 3) := by decide +kernel
theorem dX7_takesFirstDigit_5 : decode cX7_takesFirstDigit 5 = .ok (.aload_n 0, 1) := by decide +kernel
theorem dX7_takesFirstDigit_6 : decode cX7_takesFirstDigit 6 = .ok (.getfield 25, 3) := by decide +kernel
theorem dX7_takesFirstDigit_9 : decode cX7_takesFirstDigit 9 = .ok (.bipush 10, 2) := by decide +kernel
theorem dX7_takesFirstDigit_11 : decode cX7_takesFirstDigit 11 = .ok (.if_icmp .lt 5, 3) := by decide +kernel
theorem dX7_takesFirstDigit_14 : decode cX7_takesFirstDigit 14 = .ok (.iconst 0, 1) := by decide +kernel
theorem dX7_takesFirstDigit_15 : decode cX7_takesFirstDigit 15 = .ok (.ireturn, 1) := by decide +kernel
theorem dX7_takesFirstDigit_16 : decode cX7_takesFirstDigit 16 = .ok (.aload_n 0, 1) := by decide +kernel
theorem dX7_takesFirstDigit_17 : decode cX7_takesFirstDigit 17 = .ok (.getfield 9, 3) := by decide +kernel
theorem dX7_takesFirstDigit_20 : decode cX7_takesFirstDigit 20 = .ok (.aload_n 0, 1) := by decide +kernel
theorem dX7_takesFirstDigit_21 : decode cX7_takesFirstDigit 21 = .ok (.getfield 25, 3) := by decide +kernel
theorem dX7_takesFirstDigit_24 : decode cX7_takesFirstDigit 24 = .ok (.iload_n 1, 1) := by decide +kernel
theorem dX7_takesFirstDigit_25 : decode cX7_takesFirstDigit 25 = .ok (.iastore, 1) := by decide +kernel
theorem dX7_takesFirstDigit_26 : decode cX7_takesFirstDigit 26 = .ok (.aload_n 0, 1) := by decide +kernel
theorem dX7_takesFirstDigit_27 : decode cX7_takesFirstDigit 27 = .ok (.getfield 15, 3) := by decide +kernel
theorem dX7_takesFirstDigit_30 : decode cX7_takesFirstDigit 30 = .ok (.aload_n 0, 1) := by decide +kernel
theorem dX7_takesFirstDigit_31 : decode cX7_takesFirstDigit 31 = .ok (.getfield 25, 3) := by decide +kernel
theorem dX7_takesFirstDigit_34 : decode cX7_takesFirstDigit 34 = .ok (.iconst 0, 1) := by decide +kernel
theorem dX7_takesFirstDigit_35 : decode cX7_takesFirstDigit 35 = .ok (.bastore, 1) := by decide +kernel
theorem dX7_takesFirstDigit_36 : decode cX7_takesFirstDigit 36 = .ok (.aload_n 0, 1) := by decide +kernel
theorem dX7_takesFirstDigit_37 : decode cX7_takesFirstDigit 37 = .ok (.dup, 1) := by decide +kernel
theorem dX7_takesFirstDigit_38 : decode cX7_takesFirstDigit 38 = .ok (.getfield 25, 3) := by decide +kernel
theorem dX7_takesFirstDigit_41 : decode cX7_takesFirstDigit 41 = .ok (.iconst 1, 1) := by decide +kernel
theorem dX7_takesFirstDigit_42 : decode cX7_takesFirstDigit 42 = .ok (.iadd, 1) := by decide +kernel
theorem dX7_takesFirstDigit_43 : decode cX7_takesFirstDigit 43 = .ok (.putfield 25, 3) := by decide +kernel
theorem dX7_takesFirstDigit_46 : decode cX7_takesFirstDigit 46 = .ok (.aload_n 0, 1) := by decide +kernel
theorem dX7_takesFirstDigit_47 : decode cX7_takesFirstDigit 47 = .ok (.iconst 1, 1) := by decide +kernel
theorem dX7_takesFirstDigit_48 : decode cX7_takesFirstDigit 48 = .ok (.putfield 29, 3) := by decide +kernel
theorem dX7_takesFirstDigit_51 : decode cX7_takesFirstDigit 51 = .ok (.iconst 1, 1) := by decide +kernel
theorem dX7_takesFirstDigit_52 : decode cX7_takesFirstDigit 52 = .ok (.ireturn, 1) := by decide +kernel
set_option maxHeartbeats 4000000 in
set_option maxRecDepth 100000 in
theorem c_X7_takesFirstDigit (l : Launch) (E : zE) (n : Nat) (h : zH) (a0 : Nat) (p0 : Int32) (res : Int32 × zH) (hf : F_X7_takesFirstDigit n h a0 p0 = some res) : Met l yX7_takesFirstDigit (zw yX7_takesFirstDigit cX7_takesFirstDigit 2 (some .boolean)) ({ frames := 0, cells := 0, slots := 0, locals := 0 } : Room) (zPc E h [.ref (zB E + a0), .int p0]) (zQc E res.2 (some (.int res.1))) 0 0 (zfr E) := by
  refine zmet (lo := [(0, .ref (zB E + a0)), (1, .int p0)]) (by decide +kernel) (Nat.le_of_ble_eq_true rfl) rfl ?_
  intro p e s m args below meth c C hr hin
  unfold F_X7_takesFirstDigit at hf
  have J14 : ∀ (h2 : zH), F_X7_takesFirstDigit_J14 n h2 = some res → zW p l e (headSpec (zw yX7_takesFirstDigit cX7_takesFirstDigit 2 (some .boolean)) ({ frames := 0, cells := 0, slots := 0, locals := 0 } : Room)).room s m args below meth c E 2 (MQ below (zQc E res.2 (some (.int res.1))) args s 0 0 (zfr E)) 0 0 14 [] [] h2 := by
    intro h2 hf
    unfold F_X7_takesFirstDigit_J14 at hf
    refine zr_iconst (v := 0) C dX7_takesFirstDigit_14 (by decide) ?_
    exact zr_zreturn C hf hr (Nat.le_of_ble_eq_true rfl) (Nat.le_of_ble_eq_true rfl) dX7_takesFirstDigit_15
  refine zr_iload_n C dX7_takesFirstDigit_0 rfl 1 rfl ?_
  refine zr_iconst (v := -1) C dX7_takesFirstDigit_1 (by decide) ?_
  refine zr_icmp_eq (tgt := 14) C hf dX7_takesFirstDigit_2 (by decide) (fun hf => ?_) (fun hf => ?_)
  · refine zsub [] rfl ?_
    exact J14 h hf
  · refine zr_aload_n C dX7_takesFirstDigit_5 rfl 0 rfl ?_
    refine zr_gi C hf kg_X7_25 (fun _ _ _ => rfl) dX7_takesFirstDigit_6 (fun x3 hf => ?_)
    refine zr_bipush (v := 10) C dX7_takesFirstDigit_9 (by decide) ?_
    refine zr_icmp_lt (tgt := 16) C hf dX7_takesFirstDigit_11 (by decide) (fun hf => ?_) (fun hf => ?_)
    · refine zr_aload_n C dX7_takesFirstDigit_16 rfl 0 rfl ?_
      refine zr_gr C hf kg_X7_9 (fun _ _ _ => rfl) dX7_takesFirstDigit_17 (fun w4 hf => ?_)
      refine zr_aload_n C dX7_takesFirstDigit_20 rfl 0 rfl ?_
      refine zr_gi C hf kg_X7_25 (fun _ _ _ => rfl) dX7_takesFirstDigit_21 (fun x5 hf => ?_)
      refine zr_iload_n C dX7_takesFirstDigit_24 rfl 1 rfl ?_
      refine zr_iastore C hf dX7_takesFirstDigit_25 (fun h6 hf => ?_)
      refine zr_aload_n C dX7_takesFirstDigit_26 rfl 0 rfl ?_
      refine zr_gr C hf kg_X7_15 (fun _ _ _ => rfl) dX7_takesFirstDigit_27 (fun w7 hf => ?_)
      refine zr_aload_n C dX7_takesFirstDigit_30 rfl 0 rfl ?_
      refine zr_gi C hf kg_X7_25 (fun _ _ _ => rfl) dX7_takesFirstDigit_31 (fun x8 hf => ?_)
      refine zr_iconst (v := 0) C dX7_takesFirstDigit_34 (by decide) ?_
      refine zr_zastore C hf dX7_takesFirstDigit_35 (fun h9 hf => ?_)
      refine zr_aload_n C dX7_takesFirstDigit_36 rfl 0 rfl ?_
      refine zr_dup C dX7_takesFirstDigit_37 rfl ?_
      refine zr_gi C hf kg_X7_25 (fun _ _ _ => rfl) dX7_takesFirstDigit_38 (fun x10 hf => ?_)
      refine zr_iconst (v := 1) C dX7_takesFirstDigit_41 (by decide) ?_
      refine zr_iadd C hf dX7_takesFirstDigit_42 (fun x11 hf => ?_)
      refine zr_si C hf kp_X7_25 (fun _ _ _ => rfl) rfl dX7_takesFirstDigit_43 (fun h12 hf => ?_)
      refine zr_aload_n C dX7_takesFirstDigit_46 rfl 0 rfl ?_
      refine zr_iconst (v := 1) C dX7_takesFirstDigit_47 (by decide) ?_
      refine zr_si C hf kp_X7_29 (fun _ _ _ => rfl) rfl dX7_takesFirstDigit_48 (fun h13 hf => ?_)
      refine zr_iconst (v := 1) C dX7_takesFirstDigit_51 (by decide) ?_
      exact zr_zreturn C hf hr (Nat.le_of_ble_eq_true rfl) (Nat.le_of_ble_eq_true rfl) dX7_takesFirstDigit_52
    · refine zsub [] rfl ?_
      exact J14 h hf
theorem dX9_longer_0 : decode cX9_longer 0 = .ok (.iload_n 1, 1) := by decide +kernel
theorem dX9_longer_1 : decode cX9_longer 1 = .ok (.invokestatic 9, 3) := by decide +kernel
theorem dX9_longer_4 : decode cX9_longer 4 = .ok (.istore_n 3, 1) := by decide +kernel
theorem dX9_longer_5 : decode cX9_longer 5 = .ok (.iload_n 3, 1) := by decide +kernel
theorem dX9_longer_6 : decode cX9_longer 6 = .ok (.iconst (-1), 1) := by decide +kernel
theorem dX9_longer_7 : decode cX9_longer 7 = .ok (.if_icmp .eq 17, 3) := by decide +kernel
theorem dX9_longer_10 : decode cX9_longer 10 = .ok (.iload_n 0, 1) := by decide +kernel
theorem dX9_longer_11 : decode cX9_longer 11 = .ok (.ifCond .eq 13, 3) := by decide +kernel
theorem dX9_longer_14 : decode cX9_longer 14 = .ok (.iload_n 0, 1) := by decide +kernel
theorem dX9_longer_15 : decode cX9_longer 15 = .ok (.bipush 10, 2) := by decide +kernel
theorem dX9_longer_17 : decode cX9_longer 17 = .ok (.imul, 1) := by decide +kernel
theorem dX9_longer_18 : decode cX9_longer 18 = .ok (.iload_n 3, 1) := by decide +kernel
theorem dX9_longer_19 : decode cX9_longer 19 = .ok (.iadd, 1) := by decide +kernel
theorem dX9_longer_20 : decode cX9_longer 20 = .ok (.iload_n 2, 1) := by decide +kernel
theorem dX9_longer_21 : decode cX9_longer 21 = .ok (.if_icmp .le 5, 3) := by decide +kernel
theorem dX9_longer_24 : decode cX9_longer 24 = .ok (.iconst (-1), 1) := by decide +kernel
theorem dX9_longer_25 : decode cX9_longer 25 = .ok (.ireturn, 1) := by decide +kernel
theorem dX9_longer_26 : decode cX9_longer 26 = .ok (.iload_n 0, 1) := by decide +kernel
theorem dX9_longer_27 : decode cX9_longer 27 = .ok (.bipush 10, 2) := by decide +kernel
theorem dX9_longer_29 : decode cX9_longer 29 = .ok (.imul, 1) := by decide +kernel
theorem dX9_longer_30 : decode cX9_longer 30 = .ok (.iload_n 3, 1) := by decide +kernel
theorem dX9_longer_31 : decode cX9_longer 31 = .ok (.iadd, 1) := by decide +kernel
theorem dX9_longer_32 : decode cX9_longer 32 = .ok (.ireturn, 1) := by decide +kernel
set_option maxHeartbeats 4000000 in
set_option maxRecDepth 100000 in
theorem c_X9_longer (l : Launch) (E : zE) (n : Nat) (h : zH) (p0 : Int32) (p1 : Int32) (p2 : Int32) (res : Int32 × zH) (hf : F_X9_longer n h p0 p1 p2 = some res) : Met l yX9_longer (zw yX9_longer cX9_longer 4 (some .int)) ({ frames := 1, cells := 0, slots := 0, locals := 20 } : Room) (zPc E h [.int p0, .int p1, .int p2]) (zQc E res.2 (some (.int res.1))) 0 0 (zfr E) := by
  refine zmet (lo := [(0, .int p0), (1, .int p1), (2, .int p2)]) (by decide +kernel) (Nat.le_of_ble_eq_true rfl) rfl ?_
  intro p e s m args below meth c C hr hin
  unfold F_X9_longer at hf
  have J24 : ∀ (h2 : zH), F_X9_longer_J24 n h2 = some res → zW p l e (headSpec (zw yX9_longer cX9_longer 4 (some .int)) ({ frames := 1, cells := 0, slots := 0, locals := 20 } : Room)).room s m args below meth c E 4 (MQ below (zQc E res.2 (some (.int res.1))) args s 0 0 (zfr E)) 0 0 24 [] [] h2 := by
    intro h2 hf
    unfold F_X9_longer_J24 at hf
    refine zr_iconst (v := -1) C dX9_longer_24 (by decide) ?_
    exact zr_ireturn C hf hr (Nat.le_of_ble_eq_true rfl) (Nat.le_of_ble_eq_true rfl) dX9_longer_25
  refine zr_iload_n C dX9_longer_0 rfl 1 rfl ?_
  refine zr_callSi (As := [.int p1]) (rest := []) C hf (fun x hx => c_X9_digitOf l E n h p1 x hx) ks_X9_9 rfl rfl (Nat.le_of_ble_eq_true rfl) ⟨rfl, rfl⟩ ⟨Nat.le_of_ble_eq_true rfl, Nat.le_of_ble_eq_true rfl⟩ ⟨Nat.le_of_ble_eq_true rfl, Nat.le_of_ble_eq_true rfl⟩ dX9_longer_1 (fun x4 h3 hf => ?_)
  refine zr_istore_n (lo2 := [(3, .int x4), (0, .int p0), (1, .int p1), (2, .int p2)]) C dX9_longer_4 rfl (by decide) rfl ?_
  refine zr_iload_n C dX9_longer_5 rfl 0 rfl ?_
  refine zr_iconst (v := -1) C dX9_longer_6 (by decide) ?_
  refine zr_icmp_eq (tgt := 24) C hf dX9_longer_7 (by decide) (fun hf => ?_) (fun hf => ?_)
  · refine zsub [] rfl ?_
    exact J24 h3 hf
  · refine zr_iload_n C dX9_longer_10 rfl 1 rfl ?_
    refine zr_if_eq (tgt := 24) C hf dX9_longer_11 (by decide) (fun hf => ?_) (fun hf => ?_)
    · refine zsub [] rfl ?_
      exact J24 h3 hf
    · refine zr_iload_n C dX9_longer_14 rfl 1 rfl ?_
      refine zr_bipush (v := 10) C dX9_longer_15 (by decide) ?_
      refine zr_imul C hf dX9_longer_17 (fun x5 hf => ?_)
      refine zr_iload_n C dX9_longer_18 rfl 0 rfl ?_
      refine zr_iadd C hf dX9_longer_19 (fun x6 hf => ?_)
      refine zr_iload_n C dX9_longer_20 rfl 3 rfl ?_
      refine zr_icmp_le (tgt := 26) C hf dX9_longer_21 (by decide) (fun hf => ?_) (fun hf => ?_)
      · refine zr_iload_n C dX9_longer_26 rfl 1 rfl ?_
        refine zr_bipush (v := 10) C dX9_longer_27 (by decide) ?_
        refine zr_imul C hf dX9_longer_29 (fun x7 hf => ?_)
        refine zr_iload_n C dX9_longer_30 rfl 0 rfl ?_
        refine zr_iadd C hf dX9_longer_31 (fun x8 hf => ?_)
        exact zr_ireturn C hf hr (Nat.le_of_ble_eq_true rfl) (Nat.le_of_ble_eq_true rfl) dX9_longer_32
      · refine zsub [] rfl ?_
        exact J24 h3 hf
theorem dX7_takesMore_0 : decode cX7_takesMore 0 = .ok (.iload_n 1, 1) := by decide +kernel
theorem dX7_takesMore_1 : decode cX7_takesMore 1 = .ok (.bipush 104, 2) := by decide +kernel
theorem dX7_takesMore_3 : decode cX7_takesMore 3 = .ok (.if_icmp .ne 22, 3) := by decide +kernel
theorem dX7_takesMore_6 : decode cX7_takesMore 6 = .ok (.aload_n 0, 1) := by decide +kernel
theorem dX7_takesMore_7 : decode cX7_takesMore 7 = .ok (.getfield 15, 3) := by decide +kernel
theorem dX7_takesMore_10 : decode cX7_takesMore 10 = .ok (.aload_n 0, 1) := by decide +kernel
theorem dX7_takesMore_11 : decode cX7_takesMore 11 = .ok (.getfield 25, 3) := by decide +kernel
theorem dX7_takesMore_14 : decode cX7_takesMore 14 = .ok (.iconst 1, 1) := by decide +kernel
theorem dX7_takesMore_15 : decode cX7_takesMore 15 = .ok (.isub, 1) := by decide +kernel
theorem dX7_takesMore_16 : decode cX7_takesMore 16 = .ok (.iconst 1, 1) := by decide +kernel
theorem dX7_takesMore_17 : decode cX7_takesMore 17 = .ok (.bastore, 1) := by decide +kernel
theorem dX7_takesMore_18 : decode cX7_takesMore 18 = .ok (.aload_n 0, 1) := by decide +kernel
theorem dX7_takesMore_19 : decode cX7_takesMore 19 = .ok (.iconst 2, 1) := by decide +kernel
theorem dX7_takesMore_20 : decode cX7_takesMore 20 = .ok (.putfield 29, 3) := by decide +kernel
theorem dX7_takesMore_23 : decode cX7_takesMore 23 = .ok (.iconst 1, 1) := by decide +kernel
theorem dX7_takesMore_24 : decode cX7_takesMore 24 = .ok (.ireturn, 1) := by decide +kernel
theorem dX7_takesMore_25 : decode cX7_takesMore 25 = .ok (.aload_n 0, 1) := by decide +kernel
theorem dX7_takesMore_26 : decode cX7_takesMore 26 = .ok (.getfield 9, 3) := by decide +kernel
theorem dX7_takesMore_29 : decode cX7_takesMore 29 = .ok (.aload_n 0, 1) := by decide +kernel
theorem dX7_takesMore_30 : decode cX7_takesMore 30 = .ok (.getfield 25, 3) := by decide +kernel
theorem dX7_takesMore_33 : decode cX7_takesMore 33 = .ok (.iconst 1, 1) := by decide +kernel
theorem dX7_takesMore_34 : decode cX7_takesMore 34 = .ok (.isub, 1) := by decide +kernel
theorem dX7_takesMore_35 : decode cX7_takesMore 35 = .ok (.iaload, 1) := by decide +kernel
theorem dX7_takesMore_36 : decode cX7_takesMore 36 = .ok (.iload_n 1, 1) := by decide +kernel
theorem dX7_takesMore_37 : decode cX7_takesMore 37 = .ok (.bipush 99, 2) := by decide +kernel
theorem dX7_takesMore_39 : decode cX7_takesMore 39 = .ok (.invokestatic 43, 3) := by decide +kernel
theorem dX7_takesMore_42 : decode cX7_takesMore 42 = .ok (.istore_n 2, 1) := by decide +kernel
theorem dX7_takesMore_43 : decode cX7_takesMore 43 = .ok (.iload_n 2, 1) := by decide +kernel
theorem dX7_takesMore_44 : decode cX7_takesMore 44 = .ok (.iconst (-1), 1) := by decide +kernel
theorem dX7_takesMore_45 : decode cX7_takesMore 45 = .ok (.if_icmp .ne 5, 3) := by decide +kernel
theorem dX7_takesMore_48 : decode cX7_takesMore 48 = .ok (.iconst 0, 1) := by decide +kernel
theorem dX7_takesMore_49 : decode cX7_takesMore 49 = .ok (.ireturn, 1) := by decide +kernel
theorem dX7_takesMore_50 : decode cX7_takesMore 50 = .ok (.aload_n 0, 1) := by decide +kernel
theorem dX7_takesMore_51 : decode cX7_takesMore 51 = .ok (.getfield 9, 3) := by decide +kernel
theorem dX7_takesMore_54 : decode cX7_takesMore 54 = .ok (.aload_n 0, 1) := by decide +kernel
theorem dX7_takesMore_55 : decode cX7_takesMore 55 = .ok (.getfield 25, 3) := by decide +kernel
theorem dX7_takesMore_58 : decode cX7_takesMore 58 = .ok (.iconst 1, 1) := by decide +kernel
theorem dX7_takesMore_59 : decode cX7_takesMore 59 = .ok (.isub, 1) := by decide +kernel
theorem dX7_takesMore_60 : decode cX7_takesMore 60 = .ok (.iload_n 2, 1) := by decide +kernel
theorem dX7_takesMore_61 : decode cX7_takesMore 61 = .ok (.iastore, 1) := by decide +kernel
theorem dX7_takesMore_62 : decode cX7_takesMore 62 = .ok (.iconst 1, 1) := by decide +kernel
theorem dX7_takesMore_63 : decode cX7_takesMore 63 = .ok (.ireturn, 1) := by decide +kernel
set_option maxHeartbeats 4000000 in
set_option maxRecDepth 100000 in
theorem c_X7_takesMore (l : Launch) (E : zE) (n : Nat) (h : zH) (a0 : Nat) (p0 : Int32) (res : Int32 × zH) (hf : F_X7_takesMore n h a0 p0 = some res) : Met l yX7_takesMore (zw yX7_takesMore cX7_takesMore 3 (some .boolean)) ({ frames := 2, cells := 0, slots := 0, locals := 43 } : Room) (zPc E h [.ref (zB E + a0), .int p0]) (zQc E res.2 (some (.int res.1))) 0 0 (zfr E) := by
  refine zmet (lo := [(0, .ref (zB E + a0)), (1, .int p0)]) (by decide +kernel) (Nat.le_of_ble_eq_true rfl) rfl ?_
  intro p e s m args below meth c C hr hin
  unfold F_X7_takesMore at hf
  refine zr_iload_n C dX7_takesMore_0 rfl 1 rfl ?_
  refine zr_bipush (v := 104) C dX7_takesMore_1 (by decide) ?_
  refine zr_icmp_ne (tgt := 25) C hf dX7_takesMore_3 (by decide) (fun hf => ?_) (fun hf => ?_)
  · refine zr_aload_n C dX7_takesMore_25 rfl 0 rfl ?_
    refine zr_gr C hf kg_X7_9 (fun _ _ _ => rfl) dX7_takesMore_26 (fun w1 hf => ?_)
    refine zr_aload_n C dX7_takesMore_29 rfl 0 rfl ?_
    refine zr_gi C hf kg_X7_25 (fun _ _ _ => rfl) dX7_takesMore_30 (fun x2 hf => ?_)
    refine zr_iconst (v := 1) C dX7_takesMore_33 (by decide) ?_
    refine zr_isub C hf dX7_takesMore_34 (fun x3 hf => ?_)
    refine zr_iaload C hf dX7_takesMore_35 (fun x4 hf => ?_)
    refine zr_iload_n C dX7_takesMore_36 rfl 1 rfl ?_
    refine zr_bipush (v := 99) C dX7_takesMore_37 (by decide) ?_
    refine zr_callSUi (As := [.int x4, .int p0, .int (99 : Int32)]) (rest := []) C hf (fun x hx => c_X9_longer l E n h x4 p0 (99 : Int32) x hx) ku_X7_43 rfl rfl (Nat.le_of_ble_eq_true rfl) ⟨rfl, rfl⟩ ⟨Nat.le_of_ble_eq_true rfl, Nat.le_of_ble_eq_true rfl⟩ ⟨Nat.le_of_ble_eq_true rfl, Nat.le_of_ble_eq_true rfl⟩ dX7_takesMore_39 (fun x6 h5 hf => ?_)
    refine zr_istore_n (lo2 := [(2, .int x6), (0, .ref (zB E + a0)), (1, .int p0)]) C dX7_takesMore_42 rfl (by decide) rfl ?_
    refine zr_iload_n C dX7_takesMore_43 rfl 0 rfl ?_
    refine zr_iconst (v := -1) C dX7_takesMore_44 (by decide) ?_
    refine zr_icmp_ne (tgt := 50) C hf dX7_takesMore_45 (by decide) (fun hf => ?_) (fun hf => ?_)
    · refine zr_aload_n C dX7_takesMore_50 rfl 1 rfl ?_
      refine zr_gr C hf kg_X7_9 (fun _ _ _ => rfl) dX7_takesMore_51 (fun w7 hf => ?_)
      refine zr_aload_n C dX7_takesMore_54 rfl 1 rfl ?_
      refine zr_gi C hf kg_X7_25 (fun _ _ _ => rfl) dX7_takesMore_55 (fun x8 hf => ?_)
      refine zr_iconst (v := 1) C dX7_takesMore_58 (by decide) ?_
      refine zr_isub C hf dX7_takesMore_59 (fun x9 hf => ?_)
      refine zr_iload_n C dX7_takesMore_60 rfl 0 rfl ?_
      refine zr_iastore C hf dX7_takesMore_61 (fun h10 hf => ?_)
      refine zr_iconst (v := 1) C dX7_takesMore_62 (by decide) ?_
      exact zr_zreturn C hf hr (Nat.le_of_ble_eq_true rfl) (Nat.le_of_ble_eq_true rfl) dX7_takesMore_63
    · refine zr_iconst (v := 0) C dX7_takesMore_48 (by decide) ?_
      exact zr_zreturn C hf hr (Nat.le_of_ble_eq_true rfl) (Nat.le_of_ble_eq_true rfl) dX7_takesMore_49
  · refine zr_aload_n C dX7_takesMore_6 rfl 0 rfl ?_
    refine zr_gr C hf kg_X7_15 (fun _ _ _ => rfl) dX7_takesMore_7 (fun w11 hf => ?_)
    refine zr_aload_n C dX7_takesMore_10 rfl 0 rfl ?_
    refine zr_gi C hf kg_X7_25 (fun _ _ _ => rfl) dX7_takesMore_11 (fun x12 hf => ?_)
    refine zr_iconst (v := 1) C dX7_takesMore_14 (by decide) ?_
    refine zr_isub C hf dX7_takesMore_15 (fun x13 hf => ?_)
    refine zr_iconst (v := 1) C dX7_takesMore_16 (by decide) ?_
    refine zr_zastore C hf dX7_takesMore_17 (fun h14 hf => ?_)
    refine zr_aload_n C dX7_takesMore_18 rfl 0 rfl ?_
    refine zr_iconst (v := 2) C dX7_takesMore_19 (by decide) ?_
    refine zr_si C hf kp_X7_29 (fun _ _ _ => rfl) rfl dX7_takesMore_20 (fun h15 hf => ?_)
    refine zr_iconst (v := 1) C dX7_takesMore_23 (by decide) ?_
    exact zr_zreturn C hf hr (Nat.le_of_ble_eq_true rfl) (Nat.le_of_ble_eq_true rfl) dX7_takesMore_24
theorem dX7_takes_0 : decode cX7_takes 0 = .ok (.aload_n 0, 1) := by decide +kernel
theorem dX7_takes_1 : decode cX7_takes 1 = .ok (.getfield 29, 3) := by decide +kernel
theorem dX7_takes_4 : decode cX7_takes 4 = .ok (.ifCond .ne 12, 3) := by decide +kernel
theorem dX7_takes_7 : decode cX7_takes 7 = .ok (.aload_n 0, 1) := by decide +kernel
theorem dX7_takes_8 : decode cX7_takes 8 = .ok (.iload_n 1, 1) := by decide +kernel
theorem dX7_takes_9 : decode cX7_takes 9 = .ok (.invokestatic 32, 3) := by decide +kernel
theorem dX7_takes_12 : decode cX7_takes 12 = .ok (.invokevirtual 36, 3) := by decide +kernel
theorem dX7_takes_15 : decode cX7_takes 15 = .ok (.ireturn, 1) := by decide +kernel
theorem dX7_takes_16 : decode cX7_takes 16 = .ok (.iload_n 1, 1) := by decide +kernel
theorem dX7_takes_17 : decode cX7_takes 17 = .ok (.bipush 44, 2) := by decide +kernel
theorem dX7_takes_19 : decode cX7_takes 19 = .ok (.if_icmp .ne 39, 3) := by decide +kernel
theorem dX7_takes_22 : decode cX7_takes 22 = .ok (.aload_n 0, 1) := by decide +kernel
theorem dX7_takes_23 : decode cX7_takes 23 = .ok (.aload_n 0, 1) := by decide +kernel
theorem dX7_takes_24 : decode cX7_takes 24 = .ok (.getfield 25, 3) := by decide +kernel
theorem dX7_takes_27 : decode cX7_takes 27 = .ok (.bipush 10, 2) := by decide +kernel
theorem dX7_takes_29 : decode cX7_takes 29 = .ok (.if_icmp .ge 7, 3) := by decide +kernel
theorem dX7_takes_32 : decode cX7_takes 32 = .ok (.iconst 0, 1) := by decide +kernel
theorem dX7_takes_33 : decode cX7_takes 33 = .ok (.goto 7, 3) := by decide +kernel
theorem dX7_takes_36 : decode cX7_takes 36 = .ok (.aload_n 0, 1) := by decide +kernel
theorem dX7_takes_37 : decode cX7_takes 37 = .ok (.getfield 29, 3) := by decide +kernel
theorem dX7_takes_40 : decode cX7_takes 40 = .ok (.putfield 29, 3) := by decide +kernel
theorem dX7_takes_43 : decode cX7_takes 43 = .ok (.aload_n 0, 1) := by decide +kernel
theorem dX7_takes_44 : decode cX7_takes 44 = .ok (.getfield 25, 3) := by decide +kernel
theorem dX7_takes_47 : decode cX7_takes 47 = .ok (.bipush 10, 2) := by decide +kernel
theorem dX7_takes_49 : decode cX7_takes 49 = .ok (.if_icmp .ge 7, 3) := by decide +kernel
theorem dX7_takes_52 : decode cX7_takes 52 = .ok (.iconst 1, 1) := by decide +kernel
theorem dX7_takes_53 : decode cX7_takes 53 = .ok (.goto 4, 3) := by decide +kernel
theorem dX7_takes_56 : decode cX7_takes 56 = .ok (.iconst 0, 1) := by decide +kernel
theorem dX7_takes_57 : decode cX7_takes 57 = .ok (.ireturn, 1) := by decide +kernel
theorem dX7_takes_58 : decode cX7_takes 58 = .ok (.aload_n 0, 1) := by decide +kernel
theorem dX7_takes_59 : decode cX7_takes 59 = .ok (.getfield 29, 3) := by decide +kernel
theorem dX7_takes_62 : decode cX7_takes 62 = .ok (.iconst 1, 1) := by decide +kernel
theorem dX7_takes_63 : decode cX7_takes 63 = .ok (.if_icmp .ne 22, 3) := by decide +kernel
theorem dX7_takes_66 : decode cX7_takes 66 = .ok (.aload_n 0, 1) := by decide +kernel
theorem dX7_takes_67 : decode cX7_takes 67 = .ok (.getfield 25, 3) := by decide +kernel
theorem dX7_takes_70 : decode cX7_takes 70 = .ok (.ifCond .le 15, 3) := by decide +kernel
theorem dX7_takes_73 : decode cX7_takes 73 = .ok (.aload_n 0, 1) := by decide +kernel
theorem dX7_takes_74 : decode cX7_takes 74 = .ok (.iload_n 1, 1) := by decide +kernel
theorem dX7_takes_75 : decode cX7_takes 75 = .ok (.invokevirtual 40, 3) := by decide +kernel
theorem dX7_takes_78 : decode cX7_takes 78 = .ok (.ifCond .eq 7, 3) := by decide +kernel
theorem dX7_takes_81 : decode cX7_takes 81 = .ok (.iconst 1, 1) := by decide +kernel
theorem dX7_takes_82 : decode cX7_takes 82 = .ok (.goto 4, 3) := by decide +kernel
theorem dX7_takes_85 : decode cX7_takes 85 = .ok (.iconst 0, 1) := by decide +kernel
theorem dX7_takes_86 : decode cX7_takes 86 = .ok (.ireturn, 1) := by decide +kernel
set_option maxHeartbeats 4000000 in
set_option maxRecDepth 100000 in
theorem c_X7_takes (l : Launch) (E : zE) (n : Nat) (h : zH) (a0 : Nat) (p0 : Int32) (res : Int32 × zH) (hf : F_X7_takes n h a0 p0 = some res) : Met l yX7_takes (zw yX7_takes cX7_takes 2 (some .boolean)) ({ frames := 3, cells := 0, slots := 0, locals := 65 } : Room) (zPc E h [.ref (zB E + a0), .int p0]) (zQc E res.2 (some (.int res.1))) 0 0 (zfr E) := by
  refine zmet (lo := [(0, .ref (zB E + a0)), (1, .int p0)]) (by decide +kernel) (Nat.le_of_ble_eq_true rfl) rfl ?_
  intro p e s m args below meth c C hr hin
  unfold F_X7_takes at hf
  have J86 : ∀ (h4 : zH) (x3 : Int32), F_X7_takes_J86 n h4 x3 = some res → zW p l e (headSpec (zw yX7_takes cX7_takes 2 (some .boolean)) ({ frames := 3, cells := 0, slots := 0, locals := 65 } : Room)).room s m args below meth c E 2 (MQ below (zQc E res.2 (some (.int res.1))) args s 0 0 (zfr E)) 0 0 86 [] [.int x3] h4 := by
    intro h4 x3 hf
    unfold F_X7_takes_J86 at hf
    exact zr_zreturn C hf hr (Nat.le_of_ble_eq_true rfl) (Nat.le_of_ble_eq_true rfl) dX7_takes_86
  have J85 : ∀ (h6 : zH), F_X7_takes_J85 n h6 = some res → zW p l e (headSpec (zw yX7_takes cX7_takes 2 (some .boolean)) ({ frames := 3, cells := 0, slots := 0, locals := 65 } : Room)).room s m args below meth c E 2 (MQ below (zQc E res.2 (some (.int res.1))) args s 0 0 (zfr E)) 0 0 85 [] [] h6 := by
    intro h6 hf
    unfold F_X7_takes_J85 at hf
    refine zr_iconst (v := 0) C dX7_takes_85 (by decide) ?_
    exact J86 h6 (0 : Int32) hf
  have J57 : ∀ (h10 : zH) (x9 : Int32), F_X7_takes_J57 n h10 x9 = some res → zW p l e (headSpec (zw yX7_takes cX7_takes 2 (some .boolean)) ({ frames := 3, cells := 0, slots := 0, locals := 65 } : Room)).room s m args below meth c E 2 (MQ below (zQc E res.2 (some (.int res.1))) args s 0 0 (zfr E)) 0 0 57 [] [.int x9] h10 := by
    intro h10 x9 hf
    unfold F_X7_takes_J57 at hf
    exact zr_zreturn C hf hr (Nat.le_of_ble_eq_true rfl) (Nat.le_of_ble_eq_true rfl) dX7_takes_57
  have J40 : ∀ (h20 : zH) (w17 : Nat) (w18 : Nat) (x19 : Int32), F_X7_takes_J40 n h20 w17 w18 x19 = some res → zW p l e (headSpec (zw yX7_takes cX7_takes 2 (some .boolean)) ({ frames := 3, cells := 0, slots := 0, locals := 65 } : Room)).room s m args below meth c E 2 (MQ below (zQc E res.2 (some (.int res.1))) args s 0 0 (zfr E)) 0 0 40 [(0, .ref (zB E + w17))] [.int x19, .ref (zB E + w18)] h20 := by
    intro h20 w17 w18 x19 hf
    unfold F_X7_takes_J40 at hf
    refine zr_si C hf kp_X7_29 (fun _ _ _ => rfl) rfl dX7_takes_40 (fun h21 hf => ?_)
    refine zr_aload_n C dX7_takes_43 rfl 0 rfl ?_
    refine zr_gi C hf kg_X7_25 (fun _ _ _ => rfl) dX7_takes_44 (fun x22 hf => ?_)
    refine zr_bipush (v := 10) C dX7_takes_47 (by decide) ?_
    refine zr_icmp_ge (tgt := 56) C hf dX7_takes_49 (by decide) (fun hf => ?_) (fun hf => ?_)
    · refine zr_iconst (v := 0) C dX7_takes_56 (by decide) ?_
      refine zsub [] rfl ?_
      exact J57 h21 (0 : Int32) hf
    · refine zr_iconst (v := 1) C dX7_takes_52 (by decide) ?_
      refine zr_goto (tgt := 57) C dX7_takes_53 (by decide) ?_
      refine zsub [] rfl ?_
      exact J57 h21 (1 : Int32) hf
  refine zr_aload_n C dX7_takes_0 rfl 0 rfl ?_
  refine zr_gi C hf kg_X7_29 (fun _ _ _ => rfl) dX7_takes_1 (fun x23 hf => ?_)
  refine zr_if_ne (tgt := 16) C hf dX7_takes_4 (by decide) (fun hf => ?_) (fun hf => ?_)
  · refine zr_iload_n C dX7_takes_16 rfl 1 rfl ?_
    refine zr_bipush (v := 44) C dX7_takes_17 (by decide) ?_
    refine zr_icmp_ne (tgt := 58) C hf dX7_takes_19 (by decide) (fun hf => ?_) (fun hf => ?_)
    · refine zr_aload_n C dX7_takes_58 rfl 0 rfl ?_
      refine zr_gi C hf kg_X7_29 (fun _ _ _ => rfl) dX7_takes_59 (fun x24 hf => ?_)
      refine zr_iconst (v := 1) C dX7_takes_62 (by decide) ?_
      refine zr_icmp_ne (tgt := 85) C hf dX7_takes_63 (by decide) (fun hf => ?_) (fun hf => ?_)
      · refine zsub [] rfl ?_
        exact J85 h hf
      · refine zr_aload_n C dX7_takes_66 rfl 0 rfl ?_
        refine zr_gi C hf kg_X7_25 (fun _ _ _ => rfl) dX7_takes_67 (fun x25 hf => ?_)
        refine zr_if_le (tgt := 85) C hf dX7_takes_70 (by decide) (fun hf => ?_) (fun hf => ?_)
        · refine zsub [] rfl ?_
          exact J85 h hf
        · refine zr_aload_n C dX7_takes_73 rfl 0 rfl ?_
          refine zr_iload_n C dX7_takes_74 rfl 1 rfl ?_
          refine zr_callVi (As := [.int p0]) (rest := []) C hf (fun x hx => c_X7_takesMore l E n h a0 p0 x hx) kv_X7_40 rfl rfl (Nat.le_of_ble_eq_true rfl) ⟨rfl, rfl⟩ ⟨Nat.le_of_ble_eq_true rfl, Nat.le_of_ble_eq_true rfl⟩ ⟨Nat.le_of_ble_eq_true rfl, Nat.le_of_ble_eq_true rfl⟩ dX7_takes_75 (fun x27 h26 hf => ?_)
          refine zr_if_eq (tgt := 85) C hf dX7_takes_78 (by decide) (fun hf => ?_) (fun hf => ?_)
          · refine zsub [] rfl ?_
            exact J85 h26 hf
          · refine zr_iconst (v := 1) C dX7_takes_81 (by decide) ?_
            refine zr_goto (tgt := 86) C dX7_takes_82 (by decide) ?_
            refine zsub [] rfl ?_
            exact J86 h26 (1 : Int32) hf
    · refine zr_aload_n C dX7_takes_22 rfl 0 rfl ?_
      refine zr_aload_n C dX7_takes_23 rfl 0 rfl ?_
      refine zr_gi C hf kg_X7_25 (fun _ _ _ => rfl) dX7_takes_24 (fun x28 hf => ?_)
      refine zr_bipush (v := 10) C dX7_takes_27 (by decide) ?_
      refine zr_icmp_ge (tgt := 36) C hf dX7_takes_29 (by decide) (fun hf => ?_) (fun hf => ?_)
      · refine zr_aload_n C dX7_takes_36 rfl 0 rfl ?_
        refine zr_gi C hf kg_X7_29 (fun _ _ _ => rfl) dX7_takes_37 (fun x29 hf => ?_)
        refine zsub [0] rfl ?_
        exact J40 h a0 a0 x29 hf
      · refine zr_iconst (v := 0) C dX7_takes_32 (by decide) ?_
        refine zr_goto (tgt := 40) C dX7_takes_33 (by decide) ?_
        refine zsub [0] rfl ?_
        exact J40 h a0 a0 (0 : Int32) hf
  · refine zr_aload_n C dX7_takes_7 rfl 0 rfl ?_
    refine zr_iload_n C dX7_takes_8 rfl 1 rfl ?_
    refine zr_callSUi (As := [.int p0]) (rest := [.ref (zB E + a0)]) C hf (fun x hx => c_X9_digitOf l E n h p0 x hx) ku_X7_32 rfl rfl (Nat.le_of_ble_eq_true rfl) ⟨rfl, rfl⟩ ⟨Nat.le_of_ble_eq_true rfl, Nat.le_of_ble_eq_true rfl⟩ ⟨Nat.le_of_ble_eq_true rfl, Nat.le_of_ble_eq_true rfl⟩ dX7_takes_9 (fun x31 h30 hf => ?_)
    refine zr_callVi (As := [.int x31]) (rest := []) C hf (fun x hx => c_X7_takesFirstDigit l E n h30 a0 x31 x hx) kv_X7_36 rfl rfl (Nat.le_of_ble_eq_true rfl) ⟨rfl, rfl⟩ ⟨Nat.le_of_ble_eq_true rfl, Nat.le_of_ble_eq_true rfl⟩ ⟨Nat.le_of_ble_eq_true rfl, Nat.le_of_ble_eq_true rfl⟩ dX7_takes_12 (fun x33 h32 hf => ?_)
    exact zr_zreturn C hf hr (Nat.le_of_ble_eq_true rfl) (Nat.le_of_ble_eq_true rfl) dX7_takes_15
theorem dX8_takesDoing_0 : decode cX8_takesDoing 0 = .ok (.iload_n 1, 1) := by decide +kernel
theorem dX8_takesDoing_1 : decode cX8_takesDoing 1 = .ok (.ifCond .lt 18, 3) := by decide +kernel
theorem dX8_takesDoing_4 : decode cX8_takesDoing 4 = .ok (.iload_n 1, 1) := by decide +kernel
theorem dX8_takesDoing_5 : decode cX8_takesDoing 5 = .ok (.bipush 8, 2) := by decide +kernel
theorem dX8_takesDoing_7 : decode cX8_takesDoing 7 = .ok (.if_icmp .ge 12, 3) := by decide +kernel
theorem dX8_takesDoing_10 : decode cX8_takesDoing 10 = .ok (.aload_n 0, 1) := by decide +kernel
theorem dX8_takesDoing_11 : decode cX8_takesDoing 11 = .ok (.getfield 18, 3) := by decide +kernel
theorem dX8_takesDoing_14 : decode cX8_takesDoing 14 = .ok (.bipush 6, 2) := by decide +kernel
theorem dX8_takesDoing_16 : decode cX8_takesDoing 16 = .ok (.if_icmp .lt 5, 3) := by decide +kernel
theorem dX8_takesDoing_19 : decode cX8_takesDoing 19 = .ok (.iconst 0, 1) := by decide +kernel
theorem dX8_takesDoing_20 : decode cX8_takesDoing 20 = .ok (.ireturn, 1) := by decide +kernel
theorem dX8_takesDoing_21 : decode cX8_takesDoing 21 = .ok (.aload_n 0, 1) := by decide +kernel
theorem dX8_takesDoing_22 : decode cX8_takesDoing 22 = .ok (.getfield 9, 3) := by decide +kernel
theorem dX8_takesDoing_25 : decode cX8_takesDoing 25 = .ok (.aload_n 0, 1) := by decide +kernel
theorem dX8_takesDoing_26 : decode cX8_takesDoing 26 = .ok (.getfield 18, 3) := by decide +kernel
theorem dX8_takesDoing_29 : decode cX8_takesDoing 29 = .ok (.iload_n 1, 1) := by decide +kernel
theorem dX8_takesDoing_30 : decode cX8_takesDoing 30 = .ok (.iastore, 1) := by decide +kernel
theorem dX8_takesDoing_31 : decode cX8_takesDoing 31 = .ok (.aload_n 0, 1) := by decide +kernel
theorem dX8_takesDoing_32 : decode cX8_takesDoing 32 = .ok (.getfield 15, 3) := by decide +kernel
theorem dX8_takesDoing_35 : decode cX8_takesDoing 35 = .ok (.aload_n 0, 1) := by decide +kernel
theorem dX8_takesDoing_36 : decode cX8_takesDoing 36 = .ok (.getfield 18, 3) := by decide +kernel
theorem dX8_takesDoing_39 : decode cX8_takesDoing 39 = .ok (.iconst 0, 1) := by decide +kernel
theorem dX8_takesDoing_40 : decode cX8_takesDoing 40 = .ok (.iastore, 1) := by decide +kernel
theorem dX8_takesDoing_41 : decode cX8_takesDoing 41 = .ok (.aload_n 0, 1) := by decide +kernel
theorem dX8_takesDoing_42 : decode cX8_takesDoing 42 = .ok (.dup, 1) := by decide +kernel
theorem dX8_takesDoing_43 : decode cX8_takesDoing 43 = .ok (.getfield 18, 3) := by decide +kernel
theorem dX8_takesDoing_46 : decode cX8_takesDoing 46 = .ok (.iconst 1, 1) := by decide +kernel
theorem dX8_takesDoing_47 : decode cX8_takesDoing 47 = .ok (.iadd, 1) := by decide +kernel
theorem dX8_takesDoing_48 : decode cX8_takesDoing 48 = .ok (.putfield 18, 3) := by decide +kernel
theorem dX8_takesDoing_51 : decode cX8_takesDoing 51 = .ok (.aload_n 0, 1) := by decide +kernel
theorem dX8_takesDoing_52 : decode cX8_takesDoing 52 = .ok (.iconst 1, 1) := by decide +kernel
theorem dX8_takesDoing_53 : decode cX8_takesDoing 53 = .ok (.putfield 22, 3) := by decide +kernel
theorem dX8_takesDoing_56 : decode cX8_takesDoing 56 = .ok (.iconst 1, 1) := by decide +kernel
theorem dX8_takesDoing_57 : decode cX8_takesDoing 57 = .ok (.ireturn, 1) := by decide +kernel
set_option maxHeartbeats 4000000 in
set_option maxRecDepth 100000 in
theorem c_X8_takesDoing (l : Launch) (E : zE) (n : Nat) (h : zH) (a0 : Nat) (p0 : Int32) (res : Int32 × zH) (hf : F_X8_takesDoing n h a0 p0 = some res) : Met l yX8_takesDoing (zw yX8_takesDoing cX8_takesDoing 2 (some .boolean)) ({ frames := 0, cells := 0, slots := 0, locals := 0 } : Room) (zPc E h [.ref (zB E + a0), .int p0]) (zQc E res.2 (some (.int res.1))) 0 0 (zfr E) := by
  refine zmet (lo := [(0, .ref (zB E + a0)), (1, .int p0)]) (by decide +kernel) (Nat.le_of_ble_eq_true rfl) rfl ?_
  intro p e s m args below meth c C hr hin
  unfold F_X8_takesDoing at hf
  have J19 : ∀ (h2 : zH), F_X8_takesDoing_J19 n h2 = some res → zW p l e (headSpec (zw yX8_takesDoing cX8_takesDoing 2 (some .boolean)) ({ frames := 0, cells := 0, slots := 0, locals := 0 } : Room)).room s m args below meth c E 2 (MQ below (zQc E res.2 (some (.int res.1))) args s 0 0 (zfr E)) 0 0 19 [] [] h2 := by
    intro h2 hf
    unfold F_X8_takesDoing_J19 at hf
    refine zr_iconst (v := 0) C dX8_takesDoing_19 (by decide) ?_
    exact zr_zreturn C hf hr (Nat.le_of_ble_eq_true rfl) (Nat.le_of_ble_eq_true rfl) dX8_takesDoing_20
  refine zr_iload_n C dX8_takesDoing_0 rfl 1 rfl ?_
  refine zr_if_lt (tgt := 19) C hf dX8_takesDoing_1 (by decide) (fun hf => ?_) (fun hf => ?_)
  · refine zsub [] rfl ?_
    exact J19 h hf
  · refine zr_iload_n C dX8_takesDoing_4 rfl 1 rfl ?_
    refine zr_bipush (v := 8) C dX8_takesDoing_5 (by decide) ?_
    refine zr_icmp_ge (tgt := 19) C hf dX8_takesDoing_7 (by decide) (fun hf => ?_) (fun hf => ?_)
    · refine zsub [] rfl ?_
      exact J19 h hf
    · refine zr_aload_n C dX8_takesDoing_10 rfl 0 rfl ?_
      refine zr_gi C hf kg_X8_18 (fun _ _ _ => rfl) dX8_takesDoing_11 (fun x3 hf => ?_)
      refine zr_bipush (v := 6) C dX8_takesDoing_14 (by decide) ?_
      refine zr_icmp_lt (tgt := 21) C hf dX8_takesDoing_16 (by decide) (fun hf => ?_) (fun hf => ?_)
      · refine zr_aload_n C dX8_takesDoing_21 rfl 0 rfl ?_
        refine zr_gr C hf kg_X8_9 (fun _ _ _ => rfl) dX8_takesDoing_22 (fun w4 hf => ?_)
        refine zr_aload_n C dX8_takesDoing_25 rfl 0 rfl ?_
        refine zr_gi C hf kg_X8_18 (fun _ _ _ => rfl) dX8_takesDoing_26 (fun x5 hf => ?_)
        refine zr_iload_n C dX8_takesDoing_29 rfl 1 rfl ?_
        refine zr_iastore C hf dX8_takesDoing_30 (fun h6 hf => ?_)
        refine zr_aload_n C dX8_takesDoing_31 rfl 0 rfl ?_
        refine zr_gr C hf kg_X8_15 (fun _ _ _ => rfl) dX8_takesDoing_32 (fun w7 hf => ?_)
        refine zr_aload_n C dX8_takesDoing_35 rfl 0 rfl ?_
        refine zr_gi C hf kg_X8_18 (fun _ _ _ => rfl) dX8_takesDoing_36 (fun x8 hf => ?_)
        refine zr_iconst (v := 0) C dX8_takesDoing_39 (by decide) ?_
        refine zr_iastore C hf dX8_takesDoing_40 (fun h9 hf => ?_)
        refine zr_aload_n C dX8_takesDoing_41 rfl 0 rfl ?_
        refine zr_dup C dX8_takesDoing_42 rfl ?_
        refine zr_gi C hf kg_X8_18 (fun _ _ _ => rfl) dX8_takesDoing_43 (fun x10 hf => ?_)
        refine zr_iconst (v := 1) C dX8_takesDoing_46 (by decide) ?_
        refine zr_iadd C hf dX8_takesDoing_47 (fun x11 hf => ?_)
        refine zr_si C hf kp_X8_18 (fun _ _ _ => rfl) rfl dX8_takesDoing_48 (fun h12 hf => ?_)
        refine zr_aload_n C dX8_takesDoing_51 rfl 0 rfl ?_
        refine zr_iconst (v := 1) C dX8_takesDoing_52 (by decide) ?_
        refine zr_si C hf kp_X8_22 (fun _ _ _ => rfl) rfl dX8_takesDoing_53 (fun h13 hf => ?_)
        refine zr_iconst (v := 1) C dX8_takesDoing_56 (by decide) ?_
        exact zr_zreturn C hf hr (Nat.le_of_ble_eq_true rfl) (Nat.le_of_ble_eq_true rfl) dX8_takesDoing_57
      · refine zsub [] rfl ?_
        exact J19 h hf
theorem dX8_takesFirstDigit_0 : decode cX8_takesFirstDigit 0 = .ok (.iload_n 1, 1) := by decide +kernel
theorem dX8_takesFirstDigit_1 : decode cX8_takesFirstDigit 1 = .ok (.iconst 1, 1) := by decide +kernel
theorem dX8_takesFirstDigit_2 : decode cX8_takesFirstDigit 2 = .ok (.if_icmp .lt 11, 3) := by decide +kernel
theorem dX8_takesFirstDigit_5 : decode cX8_takesFirstDigit 5 = .ok (.aload_n 0, 1) := by decide +kernel
theorem dX8_takesFirstDigit_6 : decode cX8_takesFirstDigit 6 = .ok (.getfield 18, 3) := by decide +kernel
theorem dX8_takesFirstDigit_9 : decode cX8_takesFirstDigit 9 = .ok (.iconst 1, 1) := by decide +kernel
theorem dX8_takesFirstDigit_10 : decode cX8_takesFirstDigit 10 = .ok (.if_icmp .ge 5, 3) := by decide +kernel
theorem dX8_takesFirstDigit_13 : decode cX8_takesFirstDigit 13 = .ok (.iconst 0, 1) := by decide +kernel
theorem dX8_takesFirstDigit_14 : decode cX8_takesFirstDigit 14 = .ok (.ireturn, 1) := by decide +kernel
theorem dX8_takesFirstDigit_15 : decode cX8_takesFirstDigit 15 = .ok (.aload_n 0, 1) := by decide +kernel
theorem dX8_takesFirstDigit_16 : decode cX8_takesFirstDigit 16 = .ok (.getfield 15, 3) := by decide +kernel
theorem dX8_takesFirstDigit_19 : decode cX8_takesFirstDigit 19 = .ok (.aload_n 0, 1) := by decide +kernel
theorem dX8_takesFirstDigit_20 : decode cX8_takesFirstDigit 20 = .ok (.getfield 18, 3) := by decide +kernel
theorem dX8_takesFirstDigit_23 : decode cX8_takesFirstDigit 23 = .ok (.iconst 1, 1) := by decide +kernel
theorem dX8_takesFirstDigit_24 : decode cX8_takesFirstDigit 24 = .ok (.isub, 1) := by decide +kernel
theorem dX8_takesFirstDigit_25 : decode cX8_takesFirstDigit 25 = .ok (.iload_n 1, 1) := by decide +kernel
theorem dX8_takesFirstDigit_26 : decode cX8_takesFirstDigit 26 = .ok (.iastore, 1) := by decide +kernel
theorem dX8_takesFirstDigit_27 : decode cX8_takesFirstDigit 27 = .ok (.aload_n 0, 1) := by decide +kernel
theorem dX8_takesFirstDigit_28 : decode cX8_takesFirstDigit 28 = .ok (.iconst 3, 1) := by decide +kernel
theorem dX8_takesFirstDigit_29 : decode cX8_takesFirstDigit 29 = .ok (.putfield 22, 3) := by decide +kernel
theorem dX8_takesFirstDigit_32 : decode cX8_takesFirstDigit 32 = .ok (.iconst 1, 1) := by decide +kernel
theorem dX8_takesFirstDigit_33 : decode cX8_takesFirstDigit 33 = .ok (.ireturn, 1) := by decide +kernel
set_option maxHeartbeats 4000000 in
set_option maxRecDepth 100000 in
theorem c_X8_takesFirstDigit (l : Launch) (E : zE) (n : Nat) (h : zH) (a0 : Nat) (p0 : Int32) (res : Int32 × zH) (hf : F_X8_takesFirstDigit n h a0 p0 = some res) : Met l yX8_takesFirstDigit (zw yX8_takesFirstDigit cX8_takesFirstDigit 2 (some .boolean)) ({ frames := 0, cells := 0, slots := 0, locals := 0 } : Room) (zPc E h [.ref (zB E + a0), .int p0]) (zQc E res.2 (some (.int res.1))) 0 0 (zfr E) := by
  refine zmet (lo := [(0, .ref (zB E + a0)), (1, .int p0)]) (by decide +kernel) (Nat.le_of_ble_eq_true rfl) rfl ?_
  intro p e s m args below meth c C hr hin
  unfold F_X8_takesFirstDigit at hf
  have J13 : ∀ (h2 : zH), F_X8_takesFirstDigit_J13 n h2 = some res → zW p l e (headSpec (zw yX8_takesFirstDigit cX8_takesFirstDigit 2 (some .boolean)) ({ frames := 0, cells := 0, slots := 0, locals := 0 } : Room)).room s m args below meth c E 2 (MQ below (zQc E res.2 (some (.int res.1))) args s 0 0 (zfr E)) 0 0 13 [] [] h2 := by
    intro h2 hf
    unfold F_X8_takesFirstDigit_J13 at hf
    refine zr_iconst (v := 0) C dX8_takesFirstDigit_13 (by decide) ?_
    exact zr_zreturn C hf hr (Nat.le_of_ble_eq_true rfl) (Nat.le_of_ble_eq_true rfl) dX8_takesFirstDigit_14
  refine zr_iload_n C dX8_takesFirstDigit_0 rfl 1 rfl ?_
  refine zr_iconst (v := 1) C dX8_takesFirstDigit_1 (by decide) ?_
  refine zr_icmp_lt (tgt := 13) C hf dX8_takesFirstDigit_2 (by decide) (fun hf => ?_) (fun hf => ?_)
  · refine zsub [] rfl ?_
    exact J13 h hf
  · refine zr_aload_n C dX8_takesFirstDigit_5 rfl 0 rfl ?_
    refine zr_gi C hf kg_X8_18 (fun _ _ _ => rfl) dX8_takesFirstDigit_6 (fun x3 hf => ?_)
    refine zr_iconst (v := 1) C dX8_takesFirstDigit_9 (by decide) ?_
    refine zr_icmp_ge (tgt := 15) C hf dX8_takesFirstDigit_10 (by decide) (fun hf => ?_) (fun hf => ?_)
    · refine zr_aload_n C dX8_takesFirstDigit_15 rfl 0 rfl ?_
      refine zr_gr C hf kg_X8_15 (fun _ _ _ => rfl) dX8_takesFirstDigit_16 (fun w4 hf => ?_)
      refine zr_aload_n C dX8_takesFirstDigit_19 rfl 0 rfl ?_
      refine zr_gi C hf kg_X8_18 (fun _ _ _ => rfl) dX8_takesFirstDigit_20 (fun x5 hf => ?_)
      refine zr_iconst (v := 1) C dX8_takesFirstDigit_23 (by decide) ?_
      refine zr_isub C hf dX8_takesFirstDigit_24 (fun x6 hf => ?_)
      refine zr_iload_n C dX8_takesFirstDigit_25 rfl 1 rfl ?_
      refine zr_iastore C hf dX8_takesFirstDigit_26 (fun h7 hf => ?_)
      refine zr_aload_n C dX8_takesFirstDigit_27 rfl 0 rfl ?_
      refine zr_iconst (v := 3) C dX8_takesFirstDigit_28 (by decide) ?_
      refine zr_si C hf kp_X8_22 (fun _ _ _ => rfl) rfl dX8_takesFirstDigit_29 (fun h8 hf => ?_)
      refine zr_iconst (v := 1) C dX8_takesFirstDigit_32 (by decide) ?_
      exact zr_zreturn C hf hr (Nat.le_of_ble_eq_true rfl) (Nat.le_of_ble_eq_true rfl) dX8_takesFirstDigit_33
    · refine zsub [] rfl ?_
      exact J13 h hf
theorem dX8_takesMore_0 : decode cX8_takesMore 0 = .ok (.aload_n 0, 1) := by decide +kernel
theorem dX8_takesMore_1 : decode cX8_takesMore 1 = .ok (.getfield 18, 3) := by decide +kernel
theorem dX8_takesMore_4 : decode cX8_takesMore 4 = .ok (.iconst 1, 1) := by decide +kernel
theorem dX8_takesMore_5 : decode cX8_takesMore 5 = .ok (.if_icmp .ge 5, 3) := by decide +kernel
theorem dX8_takesMore_8 : decode cX8_takesMore 8 = .ok (.iconst 0, 1) := by decide +kernel
theorem dX8_takesMore_9 : decode cX8_takesMore 9 = .ok (.ireturn, 1) := by decide +kernel
theorem dX8_takesMore_10 : decode cX8_takesMore 10 = .ok (.iload_n 1, 1) := by decide +kernel
theorem dX8_takesMore_11 : decode cX8_takesMore 11 = .ok (.bipush 44, 2) := by decide +kernel
theorem dX8_takesMore_13 : decode cX8_takesMore 13 = .ok (.if_icmp .ne 36, 3) := by decide +kernel
theorem dX8_takesMore_16 : decode cX8_takesMore 16 = .ok (.aload_n 0, 1) := by decide +kernel
theorem dX8_takesMore_17 : decode cX8_takesMore 17 = .ok (.aload_n 0, 1) := by decide +kernel
theorem dX8_takesMore_18 : decode cX8_takesMore 18 = .ok (.getfield 18, 3) := by decide +kernel
theorem dX8_takesMore_21 : decode cX8_takesMore 21 = .ok (.bipush 6, 2) := by decide +kernel
theorem dX8_takesMore_23 : decode cX8_takesMore 23 = .ok (.if_icmp .ge 7, 3) := by decide +kernel
theorem dX8_takesMore_26 : decode cX8_takesMore 26 = .ok (.iconst 0, 1) := by decide +kernel
theorem dX8_takesMore_27 : decode cX8_takesMore 27 = .ok (.goto 4, 3) := by decide +kernel
theorem dX8_takesMore_30 : decode cX8_takesMore 30 = .ok (.iconst 3, 1) := by decide +kernel
theorem dX8_takesMore_31 : decode cX8_takesMore 31 = .ok (.putfield 22, 3) := by decide +kernel
theorem dX8_takesMore_34 : decode cX8_takesMore 34 = .ok (.aload_n 0, 1) := by decide +kernel
theorem dX8_takesMore_35 : decode cX8_takesMore 35 = .ok (.getfield 18, 3) := by decide +kernel
theorem dX8_takesMore_38 : decode cX8_takesMore 38 = .ok (.bipush 6, 2) := by decide +kernel
theorem dX8_takesMore_40 : decode cX8_takesMore 40 = .ok (.if_icmp .ge 7, 3) := by decide +kernel
theorem dX8_takesMore_43 : decode cX8_takesMore 43 = .ok (.iconst 1, 1) := by decide +kernel
theorem dX8_takesMore_44 : decode cX8_takesMore 44 = .ok (.goto 4, 3) := by decide +kernel
theorem dX8_takesMore_47 : decode cX8_takesMore 47 = .ok (.iconst 0, 1) := by decide +kernel
theorem dX8_takesMore_48 : decode cX8_takesMore 48 = .ok (.ireturn, 1) := by decide +kernel
theorem dX8_takesMore_49 : decode cX8_takesMore 49 = .ok (.aload_n 0, 1) := by decide +kernel
theorem dX8_takesMore_50 : decode cX8_takesMore 50 = .ok (.getfield 15, 3) := by decide +kernel
theorem dX8_takesMore_53 : decode cX8_takesMore 53 = .ok (.aload_n 0, 1) := by decide +kernel
theorem dX8_takesMore_54 : decode cX8_takesMore 54 = .ok (.getfield 18, 3) := by decide +kernel
theorem dX8_takesMore_57 : decode cX8_takesMore 57 = .ok (.iconst 1, 1) := by decide +kernel
theorem dX8_takesMore_58 : decode cX8_takesMore 58 = .ok (.isub, 1) := by decide +kernel
theorem dX8_takesMore_59 : decode cX8_takesMore 59 = .ok (.iaload, 1) := by decide +kernel
theorem dX8_takesMore_60 : decode cX8_takesMore 60 = .ok (.iload_n 1, 1) := by decide +kernel
theorem dX8_takesMore_61 : decode cX8_takesMore 61 = .ok (.bipush 60, 2) := by decide +kernel
theorem dX8_takesMore_63 : decode cX8_takesMore 63 = .ok (.invokestatic 39, 3) := by decide +kernel
theorem dX8_takesMore_66 : decode cX8_takesMore 66 = .ok (.istore_n 2, 1) := by decide +kernel
theorem dX8_takesMore_67 : decode cX8_takesMore 67 = .ok (.iload_n 2, 1) := by decide +kernel
theorem dX8_takesMore_68 : decode cX8_takesMore 68 = .ok (.iconst (-1), 1) := by decide +kernel
theorem dX8_takesMore_69 : decode cX8_takesMore 69 = .ok (.if_icmp .ne 5, 3) := by decide +kernel
theorem dX8_takesMore_72 : decode cX8_takesMore 72 = .ok (.iconst 0, 1) := by decide +kernel
theorem dX8_takesMore_73 : decode cX8_takesMore 73 = .ok (.ireturn, 1) := by decide +kernel
theorem dX8_takesMore_74 : decode cX8_takesMore 74 = .ok (.aload_n 0, 1) := by decide +kernel
theorem dX8_takesMore_75 : decode cX8_takesMore 75 = .ok (.getfield 15, 3) := by decide +kernel
theorem dX8_takesMore_78 : decode cX8_takesMore 78 = .ok (.aload_n 0, 1) := by decide +kernel
theorem dX8_takesMore_79 : decode cX8_takesMore 79 = .ok (.getfield 18, 3) := by decide +kernel
theorem dX8_takesMore_82 : decode cX8_takesMore 82 = .ok (.iconst 1, 1) := by decide +kernel
theorem dX8_takesMore_83 : decode cX8_takesMore 83 = .ok (.isub, 1) := by decide +kernel
theorem dX8_takesMore_84 : decode cX8_takesMore 84 = .ok (.iload_n 2, 1) := by decide +kernel
theorem dX8_takesMore_85 : decode cX8_takesMore 85 = .ok (.iastore, 1) := by decide +kernel
theorem dX8_takesMore_86 : decode cX8_takesMore 86 = .ok (.iconst 1, 1) := by decide +kernel
theorem dX8_takesMore_87 : decode cX8_takesMore 87 = .ok (.ireturn, 1) := by decide +kernel
set_option maxHeartbeats 4000000 in
set_option maxRecDepth 100000 in
theorem c_X8_takesMore (l : Launch) (E : zE) (n : Nat) (h : zH) (a0 : Nat) (p0 : Int32) (res : Int32 × zH) (hf : F_X8_takesMore n h a0 p0 = some res) : Met l yX8_takesMore (zw yX8_takesMore cX8_takesMore 3 (some .boolean)) ({ frames := 2, cells := 0, slots := 0, locals := 43 } : Room) (zPc E h [.ref (zB E + a0), .int p0]) (zQc E res.2 (some (.int res.1))) 0 0 (zfr E) := by
  refine zmet (lo := [(0, .ref (zB E + a0)), (1, .int p0)]) (by decide +kernel) (Nat.le_of_ble_eq_true rfl) rfl ?_
  intro p e s m args below meth c C hr hin
  unfold F_X8_takesMore at hf
  have J48 : ∀ (h4 : zH) (x3 : Int32), F_X8_takesMore_J48 n h4 x3 = some res → zW p l e (headSpec (zw yX8_takesMore cX8_takesMore 3 (some .boolean)) ({ frames := 2, cells := 0, slots := 0, locals := 43 } : Room)).room s m args below meth c E 3 (MQ below (zQc E res.2 (some (.int res.1))) args s 0 0 (zfr E)) 0 0 48 [] [.int x3] h4 := by
    intro h4 x3 hf
    unfold F_X8_takesMore_J48 at hf
    exact zr_zreturn C hf hr (Nat.le_of_ble_eq_true rfl) (Nat.le_of_ble_eq_true rfl) dX8_takesMore_48
  have J31 : ∀ (h14 : zH) (w11 : Nat) (w12 : Nat) (x13 : Int32), F_X8_takesMore_J31 n h14 w11 w12 x13 = some res → zW p l e (headSpec (zw yX8_takesMore cX8_takesMore 3 (some .boolean)) ({ frames := 2, cells := 0, slots := 0, locals := 43 } : Room)).room s m args below meth c E 3 (MQ below (zQc E res.2 (some (.int res.1))) args s 0 0 (zfr E)) 0 0 31 [(0, .ref (zB E + w11))] [.int x13, .ref (zB E + w12)] h14 := by
    intro h14 w11 w12 x13 hf
    unfold F_X8_takesMore_J31 at hf
    refine zr_si C hf kp_X8_22 (fun _ _ _ => rfl) rfl dX8_takesMore_31 (fun h15 hf => ?_)
    refine zr_aload_n C dX8_takesMore_34 rfl 0 rfl ?_
    refine zr_gi C hf kg_X8_18 (fun _ _ _ => rfl) dX8_takesMore_35 (fun x16 hf => ?_)
    refine zr_bipush (v := 6) C dX8_takesMore_38 (by decide) ?_
    refine zr_icmp_ge (tgt := 47) C hf dX8_takesMore_40 (by decide) (fun hf => ?_) (fun hf => ?_)
    · refine zr_iconst (v := 0) C dX8_takesMore_47 (by decide) ?_
      refine zsub [] rfl ?_
      exact J48 h15 (0 : Int32) hf
    · refine zr_iconst (v := 1) C dX8_takesMore_43 (by decide) ?_
      refine zr_goto (tgt := 48) C dX8_takesMore_44 (by decide) ?_
      refine zsub [] rfl ?_
      exact J48 h15 (1 : Int32) hf
  refine zr_aload_n C dX8_takesMore_0 rfl 0 rfl ?_
  refine zr_gi C hf kg_X8_18 (fun _ _ _ => rfl) dX8_takesMore_1 (fun x17 hf => ?_)
  refine zr_iconst (v := 1) C dX8_takesMore_4 (by decide) ?_
  refine zr_icmp_ge (tgt := 10) C hf dX8_takesMore_5 (by decide) (fun hf => ?_) (fun hf => ?_)
  · refine zr_iload_n C dX8_takesMore_10 rfl 1 rfl ?_
    refine zr_bipush (v := 44) C dX8_takesMore_11 (by decide) ?_
    refine zr_icmp_ne (tgt := 49) C hf dX8_takesMore_13 (by decide) (fun hf => ?_) (fun hf => ?_)
    · refine zr_aload_n C dX8_takesMore_49 rfl 0 rfl ?_
      refine zr_gr C hf kg_X8_15 (fun _ _ _ => rfl) dX8_takesMore_50 (fun w18 hf => ?_)
      refine zr_aload_n C dX8_takesMore_53 rfl 0 rfl ?_
      refine zr_gi C hf kg_X8_18 (fun _ _ _ => rfl) dX8_takesMore_54 (fun x19 hf => ?_)
      refine zr_iconst (v := 1) C dX8_takesMore_57 (by decide) ?_
      refine zr_isub C hf dX8_takesMore_58 (fun x20 hf => ?_)
      refine zr_iaload C hf dX8_takesMore_59 (fun x21 hf => ?_)
      refine zr_iload_n C dX8_takesMore_60 rfl 1 rfl ?_
      refine zr_bipush (v := 60) C dX8_takesMore_61 (by decide) ?_
      refine zr_callSUi (As := [.int x21, .int p0, .int (60 : Int32)]) (rest := []) C hf (fun x hx => c_X9_longer l E n h x21 p0 (60 : Int32) x hx) ku_X8_39 rfl rfl (Nat.le_of_ble_eq_true rfl) ⟨rfl, rfl⟩ ⟨Nat.le_of_ble_eq_true rfl, Nat.le_of_ble_eq_true rfl⟩ ⟨Nat.le_of_ble_eq_true rfl, Nat.le_of_ble_eq_true rfl⟩ dX8_takesMore_63 (fun x23 h22 hf => ?_)
      refine zr_istore_n (lo2 := [(2, .int x23), (0, .ref (zB E + a0)), (1, .int p0)]) C dX8_takesMore_66 rfl (by decide) rfl ?_
      refine zr_iload_n C dX8_takesMore_67 rfl 0 rfl ?_
      refine zr_iconst (v := -1) C dX8_takesMore_68 (by decide) ?_
      refine zr_icmp_ne (tgt := 74) C hf dX8_takesMore_69 (by decide) (fun hf => ?_) (fun hf => ?_)
      · refine zr_aload_n C dX8_takesMore_74 rfl 1 rfl ?_
        refine zr_gr C hf kg_X8_15 (fun _ _ _ => rfl) dX8_takesMore_75 (fun w24 hf => ?_)
        refine zr_aload_n C dX8_takesMore_78 rfl 1 rfl ?_
        refine zr_gi C hf kg_X8_18 (fun _ _ _ => rfl) dX8_takesMore_79 (fun x25 hf => ?_)
        refine zr_iconst (v := 1) C dX8_takesMore_82 (by decide) ?_
        refine zr_isub C hf dX8_takesMore_83 (fun x26 hf => ?_)
        refine zr_iload_n C dX8_takesMore_84 rfl 0 rfl ?_
        refine zr_iastore C hf dX8_takesMore_85 (fun h27 hf => ?_)
        refine zr_iconst (v := 1) C dX8_takesMore_86 (by decide) ?_
        exact zr_zreturn C hf hr (Nat.le_of_ble_eq_true rfl) (Nat.le_of_ble_eq_true rfl) dX8_takesMore_87
      · refine zr_iconst (v := 0) C dX8_takesMore_72 (by decide) ?_
        exact zr_zreturn C hf hr (Nat.le_of_ble_eq_true rfl) (Nat.le_of_ble_eq_true rfl) dX8_takesMore_73
    · refine zr_aload_n C dX8_takesMore_16 rfl 0 rfl ?_
      refine zr_aload_n C dX8_takesMore_17 rfl 0 rfl ?_
      refine zr_gi C hf kg_X8_18 (fun _ _ _ => rfl) dX8_takesMore_18 (fun x28 hf => ?_)
      refine zr_bipush (v := 6) C dX8_takesMore_21 (by decide) ?_
      refine zr_icmp_ge (tgt := 30) C hf dX8_takesMore_23 (by decide) (fun hf => ?_) (fun hf => ?_)
      · refine zr_iconst (v := 3) C dX8_takesMore_30 (by decide) ?_
        refine zsub [0] rfl ?_
        exact J31 h a0 a0 (3 : Int32) hf
      · refine zr_iconst (v := 0) C dX8_takesMore_26 (by decide) ?_
        refine zr_goto (tgt := 31) C dX8_takesMore_27 (by decide) ?_
        refine zsub [0] rfl ?_
        exact J31 h a0 a0 (0 : Int32) hf
  · refine zr_iconst (v := 0) C dX8_takesMore_8 (by decide) ?_
    exact zr_zreturn C hf hr (Nat.le_of_ble_eq_true rfl) (Nat.le_of_ble_eq_true rfl) dX8_takesMore_9
