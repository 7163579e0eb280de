theorem dX10_point_0 : decode cX10_point 0 = .ok (.aload_n 0, 1) := by decide +kernel
theorem dX10_point_1 : decode cX10_point 1 = .ok (.getfield 49, 3) := by decide +kernel
theorem dX10_point_4 : decode cX10_point 4 = .ok (.iload_n 1, 1) := by decide +kernel
theorem dX10_point_5 : decode cX10_point 5 = .ok (.invokevirtual 254, 3) := by decide +kernel
theorem dX10_point_8 : decode cX10_point 8 = .ok (.ifCond .ne 6, 3) := by decide +kernel
theorem dX10_point_11 : decode cX10_point 11 = .ok (.bipush (-101), 2) := by decide +kernel
theorem dX10_point_13 : decode cX10_point 13 = .ok (.ireturn, 1) := by decide +kernel
theorem dX10_point_14 : decode cX10_point 14 = .ok (.iload_n 2, 1) := by decide +kernel
theorem dX10_point_15 : decode cX10_point 15 = .ok (.invokestatic 255, 3) := by decide +kernel
theorem dX10_point_18 : decode cX10_point 18 = .ok (.ifCond .eq 12, 3) := by decide +kernel
theorem dX10_point_21 : decode cX10_point 21 = .ok (.iload_n 3, 1) := by decide +kernel
theorem dX10_point_22 : decode cX10_point 22 = .ok (.iload 4, 2) := by decide +kernel
theorem dX10_point_24 : decode cX10_point 24 = .ok (.invokestatic 258, 3) := by decide +kernel
theorem dX10_point_27 : decode cX10_point 27 = .ok (.ifCond .ne 6, 3) := by decide +kernel
theorem dX10_point_30 : decode cX10_point 30 = .ok (.bipush (-102), 2) := by decide +kernel
theorem dX10_point_32 : decode cX10_point 32 = .ok (.ireturn, 1) := by decide +kernel
theorem dX10_point_33 : decode cX10_point 33 = .ok (.aload_n 0, 1) := by decide +kernel
theorem dX10_point_34 : decode cX10_point 34 = .ok (.getfield 49, 3) := by decide +kernel
theorem dX10_point_37 : decode cX10_point 37 = .ok (.iload_n 2, 1) := by decide +kernel
theorem dX10_point_38 : decode cX10_point 38 = .ok (.iload_n 3, 1) := by decide +kernel
theorem dX10_point_39 : decode cX10_point 39 = .ok (.iload 4, 2) := by decide +kernel
theorem dX10_point_41 : decode cX10_point 41 = .ok (.iconst (-1), 1) := by decide +kernel
theorem dX10_point_42 : decode cX10_point 42 = .ok (.invokevirtual 261, 3) := by decide +kernel
theorem dX10_point_45 : decode cX10_point 45 = .ok (.pop, 1) := by decide +kernel
theorem dX10_point_46 : decode cX10_point 46 = .ok (.aload_n 0, 1) := by decide +kernel
theorem dX10_point_47 : decode cX10_point 47 = .ok (.getfield 49, 3) := by decide +kernel
theorem dX10_point_50 : decode cX10_point 50 = .ok (.getfield 265, 3) := by decide +kernel
theorem dX10_point_53 : decode cX10_point 53 = .ok (.iload_n 1, 1) := by decide +kernel
theorem dX10_point_54 : decode cX10_point 54 = .ok (.iaload, 1) := by decide +kernel
theorem dX10_point_55 : decode cX10_point 55 = .ok (.ireturn, 1) := by decide +kernel
set_option maxHeartbeats 4000000 in
set_option maxRecDepth 100000 in
theorem c_X10_point (l : Launch) (E : zE) (n : Nat) (h : zH) (a0 : Nat) (p0 : Int32) (p1 : Int32) (p2 : Int32) (p3 : Int32) (res : Int32 × zH) (hf : F_X10_point n h a0 p0 p1 p2 p3 = some res) : Met l yX10_point (zw yX10_point cX10_point 5 (some .int)) ({ frames := 3, cells := 0, slots := 0, locals := 75 } : Room) (zPc E h [.ref (zB E + a0), .int p0, .int p1, .int p2, .int p3]) (zQc E res.2 (some (.int res.1))) 0 0 (zfr E) := by
  refine zmet (lo := [(0, .ref (zB E + a0)), (1, .int p0), (2, .int p1), (3, .int p2), (4, .int p3)]) (by decide +kernel) (Nat.le_of_ble_eq_true rfl) rfl ?_
  intro p e s m args below meth c C hr hin
  unfold F_X10_point at hf
  have J30 : ∀ (h2 : zH), F_X10_point_J30 n h2 = some res → zW p l e (headSpec (zw yX10_point cX10_point 5 (some .int)) ({ frames := 3, cells := 0, slots := 0, locals := 75 } : Room)).room s m args below meth c E 5 (MQ below (zQc E res.2 (some (.int res.1))) args s 0 0 (zfr E)) 0 0 30 [] [] h2 := by
    intro h2 hf
    unfold F_X10_point_J30 at hf
    refine zr_bipush (v := -102) C dX10_point_30 (by decide) ?_
    exact zr_ireturn C hf hr (Nat.le_of_ble_eq_true rfl) (Nat.le_of_ble_eq_true rfl) dX10_point_32
  refine zr_aload_n C dX10_point_0 rfl 0 rfl ?_
  refine zr_gr C hf kg_X10_49 (fun _ _ _ => rfl) dX10_point_1 (fun w3 hf => ?_)
  refine zr_iload_n C dX10_point_4 rfl 1 rfl ?_
  refine zr_callVi (As := [.int p0]) (rest := []) C hf (fun x hx => c_X7_has l E n h w3 p0 x hx) kv_X10_254 rfl rfl (Nat.le_of_ble_eq_true rfl) ⟨rfl, rfl⟩ ⟨Nat.le_of_ble_eq_true rfl, Nat.le_of_ble_eq_true rfl⟩ ⟨Nat.le_of_ble_eq_true rfl, Nat.le_of_ble_eq_true rfl⟩ dX10_point_5 (fun x5 h4 hf => ?_)
  refine zr_if_ne (tgt := 14) C hf dX10_point_8 (by decide) (fun hf => ?_) (fun hf => ?_)
  · refine zr_iload_n C dX10_point_14 rfl 2 rfl ?_
    refine zr_callSi (As := [.int p1]) (rest := []) C hf (fun x hx => c_X10_isYears l E n h4 p1 x hx) ks_X10_255 rfl rfl (Nat.le_of_ble_eq_true rfl) ⟨rfl, rfl⟩ ⟨Nat.le_of_ble_eq_true rfl, Nat.le_of_ble_eq_true rfl⟩ ⟨Nat.le_of_ble_eq_true rfl, Nat.le_of_ble_eq_true rfl⟩ dX10_point_15 (fun x7 h6 hf => ?_)
    refine zr_if_eq (tgt := 30) C hf dX10_point_18 (by decide) (fun hf => ?_) (fun hf => ?_)
    · refine zsub [] rfl ?_
      exact J30 h6 hf
    · refine zr_iload_n C dX10_point_21 rfl 3 rfl ?_
      refine zr_iload C dX10_point_22 4 rfl ?_
      refine zr_callSi (As := [.int p2, .int p3]) (rest := []) C hf (fun x hx => c_X10_isFlow l E n h6 p2 p3 x hx) ks_X10_258 rfl rfl (Nat.le_of_ble_eq_true rfl) ⟨rfl, rfl⟩ ⟨Nat.le_of_ble_eq_true rfl, Nat.le_of_ble_eq_true rfl⟩ ⟨Nat.le_of_ble_eq_true rfl, Nat.le_of_ble_eq_true rfl⟩ dX10_point_24 (fun x9 h8 hf => ?_)
      refine zr_if_ne (tgt := 33) C hf dX10_point_27 (by decide) (fun hf => ?_) (fun hf => ?_)
      · refine zr_aload_n C dX10_point_33 rfl 0 rfl ?_
        refine zr_gr C hf kg_X10_49 (fun _ _ _ => rfl) dX10_point_34 (fun w10 hf => ?_)
        refine zr_iload_n C dX10_point_37 rfl 2 rfl ?_
        refine zr_iload_n C dX10_point_38 rfl 3 rfl ?_
        refine zr_iload C dX10_point_39 4 rfl ?_
        refine zr_iconst (v := -1) C dX10_point_41 (by decide) ?_
        refine zr_callVi (As := [.int p1, .int p2, .int p3, .int (-1 : Int32)]) (rest := []) C hf (fun x hx => c_X7_goYears l E n h8 w10 p1 p2 p3 (-1 : Int32) x hx) kv_X10_261 rfl rfl (Nat.le_of_ble_eq_true rfl) ⟨rfl, rfl⟩ ⟨Nat.le_of_ble_eq_true rfl, Nat.le_of_ble_eq_true rfl⟩ ⟨Nat.le_of_ble_eq_true rfl, Nat.le_of_ble_eq_true rfl⟩ dX10_point_42 (fun x12 h11 hf => ?_)
        refine zr_pop C dX10_point_45 rfl ?_
        refine zr_aload_n C dX10_point_46 rfl 0 rfl ?_
        refine zr_gr C hf kg_X10_49 (fun _ _ _ => rfl) dX10_point_47 (fun w13 hf => ?_)
        refine zr_gr C hf kg_X10_265 (fun _ _ _ => rfl) dX10_point_50 (fun w14 hf => ?_)
        refine zr_iload_n C dX10_point_53 rfl 1 rfl ?_
        refine zr_iaload C hf dX10_point_54 (fun x15 hf => ?_)
        exact zr_ireturn C hf hr (Nat.le_of_ble_eq_true rfl) (Nat.le_of_ble_eq_true rfl) dX10_point_55
      · refine zsub [] rfl ?_
        exact J30 h8 hf
  · refine zr_bipush (v := -101) C dX10_point_11 (by decide) ?_
    exact zr_ireturn C hf hr (Nat.le_of_ble_eq_true rfl) (Nat.le_of_ble_eq_true rfl) dX10_point_13
theorem dX10_hasRiver_0 : decode cX10_hasRiver 0 = .ok (.aload_n 0, 1) := by decide +kernel
theorem dX10_hasRiver_1 : decode cX10_hasRiver 1 = .ok (.getfield 49, 3) := by decide +kernel
theorem dX10_hasRiver_4 : decode cX10_hasRiver 4 = .ok (.getfield 141, 3) := by decide +kernel
theorem dX10_hasRiver_7 : decode cX10_hasRiver 7 = .ok (.ifCond .le 7, 3) := by decide +kernel
theorem dX10_hasRiver_10 : decode cX10_hasRiver 10 = .ok (.iconst 1, 1) := by decide +kernel
theorem dX10_hasRiver_11 : decode cX10_hasRiver 11 = .ok (.goto 4, 3) := by decide +kernel
theorem dX10_hasRiver_14 : decode cX10_hasRiver 14 = .ok (.iconst 0, 1) := by decide +kernel
theorem dX10_hasRiver_15 : decode cX10_hasRiver 15 = .ok (.ireturn, 1) := by decide +kernel
set_option maxHeartbeats 4000000 in
set_option maxRecDepth 100000 in
theorem c_X10_hasRiver (l : Launch) (E : zE) (n : Nat) (h : zH) (a0 : Nat) (res : Int32 × zH) (hf : F_X10_hasRiver n h a0 = some res) : Met l yX10_hasRiver (zw yX10_hasRiver cX10_hasRiver 1 (some .boolean)) ({ frames := 0, cells := 0, slots := 0, locals := 0 } : Room) (zPc E h [.ref (zB E + a0)]) (zQc E res.2 (some (.int res.1))) 0 0 (zfr E) := by
  refine zmet (lo := [(0, .ref (zB E + a0))]) (by decide +kernel) (Nat.le_of_ble_eq_true rfl) rfl ?_
  intro p e s m args below meth c C hr hin
  unfold F_X10_hasRiver at hf
  have J15 : ∀ (h4 : zH) (x3 : Int32), F_X10_hasRiver_J15 n h4 x3 = some res → zW p l e (headSpec (zw yX10_hasRiver cX10_hasRiver 1 (some .boolean)) ({ frames := 0, cells := 0, slots := 0, locals := 0 } : Room)).room s m args below meth c E 1 (MQ below (zQc E res.2 (some (.int res.1))) args s 0 0 (zfr E)) 0 0 15 [] [.int x3] h4 := by
    intro h4 x3 hf
    unfold F_X10_hasRiver_J15 at hf
    exact zr_zreturn C hf hr (Nat.le_of_ble_eq_true rfl) (Nat.le_of_ble_eq_true rfl) dX10_hasRiver_15
  refine zr_aload_n C dX10_hasRiver_0 rfl 0 rfl ?_
  refine zr_gr C hf kg_X10_49 (fun _ _ _ => rfl) dX10_hasRiver_1 (fun w5 hf => ?_)
  refine zr_gi C hf kg_X10_141 (fun _ _ _ => rfl) dX10_hasRiver_4 (fun x6 hf => ?_)
  refine zr_if_le (tgt := 14) C hf dX10_hasRiver_7 (by decide) (fun hf => ?_) (fun hf => ?_)
  · refine zr_iconst (v := 0) C dX10_hasRiver_14 (by decide) ?_
    refine zsub [] rfl ?_
    exact J15 h (0 : Int32) hf
  · refine zr_iconst (v := 1) C dX10_hasRiver_10 (by decide) ?_
    refine zr_goto (tgt := 15) C dX10_hasRiver_11 (by decide) ?_
    refine zsub [] rfl ?_
    exact J15 h (1 : Int32) hf
theorem dX10_cuts_0 : decode cX10_cuts 0 = .ok (.aload_n 0, 1) := by decide +kernel
theorem dX10_cuts_1 : decode cX10_cuts 1 = .ok (.invokevirtual 268, 3) := by decide +kernel
theorem dX10_cuts_4 : decode cX10_cuts 4 = .ok (.ifCond .ne 6, 3) := by decide +kernel
theorem dX10_cuts_7 : decode cX10_cuts 7 = .ok (.bipush (-103), 2) := by decide +kernel
theorem dX10_cuts_9 : decode cX10_cuts 9 = .ok (.ireturn, 1) := by decide +kernel
theorem dX10_cuts_10 : decode cX10_cuts 10 = .ok (.iload_n 1, 1) := by decide +kernel
theorem dX10_cuts_11 : decode cX10_cuts 11 = .ok (.invokestatic 255, 3) := by decide +kernel
theorem dX10_cuts_14 : decode cX10_cuts 14 = .ok (.ifCond .eq 11, 3) := by decide +kernel
theorem dX10_cuts_17 : decode cX10_cuts 17 = .ok (.iload_n 2, 1) := by decide +kernel
theorem dX10_cuts_18 : decode cX10_cuts 18 = .ok (.iload_n 3, 1) := by decide +kernel
theorem dX10_cuts_19 : decode cX10_cuts 19 = .ok (.invokestatic 258, 3) := by decide +kernel
theorem dX10_cuts_22 : decode cX10_cuts 22 = .ok (.ifCond .ne 6, 3) := by decide +kernel
theorem dX10_cuts_25 : decode cX10_cuts 25 = .ok (.bipush (-102), 2) := by decide +kernel
theorem dX10_cuts_27 : decode cX10_cuts 27 = .ok (.ireturn, 1) := by decide +kernel
theorem dX10_cuts_28 : decode cX10_cuts 28 = .ok (.aload_n 0, 1) := by decide +kernel
theorem dX10_cuts_29 : decode cX10_cuts 29 = .ok (.getfield 49, 3) := by decide +kernel
theorem dX10_cuts_32 : decode cX10_cuts 32 = .ok (.iload_n 1, 1) := by decide +kernel
theorem dX10_cuts_33 : decode cX10_cuts 33 = .ok (.iload_n 2, 1) := by decide +kernel
theorem dX10_cuts_34 : decode cX10_cuts 34 = .ok (.iload_n 3, 1) := by decide +kernel
theorem dX10_cuts_35 : decode cX10_cuts 35 = .ok (.iconst (-1), 1) := by decide +kernel
theorem dX10_cuts_36 : decode cX10_cuts 36 = .ok (.invokevirtual 261, 3) := by decide +kernel
theorem dX10_cuts_39 : decode cX10_cuts 39 = .ok (.ireturn, 1) := by decide +kernel
set_option maxHeartbeats 4000000 in
set_option maxRecDepth 100000 in
theorem c_X10_cuts (l : Launch) (E : zE) (n : Nat) (h : zH) (a0 : Nat) (p0 : Int32) (p1 : Int32) (p2 : Int32) (res : Int32 × zH) (hf : F_X10_cuts n h a0 p0 p1 p2 = some res) : Met l yX10_cuts (zw yX10_cuts cX10_cuts 4 (some .int)) ({ frames := 3, cells := 0, slots := 0, locals := 75 } : Room) (zPc E h [.ref (zB E + a0), .int p0, .int p1, .int p2]) (zQc E res.2 (some (.int res.1))) 0 0 (zfr E) := by
  refine zmet (lo := [(0, .ref (zB E + a0)), (1, .int p0), (2, .int p1), (3, .int p2)]) (by decide +kernel) (Nat.le_of_ble_eq_true rfl) rfl ?_
  intro p e s m args below meth c C hr hin
  unfold F_X10_cuts at hf
  have J25 : ∀ (h2 : zH), F_X10_cuts_J25 n h2 = some res → zW p l e (headSpec (zw yX10_cuts cX10_cuts 4 (some .int)) ({ frames := 3, cells := 0, slots := 0, locals := 75 } : Room)).room s m args below meth c E 4 (MQ below (zQc E res.2 (some (.int res.1))) args s 0 0 (zfr E)) 0 0 25 [] [] h2 := by
    intro h2 hf
    unfold F_X10_cuts_J25 at hf
    refine zr_bipush (v := -102) C dX10_cuts_25 (by decide) ?_
    exact zr_ireturn C hf hr (Nat.le_of_ble_eq_true rfl) (Nat.le_of_ble_eq_true rfl) dX10_cuts_27
  refine zr_aload_n C dX10_cuts_0 rfl 0 rfl ?_
  refine zr_callVi (As := []) (rest := []) C hf (fun x hx => c_X10_hasRiver l E n h a0 x hx) kv_X10_268 rfl rfl (Nat.le_of_ble_eq_true rfl) ⟨rfl, rfl⟩ ⟨Nat.le_of_ble_eq_true rfl, Nat.le_of_ble_eq_true rfl⟩ ⟨Nat.le_of_ble_eq_true rfl, Nat.le_of_ble_eq_true rfl⟩ dX10_cuts_1 (fun x4 h3 hf => ?_)
  refine zr_if_ne (tgt := 10) C hf dX10_cuts_4 (by decide) (fun hf => ?_) (fun hf => ?_)
  · refine zr_iload_n C dX10_cuts_10 rfl 1 rfl ?_
    refine zr_callSi (As := [.int p0]) (rest := []) C hf (fun x hx => c_X10_isYears l E n h3 p0 x hx) ks_X10_255 rfl rfl (Nat.le_of_ble_eq_true rfl) ⟨rfl, rfl⟩ ⟨Nat.le_of_ble_eq_true rfl, Nat.le_of_ble_eq_true rfl⟩ ⟨Nat.le_of_ble_eq_true rfl, Nat.le_of_ble_eq_true rfl⟩ dX10_cuts_11 (fun x6 h5 hf => ?_)
    refine zr_if_eq (tgt := 25) C hf dX10_cuts_14 (by decide) (fun hf => ?_) (fun hf => ?_)
    · refine zsub [] rfl ?_
      exact J25 h5 hf
    · refine zr_iload_n C dX10_cuts_17 rfl 2 rfl ?_
      refine zr_iload_n C dX10_cuts_18 rfl 3 rfl ?_
      refine zr_callSi (As := [.int p1, .int p2]) (rest := []) C hf (fun x hx => c_X10_isFlow l E n h5 p1 p2 x hx) ks_X10_258 rfl rfl (Nat.le_of_ble_eq_true rfl) ⟨rfl, rfl⟩ ⟨Nat.le_of_ble_eq_true rfl, Nat.le_of_ble_eq_true rfl⟩ ⟨Nat.le_of_ble_eq_true rfl, Nat.le_of_ble_eq_true rfl⟩ dX10_cuts_19 (fun x8 h7 hf => ?_)
      refine zr_if_ne (tgt := 28) C hf dX10_cuts_22 (by decide) (fun hf => ?_) (fun hf => ?_)
      · refine zr_aload_n C dX10_cuts_28 rfl 0 rfl ?_
        refine zr_gr C hf kg_X10_49 (fun _ _ _ => rfl) dX10_cuts_29 (fun w9 hf => ?_)
        refine zr_iload_n C dX10_cuts_32 rfl 1 rfl ?_
        refine zr_iload_n C dX10_cuts_33 rfl 2 rfl ?_
        refine zr_iload_n C dX10_cuts_34 rfl 3 rfl ?_
        refine zr_iconst (v := -1) C dX10_cuts_35 (by decide) ?_
        refine zr_callVi (As := [.int p0, .int p1, .int p2, .int (-1 : Int32)]) (rest := []) C hf (fun x hx => c_X7_goYears l E n h7 w9 p0 p1 p2 (-1 : Int32) x hx) kv_X10_261 rfl rfl (Nat.le_of_ble_eq_true rfl) ⟨rfl, rfl⟩ ⟨Nat.le_of_ble_eq_true rfl, Nat.le_of_ble_eq_true rfl⟩ ⟨Nat.le_of_ble_eq_true rfl, Nat.le_of_ble_eq_true rfl⟩ dX10_cuts_36 (fun x11 h10 hf => ?_)
        exact zr_ireturn C hf hr (Nat.le_of_ble_eq_true rfl) (Nat.le_of_ble_eq_true rfl) dX10_cuts_39
      · refine zsub [] rfl ?_
        exact J25 h7 hf
  · refine zr_bipush (v := -103) C dX10_cuts_7 (by decide) ?_
    exact zr_ireturn C hf hr (Nat.le_of_ble_eq_true rfl) (Nat.le_of_ble_eq_true rfl) dX10_cuts_9
theorem dX10_firstCut_0 : decode cX10_firstCut 0 = .ok (.aload_n 0, 1) := by decide +kernel
theorem dX10_firstCut_1 : decode cX10_firstCut 1 = .ok (.invokevirtual 268, 3) := by decide +kernel
theorem dX10_firstCut_4 : decode cX10_firstCut 4 = .ok (.ifCond .ne 6, 3) := by decide +kernel
theorem dX10_firstCut_7 : decode cX10_firstCut 7 = .ok (.bipush (-103), 2) := by decide +kernel
theorem dX10_firstCut_9 : decode cX10_firstCut 9 = .ok (.ireturn, 1) := by decide +kernel
theorem dX10_firstCut_10 : decode cX10_firstCut 10 = .ok (.iload_n 1, 1) := by decide +kernel
theorem dX10_firstCut_11 : decode cX10_firstCut 11 = .ok (.iload_n 2, 1) := by decide +kernel
theorem dX10_firstCut_12 : decode cX10_firstCut 12 = .ok (.invokestatic 258, 3) := by decide +kernel
theorem dX10_firstCut_15 : decode cX10_firstCut 15 = .ok (.ifCond .ne 6, 3) := by decide +kernel
theorem dX10_firstCut_18 : decode cX10_firstCut 18 = .ok (.bipush (-102), 2) := by decide +kernel
theorem dX10_firstCut_20 : decode cX10_firstCut 20 = .ok (.ireturn, 1) := by decide +kernel
theorem dX10_firstCut_21 : decode cX10_firstCut 21 = .ok (.aload_n 0, 1) := by decide +kernel
theorem dX10_firstCut_22 : decode cX10_firstCut 22 = .ok (.getfield 49, 3) := by decide +kernel
theorem dX10_firstCut_25 : decode cX10_firstCut 25 = .ok (.invokevirtual 271, 3) := by decide +kernel
theorem dX10_firstCut_28 : decode cX10_firstCut 28 = .ok (.iconst 0, 1) := by decide +kernel
theorem dX10_firstCut_29 : decode cX10_firstCut 29 = .ok (.istore_n 3, 1) := by decide +kernel
theorem dX10_firstCut_30 : decode cX10_firstCut 30 = .ok (.iload_n 3, 1) := by decide +kernel
theorem dX10_firstCut_31 : decode cX10_firstCut 31 = .ok (.bipush 100, 2) := by decide +kernel
theorem dX10_firstCut_33 : decode cX10_firstCut 33 = .ok (.if_icmp .ge 24, 3) := by decide +kernel
theorem dX10_firstCut_36 : decode cX10_firstCut 36 = .ok (.aload_n 0, 1) := by decide +kernel
theorem dX10_firstCut_37 : decode cX10_firstCut 37 = .ok (.getfield 49, 3) := by decide +kernel
theorem dX10_firstCut_40 : decode cX10_firstCut 40 = .ok (.iload_n 1, 1) := by decide +kernel
theorem dX10_firstCut_41 : decode cX10_firstCut 41 = .ok (.iload_n 2, 1) := by decide +kernel
theorem dX10_firstCut_42 : decode cX10_firstCut 42 = .ok (.iconst (-1), 1) := by decide +kernel
theorem dX10_firstCut_43 : decode cX10_firstCut 43 = .ok (.invokevirtual 274, 3) := by decide +kernel
theorem dX10_firstCut_46 : decode cX10_firstCut 46 = .ok (.ifCond .le 5, 3) := by decide +kernel
theorem dX10_firstCut_49 : decode cX10_firstCut 49 = .ok (.iload_n 3, 1) := by decide +kernel
theorem dX10_firstCut_50 : decode cX10_firstCut 50 = .ok (.ireturn, 1) := by decide +kernel
theorem dX10_firstCut_51 : decode cX10_firstCut 51 = .ok (.iinc 3 1, 3) := by decide +kernel
theorem dX10_firstCut_54 : decode cX10_firstCut 54 = .ok (.goto (-24), 3) := by decide +kernel
theorem dX10_firstCut_57 : decode cX10_firstCut 57 = .ok (.iconst (-1), 1) := by decide +kernel
theorem dX10_firstCut_58 : decode cX10_firstCut 58 = .ok (.ireturn, 1) := by decide +kernel
set_option maxHeartbeats 4000000 in
set_option maxRecDepth 100000 in
theorem c_X10_firstCut (l : Launch) (E : zE) (n : Nat) (h : zH) (a0 : Nat) (p0 : Int32) (p1 : Int32) (res : Int32 × zH) (hf : F_X10_firstCut n h a0 p0 p1 = some res) : Met l yX10_firstCut (zw yX10_firstCut cX10_firstCut 4 (some .int)) ({ frames := 2, cells := 0, slots := 0, locals := 49 } : Room) (zPc E h [.ref (zB E + a0), .int p0, .int p1]) (zQc E res.2 (some (.int res.1))) 0 0 (zfr E) := by
  refine zmet (lo := [(0, .ref (zB E + a0)), (1, .int p0), (2, .int p1)]) (by decide +kernel) (Nat.le_of_ble_eq_true rfl) rfl ?_
  intro p e s m args below meth c C hr hin
  unfold F_X10_firstCut at hf
  refine zr_aload_n C dX10_firstCut_0 rfl 0 rfl ?_
  refine zr_callVi (As := []) (rest := []) C hf (fun x hx => c_X10_hasRiver l E n h a0 x hx) kv_X10_268 rfl rfl (Nat.le_of_ble_eq_true rfl) ⟨rfl, rfl⟩ ⟨Nat.le_of_ble_eq_true rfl, Nat.le_of_ble_eq_true rfl⟩ ⟨Nat.le_of_ble_eq_true rfl, Nat.le_of_ble_eq_true rfl⟩ dX10_firstCut_1 (fun x2 h1 hf => ?_)
  refine zr_if_ne (tgt := 10) C hf dX10_firstCut_4 (by decide) (fun hf => ?_) (fun hf => ?_)
  · refine zr_iload_n C dX10_firstCut_10 rfl 1 rfl ?_
    refine zr_iload_n C dX10_firstCut_11 rfl 2 rfl ?_
    refine zr_callSi (As := [.int p0, .int p1]) (rest := []) C hf (fun x hx => c_X10_isFlow l E n h1 p0 p1 x hx) ks_X10_258 rfl rfl (Nat.le_of_ble_eq_true rfl) ⟨rfl, rfl⟩ ⟨Nat.le_of_ble_eq_true rfl, Nat.le_of_ble_eq_true rfl⟩ ⟨Nat.le_of_ble_eq_true rfl, Nat.le_of_ble_eq_true rfl⟩ dX10_firstCut_12 (fun x4 h3 hf => ?_)
    refine zr_if_ne (tgt := 21) C hf dX10_firstCut_15 (by decide) (fun hf => ?_) (fun hf => ?_)
    · refine zr_aload_n C dX10_firstCut_21 rfl 0 rfl ?_
      refine zr_gr C hf kg_X10_49 (fun _ _ _ => rfl) dX10_firstCut_22 (fun w5 hf => ?_)
      refine zr_callVv (As := []) (rest := []) C hf (fun x hx => c_X7_beginYears l E n h3 w5 x hx) kv_X10_271 rfl rfl (Nat.le_of_ble_eq_true rfl) ⟨rfl, rfl⟩ ⟨Nat.le_of_ble_eq_true rfl, Nat.le_of_ble_eq_true rfl⟩ ⟨Nat.le_of_ble_eq_true rfl, Nat.le_of_ble_eq_true rfl⟩ dX10_firstCut_25 (fun _ h6 hf => ?_)
      refine zr_iconst (v := 0) C dX10_firstCut_28 (by decide) ?_
      refine zr_istore_n (lo2 := [(3, .int (0 : Int32)), (0, .ref (zB E + a0)), (1, .int p0), (2, .int p1)]) C dX10_firstCut_29 rfl (by decide) rfl ?_
      have L30 : ∀ (fu : Nat) (x : zH × Int32), zloop (fun kc x => F_X10_firstCut_B30 n kc x.1 a0 p0 p1 x.2) fu x = some res → zW p l e (headSpec (zw yX10_firstCut cX10_firstCut 4 (some .int)) ({ frames := 2, cells := 0, slots := 0, locals := 49 } : Room)).room s m args below meth c E 4 (MQ below (zQc E res.2 (some (.int res.1))) args s 0 0 (zfr E)) 0 0 30 [(0, .ref (zB E + a0)), (1, .int p0), (2, .int p1), (3, .int x.2)] [] x.1 := by
        refine z_loop _ ?_
        intro kc30 hk30 x hf
        obtain ⟨h17, x16⟩ := x
        dsimp only at hf ⊢
        unfold F_X10_firstCut_B30 at hf
        refine zr_iload_n C dX10_firstCut_30 rfl 3 rfl ?_
        refine zr_bipush (v := 100) C dX10_firstCut_31 (by decide) ?_
        refine zr_icmp_ge (tgt := 57) C hf dX10_firstCut_33 (by decide) (fun hf => ?_) (fun hf => ?_)
        · refine zr_iconst (v := -1) C dX10_firstCut_57 (by decide) ?_
          exact zr_ireturn C hf hr (Nat.le_of_ble_eq_true rfl) (Nat.le_of_ble_eq_true rfl) dX10_firstCut_58
        · refine zr_aload_n C dX10_firstCut_36 rfl 0 rfl ?_
          refine zr_gr C hf kg_X10_49 (fun _ _ _ => rfl) dX10_firstCut_37 (fun w18 hf => ?_)
          refine zr_iload_n C dX10_firstCut_40 rfl 1 rfl ?_
          refine zr_iload_n C dX10_firstCut_41 rfl 2 rfl ?_
          refine zr_iconst (v := -1) C dX10_firstCut_42 (by decide) ?_
          refine zr_callVi (As := [.int p0, .int p1, .int (-1 : Int32)]) (rest := []) C hf (fun x hx => c_X7_goYear l E n h17 w18 p0 p1 (-1 : Int32) x hx) kv_X10_274 rfl rfl (Nat.le_of_ble_eq_true rfl) ⟨rfl, rfl⟩ ⟨Nat.le_of_ble_eq_true rfl, Nat.le_of_ble_eq_true rfl⟩ ⟨Nat.le_of_ble_eq_true rfl, Nat.le_of_ble_eq_true rfl⟩ dX10_firstCut_43 (fun x20 h19 hf => ?_)
          refine zr_if_le (tgt := 51) C hf dX10_firstCut_46 (by decide) (fun hf => ?_) (fun hf => ?_)
          · refine zr_iinc (v0 := 1) (k := 3) (f := fun v => [(3, .int v), (0, .ref (zB E + a0)), (1, .int p0), (2, .int p1)]) C hf (by decide) dX10_firstCut_51 rfl (by decide) (fun v => rfl) (fun x21 hf => ?_)
            refine zr_goto (tgt := 30) C dX10_firstCut_54 (by decide) ?_
            refine zsub [1, 2, 3, 0] rfl ?_
            exact hk30 (h19, x21) hf
          · refine zr_iload_n C dX10_firstCut_49 rfl 3 rfl ?_
            exact zr_ireturn C hf hr (Nat.le_of_ble_eq_true rfl) (Nat.le_of_ble_eq_true rfl) dX10_firstCut_50
      refine zsub [1, 2, 3, 0] rfl ?_
      exact L30 n (h6, (0 : Int32)) hf
    · refine zr_bipush (v := -102) C dX10_firstCut_18 (by decide) ?_
      exact zr_ireturn C hf hr (Nat.le_of_ble_eq_true rfl) (Nat.le_of_ble_eq_true rfl) dX10_firstCut_20
  · refine zr_bipush (v := -103) C dX10_firstCut_7 (by decide) ?_
    exact zr_ireturn C hf hr (Nat.le_of_ble_eq_true rfl) (Nat.le_of_ble_eq_true rfl) dX10_firstCut_9
theorem dX7_bendsTogether_0 : decode cX7_bendsTogether 0 = .ok (.iconst 0, 1) := by decide +kernel
theorem dX7_bendsTogether_1 : decode cX7_bendsTogether 1 = .ok (.istore_n 1, 1) := by decide +kernel
theorem dX7_bendsTogether_2 : decode cX7_bendsTogether 2 = .ok (.iconst 1, 1) := by decide +kernel
theorem dX7_bendsTogether_3 : decode cX7_bendsTogether 3 = .ok (.istore_n 2, 1) := by decide +kernel
theorem dX7_bendsTogether_4 : decode cX7_bendsTogether 4 = .ok (.iload_n 2, 1) := by decide +kernel
theorem dX7_bendsTogether_5 : decode cX7_bendsTogether 5 = .ok (.aload_n 0, 1) := by decide +kernel
theorem dX7_bendsTogether_6 : decode cX7_bendsTogether 6 = .ok (.getfield 25, 3) := by decide +kernel
theorem dX7_bendsTogether_9 : decode cX7_bendsTogether 9 = .ok (.iconst 1, 1) := by decide +kernel
theorem dX7_bendsTogether_10 : decode cX7_bendsTogether 10 = .ok (.isub, 1) := by decide +kernel
theorem dX7_bendsTogether_11 : decode cX7_bendsTogether 11 = .ok (.if_icmp .ge 23, 3) := by decide +kernel
theorem dX7_bendsTogether_14 : decode cX7_bendsTogether 14 = .ok (.iload_n 1, 1) := by decide +kernel
theorem dX7_bendsTogether_15 : decode cX7_bendsTogether 15 = .ok (.aload_n 0, 1) := by decide +kernel
theorem dX7_bendsTogether_16 : decode cX7_bendsTogether 16 = .ok (.getfield 19, 3) := by decide +kernel
theorem dX7_bendsTogether_19 : decode cX7_bendsTogether 19 = .ok (.iload_n 2, 1) := by decide +kernel
theorem dX7_bendsTogether_20 : decode cX7_bendsTogether 20 = .ok (.invokestatic 50, 3) := by decide +kernel
theorem dX7_bendsTogether_23 : decode cX7_bendsTogether 23 = .ok (.invokestatic 73, 3) := by decide +kernel
theorem dX7_bendsTogether_26 : decode cX7_bendsTogether 26 = .ok (.iadd, 1) := by decide +kernel
theorem dX7_bendsTogether_27 : decode cX7_bendsTogether 27 = .ok (.istore_n 1, 1) := by decide +kernel
theorem dX7_bendsTogether_28 : decode cX7_bendsTogether 28 = .ok (.iinc 2 1, 3) := by decide +kernel
theorem dX7_bendsTogether_31 : decode cX7_bendsTogether 31 = .ok (.goto (-27), 3) := by decide +kernel
theorem dX7_bendsTogether_34 : decode cX7_bendsTogether 34 = .ok (.iload_n 1, 1) := by decide +kernel
theorem dX7_bendsTogether_35 : decode cX7_bendsTogether 35 = .ok (.ireturn, 1) := by decide +kernel
set_option maxHeartbeats 4000000 in
set_option maxRecDepth 100000 in
theorem c_X7_bendsTogether (l : Launch) (E : zE) (n : Nat) (h : zH) (a0 : Nat) (res : Int32 × zH) (hf : F_X7_bendsTogether n h a0 = some res) : Met l yX7_bendsTogether (zw yX7_bendsTogether cX7_bendsTogether 3 (some .int)) ({ frames := 1, cells := 0, slots := 0, locals := 21 } : Room) (zPc E h [.ref (zB E + a0)]) (zQc E res.2 (some (.int res.1))) 0 0 (zfr E) := by
  refine zmet (lo := [(0, .ref (zB E + a0))]) (by decide +kernel) (Nat.le_of_ble_eq_true rfl) rfl ?_
  intro p e s m args below meth c C hr hin
  unfold F_X7_bendsTogether at hf
  refine zr_iconst (v := 0) C dX7_bendsTogether_0 (by decide) ?_
  refine zr_istore_n (lo2 := [(1, .int (0 : Int32)), (0, .ref (zB E + a0))]) C dX7_bendsTogether_1 rfl (by decide) rfl ?_
  refine zr_iconst (v := 1) C dX7_bendsTogether_2 (by decide) ?_
  refine zr_istore_n (lo2 := [(2, .int (1 : Int32)), (1, .int (0 : Int32)), (0, .ref (zB E + a0))]) C dX7_bendsTogether_3 rfl (by decide) rfl ?_
  have L4 : ∀ (fu : Nat) (x : zH × Int32 × Int32), zloop (fun kc x => F_X7_bendsTogether_B4 n kc x.1 a0 x.2.1 x.2.2) fu x = some res → zW p l e (headSpec (zw yX7_bendsTogether cX7_bendsTogether 3 (some .int)) ({ frames := 1, cells := 0, slots := 0, locals := 21 } : Room)).room s m args below meth c E 3 (MQ below (zQc E res.2 (some (.int res.1))) args s 0 0 (zfr E)) 0 0 4 [(0, .ref (zB E + a0)), (1, .int x.2.1), (2, .int x.2.2)] [] x.1 := by
    refine z_loop _ ?_
    intro kc4 hk4 x hf
    obtain ⟨h15, x13, x14⟩ := x
    dsimp only at hf ⊢
    unfold F_X7_bendsTogether_B4 at hf
    refine zr_iload_n C dX7_bendsTogether_4 rfl 2 rfl ?_
    refine zr_aload_n C dX7_bendsTogether_5 rfl 0 rfl ?_
    refine zr_gi C hf kg_X7_25 (fun _ _ _ => rfl) dX7_bendsTogether_6 (fun x16 hf => ?_)
    refine zr_iconst (v := 1) C dX7_bendsTogether_9 (by decide) ?_
    refine zr_isub C hf dX7_bendsTogether_10 (fun x17 hf => ?_)
    refine zr_icmp_ge (tgt := 34) C hf dX7_bendsTogether_11 (by decide) (fun hf => ?_) (fun hf => ?_)
    · refine zr_iload_n C dX7_bendsTogether_34 rfl 1 rfl ?_
      exact zr_ireturn C hf hr (Nat.le_of_ble_eq_true rfl) (Nat.le_of_ble_eq_true rfl) dX7_bendsTogether_35
    · refine zr_iload_n C dX7_bendsTogether_14 rfl 1 rfl ?_
      refine zr_aload_n C dX7_bendsTogether_15 rfl 0 rfl ?_
      refine zr_gr C hf kg_X7_19 (fun _ _ _ => rfl) dX7_bendsTogether_16 (fun w18 hf => ?_)
      refine zr_iload_n C dX7_bendsTogether_19 rfl 2 rfl ?_
      refine zr_callSi (As := [.ref (zB E + w18), .int x14]) (rest := [.int x13]) C hf (fun x hx => c_X7_bendOf l E n h15 w18 x14 x hx) ks_X7_50 rfl rfl (Nat.le_of_ble_eq_true rfl) ⟨rfl, rfl⟩ ⟨Nat.le_of_ble_eq_true rfl, Nat.le_of_ble_eq_true rfl⟩ ⟨Nat.le_of_ble_eq_true rfl, Nat.le_of_ble_eq_true rfl⟩ dX7_bendsTogether_20 (fun x20 h19 hf => ?_)
      refine zr_abs C hf zt827 zt707 zt77 zt708 ⟨Nat.le_of_ble_eq_true rfl, Nat.le_of_ble_eq_true rfl⟩ ⟨Nat.le_of_ble_eq_true rfl, Nat.le_of_ble_eq_true rfl⟩ dX7_bendsTogether_23 (fun x21 hf => ?_)
      refine zr_iadd C hf dX7_bendsTogether_26 (fun x22 hf => ?_)
      refine zr_istore_n (lo2 := [(1, .int x22), (0, .ref (zB E + a0)), (2, .int x14)]) C dX7_bendsTogether_27 rfl (by decide) rfl ?_
      refine zr_iinc (v0 := 1) (k := 2) (f := fun v => [(2, .int v), (1, .int x22), (0, .ref (zB E + a0))]) C hf (by decide) dX7_bendsTogether_28 rfl (by decide) (fun v => rfl) (fun x23 hf => ?_)
      refine zr_goto (tgt := 4) C dX7_bendsTogether_31 (by decide) ?_
      refine zsub [2, 1, 0] rfl ?_
      exact hk4 (h19, x22, x23) hf
  refine zsub [2, 1, 0] rfl ?_
  exact L4 n (h, (0 : Int32), (1 : Int32)) hf
theorem dX10_saves_0 : decode cX10_saves 0 = .ok (.aload_n 0, 1) := by decide +kernel
theorem dX10_saves_1 : decode cX10_saves 1 = .ok (.invokevirtual 268, 3) := by decide +kernel
theorem dX10_saves_4 : decode cX10_saves 4 = .ok (.ifCond .ne 6, 3) := by decide +kernel
theorem dX10_saves_7 : decode cX10_saves 7 = .ok (.bipush (-103), 2) := by decide +kernel
theorem dX10_saves_9 : decode cX10_saves 9 = .ok (.ireturn, 1) := by decide +kernel
theorem dX10_saves_10 : decode cX10_saves 10 = .ok (.iload_n 1, 1) := by decide +kernel
theorem dX10_saves_11 : decode cX10_saves 11 = .ok (.invokestatic 255, 3) := by decide +kernel
theorem dX10_saves_14 : decode cX10_saves 14 = .ok (.ifCond .eq 11, 3) := by decide +kernel
theorem dX10_saves_17 : decode cX10_saves 17 = .ok (.iload_n 2, 1) := by decide +kernel
theorem dX10_saves_18 : decode cX10_saves 18 = .ok (.iload_n 3, 1) := by decide +kernel
theorem dX10_saves_19 : decode cX10_saves 19 = .ok (.invokestatic 258, 3) := by decide +kernel
theorem dX10_saves_22 : decode cX10_saves 22 = .ok (.ifCond .ne 6, 3) := by decide +kernel
theorem dX10_saves_25 : decode cX10_saves 25 = .ok (.bipush (-102), 2) := by decide +kernel
theorem dX10_saves_27 : decode cX10_saves 27 = .ok (.ireturn, 1) := by decide +kernel
theorem dX10_saves_28 : decode cX10_saves 28 = .ok (.iconst (-1), 1) := by decide +kernel
theorem dX10_saves_29 : decode cX10_saves 29 = .ok (.istore 4, 2) := by decide +kernel
theorem dX10_saves_31 : decode cX10_saves 31 = .ok (.ldc 232, 2) := by decide +kernel
theorem dX10_saves_33 : decode cX10_saves 33 = .ok (.istore 5, 2) := by decide +kernel
theorem dX10_saves_35 : decode cX10_saves 35 = .ok (.ldc 232, 2) := by decide +kernel
theorem dX10_saves_37 : decode cX10_saves 37 = .ok (.istore 6, 2) := by decide +kernel
theorem dX10_saves_39 : decode cX10_saves 39 = .ok (.iconst 0, 1) := by decide +kernel
theorem dX10_saves_40 : decode cX10_saves 40 = .ok (.istore 7, 2) := by decide +kernel
theorem dX10_saves_42 : decode cX10_saves 42 = .ok (.iload 7, 2) := by decide +kernel
theorem dX10_saves_44 : decode cX10_saves 44 = .ok (.aload_n 0, 1) := by decide +kernel
theorem dX10_saves_45 : decode cX10_saves 45 = .ok (.getfield 49, 3) := by decide +kernel
theorem dX10_saves_48 : decode cX10_saves 48 = .ok (.getfield 141, 3) := by decide +kernel
theorem dX10_saves_51 : decode cX10_saves 51 = .ok (.if_icmp .ge 77, 3) := by decide +kernel
theorem dX10_saves_54 : decode cX10_saves 54 = .ok (.aload_n 0, 1) := by decide +kernel
theorem dX10_saves_55 : decode cX10_saves 55 = .ok (.getfield 49, 3) := by decide +kernel
theorem dX10_saves_58 : decode cX10_saves 58 = .ok (.iload 7, 2) := by decide +kernel
theorem dX10_saves_60 : decode cX10_saves 60 = .ok (.invokevirtual 277, 3) := by decide +kernel
theorem dX10_saves_63 : decode cX10_saves 63 = .ok (.ifCond .eq 59, 3) := by decide +kernel
theorem dX10_saves_66 : decode cX10_saves 66 = .ok (.aload_n 0, 1) := by decide +kernel
theorem dX10_saves_67 : decode cX10_saves 67 = .ok (.getfield 49, 3) := by decide +kernel
theorem dX10_saves_70 : decode cX10_saves 70 = .ok (.iload_n 1, 1) := by decide +kernel
theorem dX10_saves_71 : decode cX10_saves 71 = .ok (.iload_n 2, 1) := by decide +kernel
theorem dX10_saves_72 : decode cX10_saves 72 = .ok (.iload_n 3, 1) := by decide +kernel
theorem dX10_saves_73 : decode cX10_saves 73 = .ok (.iload 7, 2) := by decide +kernel
theorem dX10_saves_75 : decode cX10_saves 75 = .ok (.invokevirtual 261, 3) := by decide +kernel
theorem dX10_saves_78 : decode cX10_saves 78 = .ok (.istore 8, 2) := by decide +kernel
theorem dX10_saves_80 : decode cX10_saves 80 = .ok (.aload_n 0, 1) := by decide +kernel
theorem dX10_saves_81 : decode cX10_saves 81 = .ok (.getfield 49, 3) := by decide +kernel
theorem dX10_saves_84 : decode cX10_saves 84 = .ok (.invokevirtual 280, 3) := by decide +kernel
theorem dX10_saves_87 : decode cX10_saves 87 = .ok (.istore 9, 2) := by decide +kernel
theorem dX10_saves_89 : decode cX10_saves 89 = .ok (.iload 8, 2) := by decide +kernel
theorem dX10_saves_91 : decode cX10_saves 91 = .ok (.iload 5, 2) := by decide +kernel
theorem dX10_saves_93 : decode cX10_saves 93 = .ok (.if_icmp .lt 17, 3) := by decide +kernel
theorem dX10_saves_96 : decode cX10_saves 96 = .ok (.iload 8, 2) := by decide +kernel
theorem dX10_saves_98 : decode cX10_saves 98 = .ok (.iload 5, 2) := by decide +kernel
theorem dX10_saves_100 : decode cX10_saves 100 = .ok (.if_icmp .ne 22, 3) := by decide +kernel
theorem dX10_saves_103 : decode cX10_saves 103 = .ok (.iload 9, 2) := by decide +kernel
theorem dX10_saves_105 : decode cX10_saves 105 = .ok (.iload 6, 2) := by decide +kernel
theorem dX10_saves_107 : decode cX10_saves 107 = .ok (.if_icmp .ge 15, 3) := by decide +kernel
theorem dX10_saves_110 : decode cX10_saves 110 = .ok (.iload 8, 2) := by decide +kernel
theorem dX10_saves_112 : decode cX10_saves 112 = .ok (.istore 5, 2) := by decide +kernel
theorem dX10_saves_114 : decode cX10_saves 114 = .ok (.iload 9, 2) := by decide +kernel
theorem dX10_saves_116 : decode cX10_saves 116 = .ok (.istore 6, 2) := by decide +kernel
theorem dX10_saves_118 : decode cX10_saves 118 = .ok (.iload 7, 2) := by decide +kernel
theorem dX10_saves_120 : decode cX10_saves 120 = .ok (.istore 4, 2) := by decide +kernel
theorem dX10_saves_122 : decode cX10_saves 122 = .ok (.iinc 7 1, 3) := by decide +kernel
theorem dX10_saves_125 : decode cX10_saves 125 = .ok (.goto (-83), 3) := by decide +kernel
theorem dX10_saves_128 : decode cX10_saves 128 = .ok (.iload 4, 2) := by decide +kernel
theorem dX10_saves_130 : decode cX10_saves 130 = .ok (.ireturn, 1) := by decide +kernel
set_option maxHeartbeats 4000000 in
set_option maxRecDepth 100000 in
theorem c_X10_saves (l : Launch) (E : zE) (n : Nat) (h : zH) (a0 : Nat) (p0 : Int32) (p1 : Int32) (p2 : Int32) (res : Int32 × zH) (hf : F_X10_saves n h a0 p0 p1 p2 = some res) : Met l yX10_saves (zw yX10_saves cX10_saves 10 (some .int)) ({ frames := 3, cells := 0, slots := 0, locals := 75 } : Room) (zPc E h [.ref (zB E + a0), .int p0, .int p1, .int p2]) (zQc E res.2 (some (.int res.1))) 0 0 (zfr E) := by
  refine zmet (lo := [(0, .ref (zB E + a0)), (1, .int p0), (2, .int p1), (3, .int p2)]) (by decide +kernel) (Nat.le_of_ble_eq_true rfl) rfl ?_
  intro p e s m args below meth c C hr hin
  unfold F_X10_saves at hf
  have J25 : ∀ (h2 : zH), F_X10_saves_J25 n h2 = some res → zW p l e (headSpec (zw yX10_saves cX10_saves 10 (some .int)) ({ frames := 3, cells := 0, slots := 0, locals := 75 } : Room)).room s m args below meth c E 10 (MQ below (zQc E res.2 (some (.int res.1))) args s 0 0 (zfr E)) 0 0 25 [] [] h2 := by
    intro h2 hf
    unfold F_X10_saves_J25 at hf
    refine zr_bipush (v := -102) C dX10_saves_25 (by decide) ?_
    exact zr_ireturn C hf hr (Nat.le_of_ble_eq_true rfl) (Nat.le_of_ble_eq_true rfl) dX10_saves_27
  refine zr_aload_n C dX10_saves_0 rfl 0 rfl ?_
  refine zr_callVi (As := []) (rest := []) C hf (fun x hx => c_X10_hasRiver l E n h a0 x hx) kv_X10_268 rfl rfl (Nat.le_of_ble_eq_true rfl) ⟨rfl, rfl⟩ ⟨Nat.le_of_ble_eq_true rfl, Nat.le_of_ble_eq_true rfl⟩ ⟨Nat.le_of_ble_eq_true rfl, Nat.le_of_ble_eq_true rfl⟩ dX10_saves_1 (fun x4 h3 hf => ?_)
  refine zr_if_ne (tgt := 10) C hf dX10_saves_4 (by decide) (fun hf => ?_) (fun hf => ?_)
  · refine zr_iload_n C dX10_saves_10 rfl 1 rfl ?_
    refine zr_callSi (As := [.int p0]) (rest := []) C hf (fun x hx => c_X10_isYears l E n h3 p0 x hx) ks_X10_255 rfl rfl (Nat.le_of_ble_eq_true rfl) ⟨rfl, rfl⟩ ⟨Nat.le_of_ble_eq_true rfl, Nat.le_of_ble_eq_true rfl⟩ ⟨Nat.le_of_ble_eq_true rfl, Nat.le_of_ble_eq_true rfl⟩ dX10_saves_11 (fun x6 h5 hf => ?_)
    refine zr_if_eq (tgt := 25) C hf dX10_saves_14 (by decide) (fun hf => ?_) (fun hf => ?_)
    · refine zsub [] rfl ?_
      exact J25 h5 hf
    · refine zr_iload_n C dX10_saves_17 rfl 2 rfl ?_
      refine zr_iload_n C dX10_saves_18 rfl 3 rfl ?_
      refine zr_callSi (As := [.int p1, .int p2]) (rest := []) C hf (fun x hx => c_X10_isFlow l E n h5 p1 p2 x hx) ks_X10_258 rfl rfl (Nat.le_of_ble_eq_true rfl) ⟨rfl, rfl⟩ ⟨Nat.le_of_ble_eq_true rfl, Nat.le_of_ble_eq_true rfl⟩ ⟨Nat.le_of_ble_eq_true rfl, Nat.le_of_ble_eq_true rfl⟩ dX10_saves_19 (fun x8 h7 hf => ?_)
      refine zr_if_ne (tgt := 28) C hf dX10_saves_22 (by decide) (fun hf => ?_) (fun hf => ?_)
      · refine zr_iconst (v := -1) C dX10_saves_28 (by decide) ?_
        refine zr_istore (lo2 := [(4, .int (-1 : Int32)), (0, .ref (zB E + a0)), (1, .int p0), (2, .int p1), (3, .int p2)]) C dX10_saves_29 (by decide) rfl ?_
        refine zr_ldc (v := 1000000) C zt713 dX10_saves_31 ?_
        refine zr_istore (lo2 := [(5, .int (1000000 : Int32)), (4, .int (-1 : Int32)), (0, .ref (zB E + a0)), (1, .int p0), (2, .int p1), (3, .int p2)]) C dX10_saves_33 (by decide) rfl ?_
        refine zr_ldc (v := 1000000) C zt713 dX10_saves_35 ?_
        refine zr_istore (lo2 := [(6, .int (1000000 : Int32)), (5, .int (1000000 : Int32)), (4, .int (-1 : Int32)), (0, .ref (zB E + a0)), (1, .int p0), (2, .int p1), (3, .int p2)]) C dX10_saves_37 (by decide) rfl ?_
        refine zr_iconst (v := 0) C dX10_saves_39 (by decide) ?_
        refine zr_istore (lo2 := [(7, .int (0 : Int32)), (6, .int (1000000 : Int32)), (5, .int (1000000 : Int32)), (4, .int (-1 : Int32)), (0, .ref (zB E + a0)), (1, .int p0), (2, .int p1), (3, .int p2)]) C dX10_saves_40 (by decide) rfl ?_
        have L42 : ∀ (fu : Nat) (x : zH × Int32 × Int32 × Int32 × Int32), zloop (fun kc x => F_X10_saves_B42 n kc x.1 a0 p0 p1 p2 x.2.1 x.2.2.1 x.2.2.2.1 x.2.2.2.2) fu x = some res → zW p l e (headSpec (zw yX10_saves cX10_saves 10 (some .int)) ({ frames := 3, cells := 0, slots := 0, locals := 75 } : Room)).room s m args below meth c E 10 (MQ below (zQc E res.2 (some (.int res.1))) args s 0 0 (zfr E)) 0 0 42 [(0, .ref (zB E + a0)), (1, .int p0), (2, .int p1), (3, .int p2), (4, .int x.2.1), (5, .int x.2.2.1), (6, .int x.2.2.2.1), (7, .int x.2.2.2.2)] [] x.1 := by
          refine z_loop _ ?_
          intro kc42 hk42 x hf
          obtain ⟨h51, x47, x48, x49, x50⟩ := x
          dsimp only at hf ⊢
          unfold F_X10_saves_B42 at hf
          have J122 : ∀ (h56 : zH) (x52 : Int32) (x53 : Int32) (x54 : Int32) (x55 : Int32), F_X10_saves_J122 n kc42 h56 a0 p0 p1 p2 x52 x53 x54 x55 = some res → zW p l e (headSpec (zw yX10_saves cX10_saves 10 (some .int)) ({ frames := 3, cells := 0, slots := 0, locals := 75 } : Room)).room s m args below meth c E 10 (MQ below (zQc E res.2 (some (.int res.1))) args s 0 0 (zfr E)) 0 0 122 [(0, .ref (zB E + a0)), (1, .int p0), (2, .int p1), (3, .int p2), (4, .int x52), (5, .int x53), (6, .int x54), (7, .int x55)] [] h56 := by
            intro h56 x52 x53 x54 x55 hf
            unfold F_X10_saves_J122 at hf
            refine zr_iinc (v0 := 1) (k := 7) (f := fun v => [(7, .int v), (0, .ref (zB E + a0)), (1, .int p0), (2, .int p1), (3, .int p2), (4, .int x52), (5, .int x53), (6, .int x54)]) C hf (by decide) dX10_saves_122 rfl (by decide) (fun v => rfl) (fun x57 hf => ?_)
            refine zr_goto (tgt := 42) C dX10_saves_125 (by decide) ?_
            refine zsub [1, 2, 3, 4, 5, 6, 7, 0] rfl ?_
            exact hk42 (h56, x52, x53, x54, x57) hf
          have J110 : ∀ (h61 : zH) (x58 : Int32) (x59 : Int32) (x60 : Int32), F_X10_saves_J110 n kc42 h61 a0 p0 p1 p2 x58 x59 x60 = some res → zW p l e (headSpec (zw yX10_saves cX10_saves 10 (some .int)) ({ frames := 3, cells := 0, slots := 0, locals := 75 } : Room)).room s m args below meth c E 10 (MQ below (zQc E res.2 (some (.int res.1))) args s 0 0 (zfr E)) 0 0 110 [(0, .ref (zB E + a0)), (1, .int p0), (2, .int p1), (3, .int p2), (7, .int x58), (8, .int x59), (9, .int x60)] [] h61 := by
            intro h61 x58 x59 x60 hf
            unfold F_X10_saves_J110 at hf
            refine zr_iload C dX10_saves_110 5 rfl ?_
            refine zr_istore (lo2 := [(5, .int x59), (0, .ref (zB E + a0)), (1, .int p0), (2, .int p1), (3, .int p2), (7, .int x58), (8, .int x59), (9, .int x60)]) C dX10_saves_112 (by decide) rfl ?_
            refine zr_iload C dX10_saves_114 7 rfl ?_
            refine zr_istore (lo2 := [(6, .int x60), (5, .int x59), (0, .ref (zB E + a0)), (1, .int p0), (2, .int p1), (3, .int p2), (7, .int x58), (8, .int x59), (9, .int x60)]) C dX10_saves_116 (by decide) rfl ?_
            refine zr_iload C dX10_saves_118 6 rfl ?_
            refine zr_istore (lo2 := [(4, .int x58), (6, .int x60), (5, .int x59), (0, .ref (zB E + a0)), (1, .int p0), (2, .int p1), (3, .int p2), (7, .int x58), (8, .int x59), (9, .int x60)]) C dX10_saves_120 (by decide) rfl ?_
            refine zsub [3, 4, 5, 6, 0, 2, 1, 7] rfl ?_
            exact J122 h61 x58 x59 x60 x58 hf
          refine zr_iload C dX10_saves_42 7 rfl ?_
          refine zr_aload_n C dX10_saves_44 rfl 0 rfl ?_
          refine zr_gr C hf kg_X10_49 (fun _ _ _ => rfl) dX10_saves_45 (fun w62 hf => ?_)
          refine zr_gi C hf kg_X10_141 (fun _ _ _ => rfl) dX10_saves_48 (fun x63 hf => ?_)
          refine zr_icmp_ge (tgt := 128) C hf dX10_saves_51 (by decide) (fun hf => ?_) (fun hf => ?_)
          · refine zr_iload C dX10_saves_128 4 rfl ?_
            exact zr_ireturn C hf hr (Nat.le_of_ble_eq_true rfl) (Nat.le_of_ble_eq_true rfl) dX10_saves_130
          · refine zr_aload_n C dX10_saves_54 rfl 0 rfl ?_
            refine zr_gr C hf kg_X10_49 (fun _ _ _ => rfl) dX10_saves_55 (fun w64 hf => ?_)
            refine zr_iload C dX10_saves_58 7 rfl ?_
            refine zr_callVi (As := [.int x50]) (rest := []) C hf (fun x hx => c_X7_isFree l E n h51 w64 x50 x hx) kv_X10_277 rfl rfl (Nat.le_of_ble_eq_true rfl) ⟨rfl, rfl⟩ ⟨Nat.le_of_ble_eq_true rfl, Nat.le_of_ble_eq_true rfl⟩ ⟨Nat.le_of_ble_eq_true rfl, Nat.le_of_ble_eq_true rfl⟩ dX10_saves_60 (fun x66 h65 hf => ?_)
            refine zr_if_eq (tgt := 122) C hf dX10_saves_63 (by decide) (fun hf => ?_) (fun hf => ?_)
            · exact J122 h65 x47 x48 x49 x50 hf
            · refine zr_aload_n C dX10_saves_66 rfl 0 rfl ?_
              refine zr_gr C hf kg_X10_49 (fun _ _ _ => rfl) dX10_saves_67 (fun w67 hf => ?_)
              refine zr_iload_n C dX10_saves_70 rfl 1 rfl ?_
              refine zr_iload_n C dX10_saves_71 rfl 2 rfl ?_
              refine zr_iload_n C dX10_saves_72 rfl 3 rfl ?_
              refine zr_iload C dX10_saves_73 7 rfl ?_
              refine zr_callVi (As := [.int p0, .int p1, .int p2, .int x50]) (rest := []) C hf (fun x hx => c_X7_goYears l E n h65 w67 p0 p1 p2 x50 x hx) kv_X10_261 rfl rfl (Nat.le_of_ble_eq_true rfl) ⟨rfl, rfl⟩ ⟨Nat.le_of_ble_eq_true rfl, Nat.le_of_ble_eq_true rfl⟩ ⟨Nat.le_of_ble_eq_true rfl, Nat.le_of_ble_eq_true rfl⟩ dX10_saves_75 (fun x69 h68 hf => ?_)
              refine zr_istore (lo2 := [(8, .int x69), (0, .ref (zB E + a0)), (1, .int p0), (2, .int p1), (3, .int p2), (4, .int x47), (5, .int x48), (6, .int x49), (7, .int x50)]) C dX10_saves_78 (by decide) rfl ?_
              refine zr_aload_n C dX10_saves_80 rfl 1 rfl ?_
              refine zr_gr C hf kg_X10_49 (fun _ _ _ => rfl) dX10_saves_81 (fun w70 hf => ?_)
              refine zr_callVi (As := []) (rest := []) C hf (fun x hx => c_X7_bendsTogether l E n h68 w70 x hx) kv_X10_280 rfl rfl (Nat.le_of_ble_eq_true rfl) ⟨rfl, rfl⟩ ⟨Nat.le_of_ble_eq_true rfl, Nat.le_of_ble_eq_true rfl⟩ ⟨Nat.le_of_ble_eq_true rfl, Nat.le_of_ble_eq_true rfl⟩ dX10_saves_84 (fun x72 h71 hf => ?_)
              refine zr_istore (lo2 := [(9, .int x72), (8, .int x69), (0, .ref (zB E + a0)), (1, .int p0), (2, .int p1), (3, .int p2), (4, .int x47), (5, .int x48), (6, .int x49), (7, .int x50)]) C dX10_saves_87 (by decide) rfl ?_
              refine zr_iload C dX10_saves_89 1 rfl ?_
              refine zr_iload C dX10_saves_91 7 rfl ?_
              refine zr_icmp_lt (tgt := 110) C hf dX10_saves_93 (by decide) (fun hf => ?_) (fun hf => ?_)
              · refine zsub [2, 3, 4, 5, 9, 1, 0] rfl ?_
                exact J110 h71 x50 x69 x72 hf
              · refine zr_iload C dX10_saves_96 1 rfl ?_
                refine zr_iload C dX10_saves_98 7 rfl ?_
                refine zr_icmp_ne (tgt := 122) C hf dX10_saves_100 (by decide) (fun hf => ?_) (fun hf => ?_)
                · refine zsub [2, 3, 4, 5, 6, 7, 8, 9] rfl ?_
                  exact J122 h71 x47 x48 x49 x50 hf
                · refine zr_iload C dX10_saves_103 0 rfl ?_
                  refine zr_iload C dX10_saves_105 8 rfl ?_
                  refine zr_icmp_ge (tgt := 122) C hf dX10_saves_107 (by decide) (fun hf => ?_) (fun hf => ?_)
                  · refine zsub [2, 3, 4, 5, 6, 7, 8, 9] rfl ?_
                    exact J122 h71 x47 x48 x49 x50 hf
                  · refine zsub [2, 3, 4, 5, 9, 1, 0] rfl ?_
                    exact J110 h71 x50 x69 x72 hf
        refine zsub [4, 5, 6, 7, 3, 2, 1, 0] rfl ?_
        exact L42 n (h7, (-1 : Int32), (1000000 : Int32), (1000000 : Int32), (0 : Int32)) hf
      · refine zsub [] rfl ?_
        exact J25 h7 hf
  · refine zr_bipush (v := -103) C dX10_saves_7 (by decide) ?_
    exact zr_ireturn C hf hr (Nat.le_of_ble_eq_true rfl) (Nat.le_of_ble_eq_true rfl) dX10_saves_9
theorem dX3_keep_0 : decode cX3_keep 0 = .ok (.aload_n 0, 1) := by decide +kernel
theorem dX3_keep_1 : decode cX3_keep 1 = .ok (.aload_n 3, 1) := by decide +kernel
theorem dX3_keep_2 : decode cX3_keep 2 = .ok (.getfield 29, 3) := by decide +kernel
theorem dX3_keep_5 : decode cX3_keep 5 = .ok (.bipush 8, 2) := by decide +kernel
theorem dX3_keep_7 : decode cX3_keep 7 = .ok (.invokestatic 34, 3) := by decide +kernel
theorem dX3_keep_10 : decode cX3_keep 10 = .ok (.putfield 25, 3) := by decide +kernel
theorem dX3_keep_13 : decode cX3_keep 13 = .ok (.aload_n 0, 1) := by decide +kernel
theorem dX3_keep_14 : decode cX3_keep 14 = .ok (.getfield 12, 3) := by decide +kernel
theorem dX3_keep_17 : decode cX3_keep 17 = .ok (.aload_n 1, 1) := by decide +kernel
theorem dX3_keep_18 : decode cX3_keep 18 = .ok (.aload_n 0, 1) := by decide +kernel
theorem dX3_keep_19 : decode cX3_keep 19 = .ok (.getfield 25, 3) := by decide +kernel
theorem dX3_keep_22 : decode cX3_keep 22 = .ok (.invokevirtual 40, 3) := by decide +kernel
theorem dX3_keep_25 : decode cX3_keep 25 = .ok (.iconst 0, 1) := by decide +kernel
theorem dX3_keep_26 : decode cX3_keep 26 = .ok (.istore 4, 2) := by decide +kernel
theorem dX3_keep_28 : decode cX3_keep 28 = .ok (.iload 4, 2) := by decide +kernel
theorem dX3_keep_30 : decode cX3_keep 30 = .ok (.bipush 6, 2) := by decide +kernel
theorem dX3_keep_32 : decode cX3_keep 32 = .ok (.if_icmp .ge 20, 3) := by decide +kernel
theorem dX3_keep_35 : decode cX3_keep 35 = .ok (.aload_n 0, 1) := by decide +kernel
theorem dX3_keep_36 : decode cX3_keep 36 = .ok (.getfield 18, 3) := by decide +kernel
theorem dX3_keep_39 : decode cX3_keep 39 = .ok (.iload 4, 2) := by decide +kernel
theorem dX3_keep_41 : decode cX3_keep 41 = .ok (.aload_n 2, 1) := by decide +kernel
theorem dX3_keep_42 : decode cX3_keep 42 = .ok (.iload 4, 2) := by decide +kernel
theorem dX3_keep_44 : decode cX3_keep 44 = .ok (.iaload, 1) := by decide +kernel
theorem dX3_keep_45 : decode cX3_keep 45 = .ok (.iastore, 1) := by decide +kernel
theorem dX3_keep_46 : decode cX3_keep 46 = .ok (.iinc 4 1, 3) := by decide +kernel
theorem dX3_keep_49 : decode cX3_keep 49 = .ok (.goto (-21), 3) := by decide +kernel
theorem dX3_keep_52 : decode cX3_keep 52 = .ok (.iconst 0, 1) := by decide +kernel
theorem dX3_keep_53 : decode cX3_keep 53 = .ok (.istore 4, 2) := by decide +kernel
theorem dX3_keep_55 : decode cX3_keep 55 = .ok (.iload 4, 2) := by decide +kernel
theorem dX3_keep_57 : decode cX3_keep 57 = .ok (.aload_n 0, 1) := by decide +kernel
theorem dX3_keep_58 : decode cX3_keep 58 = .ok (.getfield 25, 3) := by decide +kernel
theorem dX3_keep_61 : decode cX3_keep 61 = .ok (.if_icmp .ge 23, 3) := by decide +kernel
theorem dX3_keep_64 : decode cX3_keep 64 = .ok (.aload_n 0, 1) := by decide +kernel
theorem dX3_keep_65 : decode cX3_keep 65 = .ok (.getfield 22, 3) := by decide +kernel
theorem dX3_keep_68 : decode cX3_keep 68 = .ok (.iload 4, 2) := by decide +kernel
theorem dX3_keep_70 : decode cX3_keep 70 = .ok (.aload_n 3, 1) := by decide +kernel
theorem dX3_keep_71 : decode cX3_keep 71 = .ok (.getfield 44, 3) := by decide +kernel
theorem dX3_keep_74 : decode cX3_keep 74 = .ok (.iload 4, 2) := by decide +kernel
theorem dX3_keep_76 : decode cX3_keep 76 = .ok (.iaload, 1) := by decide +kernel
theorem dX3_keep_77 : decode cX3_keep 77 = .ok (.iastore, 1) := by decide +kernel
theorem dX3_keep_78 : decode cX3_keep 78 = .ok (.iinc 4 1, 3) := by decide +kernel
theorem dX3_keep_81 : decode cX3_keep 81 = .ok (.goto (-26), 3) := by decide +kernel
theorem dX3_keep_84 : decode cX3_keep 84 = .ok (.return_, 1) := by decide +kernel
set_option maxHeartbeats 4000000 in
set_option maxRecDepth 100000 in
theorem c_X3_keep (l : Launch) (E : zE) (n : Nat) (h : zH) (a0 : Nat) (p0 : Nat) (p1 : Nat) (p2 : Nat) (res : Unit × zH) (hf : F_X3_keep n h a0 p0 p1 p2 = some res) : Met l yX3_keep (zw yX3_keep cX3_keep 5 none) ({ frames := 1, cells := 0, slots := 0, locals := 24 } : Room) (zPc E h [.ref (zB E + a0), .ref (zB E + p0), .ref (zB E + p1), .ref (zB E + p2)]) (zQc E res.2 none) 0 0 (zfr E) := by
  refine zmet (lo := [(0, .ref (zB E + a0)), (1, .ref (zB E + p0)), (2, .ref (zB E + p1)), (3, .ref (zB E + p2))]) (by decide +kernel) (Nat.le_of_ble_eq_true rfl) rfl ?_
  intro p e s m args below meth c C hr hin
  unfold F_X3_keep at hf
  refine zr_aload_n C dX3_keep_0 rfl 0 rfl ?_
  refine zr_aload_n C dX3_keep_1 rfl 3 rfl ?_
  refine zr_gi C hf kg_X3_29 (fun _ _ _ => rfl) dX3_keep_2 (fun x1 hf => ?_)
  refine zr_bipush (v := 8) C dX3_keep_5 (by decide) ?_
  refine zr_min C hf zt836 zt610 zt77 zt611 ⟨Nat.le_of_ble_eq_true rfl, Nat.le_of_ble_eq_true rfl⟩ ⟨Nat.le_of_ble_eq_true rfl, Nat.le_of_ble_eq_true rfl⟩ dX3_keep_7 (fun x2 hf => ?_)
  refine zr_si C hf kp_X3_25 (fun _ _ _ => rfl) rfl dX3_keep_10 (fun h3 hf => ?_)
  refine zr_aload_n C dX3_keep_13 rfl 0 rfl ?_
  refine zr_gr C hf kg_X3_12 (fun _ _ _ => rfl) dX3_keep_14 (fun w4 hf => ?_)
  refine zr_aload_n C dX3_keep_17 rfl 1 rfl ?_
  refine zr_aload_n C dX3_keep_18 rfl 0 rfl ?_
  refine zr_gi C hf kg_X3_25 (fun _ _ _ => rfl) dX3_keep_19 (fun x5 hf => ?_)
  refine zr_callVv (As := [.ref (zB E + p0), .int x5]) (rest := []) C hf (fun x hx => c_X0_copyFrom l E n h3 w4 p0 x5 x hx) kv_X3_40 rfl rfl (Nat.le_of_ble_eq_true rfl) ⟨rfl, rfl⟩ ⟨Nat.le_of_ble_eq_true rfl, Nat.le_of_ble_eq_true rfl⟩ ⟨Nat.le_of_ble_eq_true rfl, Nat.le_of_ble_eq_true rfl⟩ dX3_keep_22 (fun _ h6 hf => ?_)
  refine zr_iconst (v := 0) C dX3_keep_25 (by decide) ?_
  refine zr_istore (lo2 := [(4, .int (0 : Int32)), (0, .ref (zB E + a0)), (1, .ref (zB E + p0)), (2, .ref (zB E + p1)), (3, .ref (zB E + p2))]) C dX3_keep_26 (by decide) rfl ?_
  have L28 : ∀ (fu : Nat) (x : zH × Int32), zloop (fun kc x => F_X3_keep_B28 n kc x.1 a0 p1 p2 x.2) fu x = some res → zW p l e (headSpec (zw yX3_keep cX3_keep 5 none) ({ frames := 1, cells := 0, slots := 0, locals := 24 } : Room)).room s m args below meth c E 5 (MQ below (zQc E res.2 none) args s 0 0 (zfr E)) 0 0 28 [(0, .ref (zB E + a0)), (2, .ref (zB E + p1)), (3, .ref (zB E + p2)), (4, .int x.2)] [] x.1 := by
    refine z_loop _ ?_
    intro kc28 hk28 x hf
    obtain ⟨h35, x34⟩ := x
    dsimp only at hf ⊢
    unfold F_X3_keep_B28 at hf
    refine zr_iload C dX3_keep_28 3 rfl ?_
    refine zr_bipush (v := 6) C dX3_keep_30 (by decide) ?_
    refine zr_icmp_ge (tgt := 52) C hf dX3_keep_32 (by decide) (fun hf => ?_) (fun hf => ?_)
    · refine zr_iconst (v := 0) C dX3_keep_52 (by decide) ?_
      refine zr_istore (lo2 := [(4, .int (0 : Int32)), (0, .ref (zB E + a0)), (2, .ref (zB E + p1)), (3, .ref (zB E + p2))]) C dX3_keep_53 (by decide) rfl ?_
      have L55 : ∀ (fu : Nat) (x : zH × Int32), zloop (fun kc x => F_X3_keep_B55 n kc x.1 a0 p2 x.2) fu x = some res → zW p l e (headSpec (zw yX3_keep cX3_keep 5 none) ({ frames := 1, cells := 0, slots := 0, locals := 24 } : Room)).room s m args below meth c E 5 (MQ below (zQc E res.2 none) args s 0 0 (zfr E)) 0 0 55 [(0, .ref (zB E + a0)), (3, .ref (zB E + p2)), (4, .int x.2)] [] x.1 := by
        refine z_loop _ ?_
        intro kc55 hk55 x hf
        obtain ⟨h37, x36⟩ := x
        dsimp only at hf ⊢
        unfold F_X3_keep_B55 at hf
        refine zr_iload C dX3_keep_55 2 rfl ?_
        refine zr_aload_n C dX3_keep_57 rfl 0 rfl ?_
        refine zr_gi C hf kg_X3_25 (fun _ _ _ => rfl) dX3_keep_58 (fun x38 hf => ?_)
        refine zr_icmp_ge (tgt := 84) C hf dX3_keep_61 (by decide) (fun hf => ?_) (fun hf => ?_)
        · exact zr_return C hf hr (Nat.le_of_ble_eq_true rfl) (Nat.le_of_ble_eq_true rfl) dX3_keep_84
        · refine zr_aload_n C dX3_keep_64 rfl 0 rfl ?_
          refine zr_gr C hf kg_X3_22 (fun _ _ _ => rfl) dX3_keep_65 (fun w39 hf => ?_)
          refine zr_iload C dX3_keep_68 2 rfl ?_
          refine zr_aload_n C dX3_keep_70 rfl 1 rfl ?_
          refine zr_gr C hf kg_X3_44 (fun _ _ _ => rfl) dX3_keep_71 (fun w40 hf => ?_)
          refine zr_iload C dX3_keep_74 2 rfl ?_
          refine zr_iaload C hf dX3_keep_76 (fun x41 hf => ?_)
          refine zr_iastore C hf dX3_keep_77 (fun h42 hf => ?_)
          refine zr_iinc (v0 := 1) (k := 2) (f := fun v => [(4, .int v), (0, .ref (zB E + a0)), (3, .ref (zB E + p2))]) C hf (by decide) dX3_keep_78 rfl (by decide) (fun v => rfl) (fun x43 hf => ?_)
          refine zr_goto (tgt := 55) C dX3_keep_81 (by decide) ?_
          refine zsub [1, 2, 0] rfl ?_
          exact hk55 (h42, x43) hf
      refine zsub [1, 3, 0] rfl ?_
      exact L55 n (h35, (0 : Int32)) hf
    · refine zr_aload_n C dX3_keep_35 rfl 0 rfl ?_
      refine zr_gr C hf kg_X3_18 (fun _ _ _ => rfl) dX3_keep_36 (fun w44 hf => ?_)
      refine zr_iload C dX3_keep_39 3 rfl ?_
      refine zr_aload_n C dX3_keep_41 rfl 1 rfl ?_
      refine zr_iload C dX3_keep_42 3 rfl ?_
      refine zr_iaload C hf dX3_keep_44 (fun x45 hf => ?_)
      refine zr_iastore C hf dX3_keep_45 (fun h46 hf => ?_)
      refine zr_iinc (v0 := 1) (k := 3) (f := fun v => [(4, .int v), (0, .ref (zB E + a0)), (2, .ref (zB E + p1)), (3, .ref (zB E + p2))]) C hf (by decide) dX3_keep_46 rfl (by decide) (fun v => rfl) (fun x47 hf => ?_)
      refine zr_goto (tgt := 28) C dX3_keep_49 (by decide) ?_
      refine zsub [1, 2, 3, 0] rfl ?_
      exact hk28 (h46, x47) hf
  refine zsub [1, 3, 4, 0] rfl ?_
  exact L28 n (h6, (0 : Int32)) hf
theorem dX10_image_0 : decode cX10_image 0 = .ok (.aload_n 0, 1) := by decide +kernel
theorem dX10_image_1 : decode cX10_image 1 = .ok (.invokevirtual 144, 3) := by decide +kernel
theorem dX10_image_4 : decode cX10_image 4 = .ok (.ifCond .ne 6, 3) := by decide +kernel
theorem dX10_image_7 : decode cX10_image 7 = .ok (.bipush (-103), 2) := by decide +kernel
theorem dX10_image_9 : decode cX10_image 9 = .ok (.ireturn, 1) := by decide +kernel
theorem dX10_image_10 : decode cX10_image 10 = .ok (.aload_n 0, 1) := by decide +kernel
theorem dX10_image_11 : decode cX10_image 11 = .ok (.getfield 95, 3) := by decide +kernel
theorem dX10_image_14 : decode cX10_image 14 = .ok (.aload_n 0, 1) := by decide +kernel
theorem dX10_image_15 : decode cX10_image 15 = .ok (.getfield 85, 3) := by decide +kernel
theorem dX10_image_18 : decode cX10_image 18 = .ok (.aload_n 0, 1) := by decide +kernel
theorem dX10_image_19 : decode cX10_image 19 = .ok (.getfield 99, 3) := by decide +kernel
theorem dX10_image_22 : decode cX10_image 22 = .ok (.aload_n 0, 1) := by decide +kernel
theorem dX10_image_23 : decode cX10_image 23 = .ok (.getfield 75, 3) := by decide +kernel
theorem dX10_image_26 : decode cX10_image 26 = .ok (.invokevirtual 283, 3) := by decide +kernel
theorem dX10_image_29 : decode cX10_image 29 = .ok (.aload_n 0, 1) := by decide +kernel
theorem dX10_image_30 : decode cX10_image 30 = .ok (.getfield 75, 3) := by decide +kernel
theorem dX10_image_33 : decode cX10_image 33 = .ok (.getfield 197, 3) := by decide +kernel
theorem dX10_image_36 : decode cX10_image 36 = .ok (.ireturn, 1) := by decide +kernel
set_option maxHeartbeats 4000000 in
set_option maxRecDepth 100000 in
theorem c_X10_image (l : Launch) (E : zE) (n : Nat) (h : zH) (a0 : Nat) (res : Int32 × zH) (hf : F_X10_image n h a0 = some res) : Met l yX10_image (zw yX10_image cX10_image 1 (some .int)) ({ frames := 2, cells := 0, slots := 0, locals := 48 } : Room) (zPc E h [.ref (zB E + a0)]) (zQc E res.2 (some (.int res.1))) 0 0 (zfr E) := by
  refine zmet (lo := [(0, .ref (zB E + a0))]) (by decide +kernel) (Nat.le_of_ble_eq_true rfl) rfl ?_
  intro p e s m args below meth c C hr hin
  unfold F_X10_image at hf
  refine zr_aload_n C dX10_image_0 rfl 0 rfl ?_
  refine zr_callVi (As := []) (rest := []) C hf (fun x hx => c_X10_hasCup l E n h a0 x hx) kv_X10_144 rfl rfl (Nat.le_of_ble_eq_true rfl) ⟨rfl, rfl⟩ ⟨Nat.le_of_ble_eq_true rfl, Nat.le_of_ble_eq_true rfl⟩ ⟨Nat.le_of_ble_eq_true rfl, Nat.le_of_ble_eq_true rfl⟩ dX10_image_1 (fun x2 h1 hf => ?_)
  refine zr_if_ne (tgt := 10) C hf dX10_image_4 (by decide) (fun hf => ?_) (fun hf => ?_)
  · refine zr_aload_n C dX10_image_10 rfl 0 rfl ?_
    refine zr_gr C hf kg_X10_95 (fun _ _ _ => rfl) dX10_image_11 (fun w3 hf => ?_)
    refine zr_aload_n C dX10_image_14 rfl 0 rfl ?_
    refine zr_gr C hf kg_X10_85 (fun _ _ _ => rfl) dX10_image_15 (fun w4 hf => ?_)
    refine zr_aload_n C dX10_image_18 rfl 0 rfl ?_
    refine zr_gr C hf kg_X10_99 (fun _ _ _ => rfl) dX10_image_19 (fun w5 hf => ?_)
    refine zr_aload_n C dX10_image_22 rfl 0 rfl ?_
    refine zr_gr C hf kg_X10_75 (fun _ _ _ => rfl) dX10_image_23 (fun w6 hf => ?_)
    refine zr_callVv (As := [.ref (zB E + w4), .ref (zB E + w5), .ref (zB E + w6)]) (rest := []) C hf (fun x hx => c_X3_keep l E n h1 w3 w4 w5 w6 x hx) kv_X10_283 rfl rfl (Nat.le_of_ble_eq_true rfl) ⟨rfl, rfl⟩ ⟨Nat.le_of_ble_eq_true rfl, Nat.le_of_ble_eq_true rfl⟩ ⟨Nat.le_of_ble_eq_true rfl, Nat.le_of_ble_eq_true rfl⟩ dX10_image_26 (fun _ h7 hf => ?_)
    refine zr_aload_n C dX10_image_29 rfl 0 rfl ?_
    refine zr_gr C hf kg_X10_75 (fun _ _ _ => rfl) dX10_image_30 (fun w8 hf => ?_)
    refine zr_gi C hf kg_X10_197 (fun _ _ _ => rfl) dX10_image_33 (fun x9 hf => ?_)
    exact zr_ireturn C hf hr (Nat.le_of_ble_eq_true rfl) (Nat.le_of_ble_eq_true rfl) dX10_image_36
  · refine zr_bipush (v := -103) C dX10_image_7 (by decide) ?_
    exact zr_ireturn C hf hr (Nat.le_of_ble_eq_true rfl) (Nat.le_of_ble_eq_true rfl) dX10_image_9
theorem dX3_isKept_0 : decode cX3_isKept 0 = .ok (.aload_n 0, 1) := by decide +kernel
theorem dX3_isKept_1 : decode cX3_isKept 1 = .ok (.getfield 25, 3) := by decide +kernel
theorem dX3_isKept_4 : decode cX3_isKept 4 = .ok (.iconst (-1), 1) := by decide +kernel
theorem dX3_isKept_5 : decode cX3_isKept 5 = .ok (.if_icmp .eq 7, 3) := by decide +kernel
theorem dX3_isKept_8 : decode cX3_isKept 8 = .ok (.iconst 1, 1) := by decide +kernel
theorem dX3_isKept_9 : decode cX3_isKept 9 = .ok (.goto 4, 3) := by decide +kernel
theorem dX3_isKept_12 : decode cX3_isKept 12 = .ok (.iconst 0, 1) := by decide +kernel
theorem dX3_isKept_13 : decode cX3_isKept 13 = .ok (.ireturn, 1) := by decide +kernel
set_option maxHeartbeats 4000000 in
set_option maxRecDepth 100000 in
theorem c_X3_isKept (l : Launch) (E : zE) (n : Nat) (h : zH) (a0 : Nat) (res : Int32 × zH) (hf : F_X3_isKept n h a0 = some res) : Met l yX3_isKept (zw yX3_isKept cX3_isKept 1 (some .boolean)) ({ frames := 0, cells := 0, slots := 0, locals := 0 } : Room) (zPc E h [.ref (zB E + a0)]) (zQc E res.2 (some (.int res.1))) 0 0 (zfr E) := by
  refine zmet (lo := [(0, .ref (zB E + a0))]) (by decide +kernel) (Nat.le_of_ble_eq_true rfl) rfl ?_
  intro p e s m args below meth c C hr hin
  unfold F_X3_isKept at hf
  have J13 : ∀ (h4 : zH) (x3 : Int32), F_X3_isKept_J13 n h4 x3 = some res → zW p l e (headSpec (zw yX3_isKept cX3_isKept 1 (some .boolean)) ({ frames := 0, cells := 0, slots := 0, locals := 0 } : Room)).room s m args below meth c E 1 (MQ below (zQc E res.2 (some (.int res.1))) args s 0 0 (zfr E)) 0 0 13 [] [.int x3] h4 := by
    intro h4 x3 hf
    unfold F_X3_isKept_J13 at hf
    exact zr_zreturn C hf hr (Nat.le_of_ble_eq_true rfl) (Nat.le_of_ble_eq_true rfl) dX3_isKept_13
  refine zr_aload_n C dX3_isKept_0 rfl 0 rfl ?_
  refine zr_gi C hf kg_X3_25 (fun _ _ _ => rfl) dX3_isKept_1 (fun x5 hf => ?_)
  refine zr_iconst (v := -1) C dX3_isKept_4 (by decide) ?_
  refine zr_icmp_eq (tgt := 12) C hf dX3_isKept_5 (by decide) (fun hf => ?_) (fun hf => ?_)
  · refine zr_iconst (v := 0) C dX3_isKept_12 (by decide) ?_
    refine zsub [] rfl ?_
    exact J13 h (0 : Int32) hf
  · refine zr_iconst (v := 1) C dX3_isKept_8 (by decide) ?_
    refine zr_goto (tgt := 13) C dX3_isKept_9 (by decide) ?_
    refine zsub [] rfl ?_
    exact J13 h (1 : Int32) hf
theorem dX3_bringBack_0 : decode cX3_bringBack 0 = .ok (.aload_n 1, 1) := by decide +kernel
theorem dX3_bringBack_1 : decode cX3_bringBack 1 = .ok (.aload_n 0, 1) := by decide +kernel
theorem dX3_bringBack_2 : decode cX3_bringBack 2 = .ok (.getfield 12, 3) := by decide +kernel
theorem dX3_bringBack_5 : decode cX3_bringBack 5 = .ok (.aload_n 0, 1) := by decide +kernel
theorem dX3_bringBack_6 : decode cX3_bringBack 6 = .ok (.getfield 25, 3) := by decide +kernel
theorem dX3_bringBack_9 : decode cX3_bringBack 9 = .ok (.invokevirtual 40, 3) := by decide +kernel
theorem dX3_bringBack_12 : decode cX3_bringBack 12 = .ok (.iconst 0, 1) := by decide +kernel
theorem dX3_bringBack_13 : decode cX3_bringBack 13 = .ok (.istore 4, 2) := by decide +kernel
theorem dX3_bringBack_15 : decode cX3_bringBack 15 = .ok (.iload 4, 2) := by decide +kernel
theorem dX3_bringBack_17 : decode cX3_bringBack 17 = .ok (.bipush 6, 2) := by decide +kernel
theorem dX3_bringBack_19 : decode cX3_bringBack 19 = .ok (.if_icmp .ge 20, 3) := by decide +kernel
theorem dX3_bringBack_22 : decode cX3_bringBack 22 = .ok (.aload_n 2, 1) := by decide +kernel
theorem dX3_bringBack_23 : decode cX3_bringBack 23 = .ok (.iload 4, 2) := by decide +kernel
theorem dX3_bringBack_25 : decode cX3_bringBack 25 = .ok (.aload_n 0, 1) := by decide +kernel
theorem dX3_bringBack_26 : decode cX3_bringBack 26 = .ok (.getfield 18, 3) := by decide +kernel
theorem dX3_bringBack_29 : decode cX3_bringBack 29 = .ok (.iload 4, 2) := by decide +kernel
theorem dX3_bringBack_31 : decode cX3_bringBack 31 = .ok (.iaload, 1) := by decide +kernel
theorem dX3_bringBack_32 : decode cX3_bringBack 32 = .ok (.iastore, 1) := by decide +kernel
theorem dX3_bringBack_33 : decode cX3_bringBack 33 = .ok (.iinc 4 1, 3) := by decide +kernel
theorem dX3_bringBack_36 : decode cX3_bringBack 36 = .ok (.goto (-21), 3) := by decide +kernel
theorem dX3_bringBack_39 : decode cX3_bringBack 39 = .ok (.iconst 0, 1) := by decide +kernel
theorem dX3_bringBack_40 : decode cX3_bringBack 40 = .ok (.istore 4, 2) := by decide +kernel
theorem dX3_bringBack_42 : decode cX3_bringBack 42 = .ok (.iload 4, 2) := by decide +kernel
theorem dX3_bringBack_44 : decode cX3_bringBack 44 = .ok (.aload_n 0, 1) := by decide +kernel
theorem dX3_bringBack_45 : decode cX3_bringBack 45 = .ok (.getfield 25, 3) := by decide +kernel
theorem dX3_bringBack_48 : decode cX3_bringBack 48 = .ok (.if_icmp .ge 32, 3) := by decide +kernel
theorem dX3_bringBack_51 : decode cX3_bringBack 51 = .ok (.iload 4, 2) := by decide +kernel
theorem dX3_bringBack_53 : decode cX3_bringBack 53 = .ok (.aload_n 3, 1) := by decide +kernel
theorem dX3_bringBack_54 : decode cX3_bringBack 54 = .ok (.getfield 29, 3) := by decide +kernel
theorem dX3_bringBack_57 : decode cX3_bringBack 57 = .ok (.if_icmp .ge 23, 3) := by decide +kernel
theorem dX3_bringBack_60 : decode cX3_bringBack 60 = .ok (.aload_n 3, 1) := by decide +kernel
theorem dX3_bringBack_61 : decode cX3_bringBack 61 = .ok (.getfield 44, 3) := by decide +kernel
theorem dX3_bringBack_64 : decode cX3_bringBack 64 = .ok (.iload 4, 2) := by decide +kernel
theorem dX3_bringBack_66 : decode cX3_bringBack 66 = .ok (.aload_n 0, 1) := by decide +kernel
theorem dX3_bringBack_67 : decode cX3_bringBack 67 = .ok (.getfield 22, 3) := by decide +kernel
theorem dX3_bringBack_70 : decode cX3_bringBack 70 = .ok (.iload 4, 2) := by decide +kernel
theorem dX3_bringBack_72 : decode cX3_bringBack 72 = .ok (.iaload, 1) := by decide +kernel
theorem dX3_bringBack_73 : decode cX3_bringBack 73 = .ok (.iastore, 1) := by decide +kernel
theorem dX3_bringBack_74 : decode cX3_bringBack 74 = .ok (.iinc 4 1, 3) := by decide +kernel
theorem dX3_bringBack_77 : decode cX3_bringBack 77 = .ok (.goto (-35), 3) := by decide +kernel
theorem dX3_bringBack_80 : decode cX3_bringBack 80 = .ok (.return_, 1) := by decide +kernel
set_option maxHeartbeats 4000000 in
set_option maxRecDepth 100000 in
theorem c_X3_bringBack (l : Launch) (E : zE) (n : Nat) (h : zH) (a0 : Nat) (p0 : Nat) (p1 : Nat) (p2 : Nat) (res : Unit × zH) (hf : F_X3_bringBack n h a0 p0 p1 p2 = some res) : Met l yX3_bringBack (zw yX3_bringBack cX3_bringBack 5 none) ({ frames := 1, cells := 0, slots := 0, locals := 24 } : Room) (zPc E h [.ref (zB E + a0), .ref (zB E + p0), .ref (zB E + p1), .ref (zB E + p2)]) (zQc E res.2 none) 0 0 (zfr E) := by
  refine zmet (lo := [(0, .ref (zB E + a0)), (1, .ref (zB E + p0)), (2, .ref (zB E + p1)), (3, .ref (zB E + p2))]) (by decide +kernel) (Nat.le_of_ble_eq_true rfl) rfl ?_
  intro p e s m args below meth c C hr hin
  unfold F_X3_bringBack at hf
  have J80 : ∀ (h2 : zH), F_X3_bringBack_J80 n h2 = some res → zW p l e (headSpec (zw yX3_bringBack cX3_bringBack 5 none) ({ frames := 1, cells := 0, slots := 0, locals := 24 } : Room)).room s m args below meth c E 5 (MQ below (zQc E res.2 none) args s 0 0 (zfr E)) 0 0 80 [] [] h2 := by
    intro h2 hf
    unfold F_X3_bringBack_J80 at hf
    exact zr_return C hf hr (Nat.le_of_ble_eq_true rfl) (Nat.le_of_ble_eq_true rfl) dX3_bringBack_80
  refine zr_aload_n C dX3_bringBack_0 rfl 1 rfl ?_
  refine zr_aload_n C dX3_bringBack_1 rfl 0 rfl ?_
  refine zr_gr C hf kg_X3_12 (fun _ _ _ => rfl) dX3_bringBack_2 (fun w3 hf => ?_)
  refine zr_aload_n C dX3_bringBack_5 rfl 0 rfl ?_
  refine zr_gi C hf kg_X3_25 (fun _ _ _ => rfl) dX3_bringBack_6 (fun x4 hf => ?_)
  refine zr_callVv (As := [.ref (zB E + w3), .int x4]) (rest := []) C hf (fun x hx => c_X0_copyFrom l E n h p0 w3 x4 x hx) kv_X3_40 rfl rfl (Nat.le_of_ble_eq_true rfl) ⟨rfl, rfl⟩ ⟨Nat.le_of_ble_eq_true rfl, Nat.le_of_ble_eq_true rfl⟩ ⟨Nat.le_of_ble_eq_true rfl, Nat.le_of_ble_eq_true rfl⟩ dX3_bringBack_9 (fun _ h5 hf => ?_)
  refine zr_iconst (v := 0) C dX3_bringBack_12 (by decide) ?_
  refine zr_istore (lo2 := [(4, .int (0 : Int32)), (0, .ref (zB E + a0)), (1, .ref (zB E + p0)), (2, .ref (zB E + p1)), (3, .ref (zB E + p2))]) C dX3_bringBack_13 (by decide) rfl ?_
  have L15 : ∀ (fu : Nat) (x : zH × Int32), zloop (fun kc x => F_X3_bringBack_B15 n kc x.1 a0 p1 p2 x.2) fu x = some res → zW p l e (headSpec (zw yX3_bringBack cX3_bringBack 5 none) ({ frames := 1, cells := 0, slots := 0, locals := 24 } : Room)).room s m args below meth c E 5 (MQ below (zQc E res.2 none) args s 0 0 (zfr E)) 0 0 15 [(0, .ref (zB E + a0)), (2, .ref (zB E + p1)), (3, .ref (zB E + p2)), (4, .int x.2)] [] x.1 := by
    refine z_loop _ ?_
    intro kc15 hk15 x hf
    obtain ⟨h36, x35⟩ := x
    dsimp only at hf ⊢
    unfold F_X3_bringBack_B15 at hf
    refine zr_iload C dX3_bringBack_15 3 rfl ?_
    refine zr_bipush (v := 6) C dX3_bringBack_17 (by decide) ?_
    refine zr_icmp_ge (tgt := 39) C hf dX3_bringBack_19 (by decide) (fun hf => ?_) (fun hf => ?_)
    · refine zr_iconst (v := 0) C dX3_bringBack_39 (by decide) ?_
      refine zr_istore (lo2 := [(4, .int (0 : Int32)), (0, .ref (zB E + a0)), (2, .ref (zB E + p1)), (3, .ref (zB E + p2))]) C dX3_bringBack_40 (by decide) rfl ?_
      have L42 : ∀ (fu : Nat) (x : zH × Int32), zloop (fun kc x => F_X3_bringBack_B42 n kc x.1 a0 p2 x.2) fu x = some res → zW p l e (headSpec (zw yX3_bringBack cX3_bringBack 5 none) ({ frames := 1, cells := 0, slots := 0, locals := 24 } : Room)).room s m args below meth c E 5 (MQ below (zQc E res.2 none) args s 0 0 (zfr E)) 0 0 42 [(0, .ref (zB E + a0)), (3, .ref (zB E + p2)), (4, .int x.2)] [] x.1 := by
        refine z_loop _ ?_
        intro kc42 hk42 x hf
        obtain ⟨h38, x37⟩ := x
        dsimp only at hf ⊢
        unfold F_X3_bringBack_B42 at hf
        refine zr_iload C dX3_bringBack_42 2 rfl ?_
        refine zr_aload_n C dX3_bringBack_44 rfl 0 rfl ?_
        refine zr_gi C hf kg_X3_25 (fun _ _ _ => rfl) dX3_bringBack_45 (fun x39 hf => ?_)
        refine zr_icmp_ge (tgt := 80) C hf dX3_bringBack_48 (by decide) (fun hf => ?_) (fun hf => ?_)
        · refine zsub [] rfl ?_
          exact J80 h38 hf
        · refine zr_iload C dX3_bringBack_51 2 rfl ?_
          refine zr_aload_n C dX3_bringBack_53 rfl 1 rfl ?_
          refine zr_gi C hf kg_X3_29 (fun _ _ _ => rfl) dX3_bringBack_54 (fun x40 hf => ?_)
          refine zr_icmp_ge (tgt := 80) C hf dX3_bringBack_57 (by decide) (fun hf => ?_) (fun hf => ?_)
          · refine zsub [] rfl ?_
            exact J80 h38 hf
          · refine zr_aload_n C dX3_bringBack_60 rfl 1 rfl ?_
            refine zr_gr C hf kg_X3_44 (fun _ _ _ => rfl) dX3_bringBack_61 (fun w41 hf => ?_)
            refine zr_iload C dX3_bringBack_64 2 rfl ?_
            refine zr_aload_n C dX3_bringBack_66 rfl 0 rfl ?_
            refine zr_gr C hf kg_X3_22 (fun _ _ _ => rfl) dX3_bringBack_67 (fun w42 hf => ?_)
            refine zr_iload C dX3_bringBack_70 2 rfl ?_
            refine zr_iaload C hf dX3_bringBack_72 (fun x43 hf => ?_)
            refine zr_iastore C hf dX3_bringBack_73 (fun h44 hf => ?_)
            refine zr_iinc (v0 := 1) (k := 2) (f := fun v => [(4, .int v), (0, .ref (zB E + a0)), (3, .ref (zB E + p2))]) C hf (by decide) dX3_bringBack_74 rfl (by decide) (fun v => rfl) (fun x45 hf => ?_)
            refine zr_goto (tgt := 42) C dX3_bringBack_77 (by decide) ?_
            refine zsub [1, 2, 0] rfl ?_
            exact hk42 (h44, x45) hf
      refine zsub [1, 3, 0] rfl ?_
      exact L42 n (h36, (0 : Int32)) hf
    · refine zr_aload_n C dX3_bringBack_22 rfl 1 rfl ?_
      refine zr_iload C dX3_bringBack_23 3 rfl ?_
      refine zr_aload_n C dX3_bringBack_25 rfl 0 rfl ?_
      refine zr_gr C hf kg_X3_18 (fun _ _ _ => rfl) dX3_bringBack_26 (fun w46 hf => ?_)
      refine zr_iload C dX3_bringBack_29 3 rfl ?_
      refine zr_iaload C hf dX3_bringBack_31 (fun x47 hf => ?_)
      refine zr_iastore C hf dX3_bringBack_32 (fun h48 hf => ?_)
      refine zr_iinc (v0 := 1) (k := 3) (f := fun v => [(4, .int v), (0, .ref (zB E + a0)), (2, .ref (zB E + p1)), (3, .ref (zB E + p2))]) C hf (by decide) dX3_bringBack_33 rfl (by decide) (fun v => rfl) (fun x49 hf => ?_)
      refine zr_goto (tgt := 15) C dX3_bringBack_36 (by decide) ?_
      refine zsub [1, 2, 3, 0] rfl ?_
      exact hk15 (h48, x49) hf
  refine zsub [1, 3, 4, 0] rfl ?_
  exact L15 n (h5, (0 : Int32)) hf
theorem dX10_restore_0 : decode cX10_restore 0 = .ok (.aload_n 0, 1) := by decide +kernel
theorem dX10_restore_1 : decode cX10_restore 1 = .ok (.getfield 95, 3) := by decide +kernel
theorem dX10_restore_4 : decode cX10_restore 4 = .ok (.invokevirtual 287, 3) := by decide +kernel
theorem dX10_restore_7 : decode cX10_restore 7 = .ok (.ifCond .ne 6, 3) := by decide +kernel
theorem dX10_restore_10 : decode cX10_restore 10 = .ok (.bipush (-103), 2) := by decide +kernel
theorem dX10_restore_12 : decode cX10_restore 12 = .ok (.ireturn, 1) := by decide +kernel
theorem dX10_restore_13 : decode cX10_restore 13 = .ok (.aload_n 0, 1) := by decide +kernel
theorem dX10_restore_14 : decode cX10_restore 14 = .ok (.getfield 95, 3) := by decide +kernel
theorem dX10_restore_17 : decode cX10_restore 17 = .ok (.aload_n 0, 1) := by decide +kernel
theorem dX10_restore_18 : decode cX10_restore 18 = .ok (.getfield 85, 3) := by decide +kernel
theorem dX10_restore_21 : decode cX10_restore 21 = .ok (.aload_n 0, 1) := by decide +kernel
theorem dX10_restore_22 : decode cX10_restore 22 = .ok (.getfield 99, 3) := by decide +kernel
theorem dX10_restore_25 : decode cX10_restore 25 = .ok (.aload_n 0, 1) := by decide +kernel
theorem dX10_restore_26 : decode cX10_restore 26 = .ok (.getfield 75, 3) := by decide +kernel
theorem dX10_restore_29 : decode cX10_restore 29 = .ok (.invokevirtual 290, 3) := by decide +kernel
theorem dX10_restore_32 : decode cX10_restore 32 = .ok (.aload_n 0, 1) := by decide +kernel
theorem dX10_restore_33 : decode cX10_restore 33 = .ok (.getfield 75, 3) := by decide +kernel
theorem dX10_restore_36 : decode cX10_restore 36 = .ok (.getfield 197, 3) := by decide +kernel
theorem dX10_restore_39 : decode cX10_restore 39 = .ok (.ireturn, 1) := by decide +kernel
set_option maxHeartbeats 4000000 in
set_option maxRecDepth 100000 in
theorem c_X10_restore (l : Launch) (E : zE) (n : Nat) (h : zH) (a0 : Nat) (res : Int32 × zH) (hf : F_X10_restore n h a0 = some res) : Met l yX10_restore (zw yX10_restore cX10_restore 1 (some .int)) ({ frames := 2, cells := 0, slots := 0, locals := 48 } : Room) (zPc E h [.ref (zB E + a0)]) (zQc E res.2 (some (.int res.1))) 0 0 (zfr E) := by
  refine zmet (lo := [(0, .ref (zB E + a0))]) (by decide +kernel) (Nat.le_of_ble_eq_true rfl) rfl ?_
  intro p e s m args below meth c C hr hin
  unfold F_X10_restore at hf
  refine zr_aload_n C dX10_restore_0 rfl 0 rfl ?_
  refine zr_gr C hf kg_X10_95 (fun _ _ _ => rfl) dX10_restore_1 (fun w1 hf => ?_)
  refine zr_callVi (As := []) (rest := []) C hf (fun x hx => c_X3_isKept l E n h w1 x hx) kv_X10_287 rfl rfl (Nat.le_of_ble_eq_true rfl) ⟨rfl, rfl⟩ ⟨Nat.le_of_ble_eq_true rfl, Nat.le_of_ble_eq_true rfl⟩ ⟨Nat.le_of_ble_eq_true rfl, Nat.le_of_ble_eq_true rfl⟩ dX10_restore_4 (fun x3 h2 hf => ?_)
  refine zr_if_ne (tgt := 13) C hf dX10_restore_7 (by decide) (fun hf => ?_) (fun hf => ?_)
  · refine zr_aload_n C dX10_restore_13 rfl 0 rfl ?_
    refine zr_gr C hf kg_X10_95 (fun _ _ _ => rfl) dX10_restore_14 (fun w4 hf => ?_)
    refine zr_aload_n C dX10_restore_17 rfl 0 rfl ?_
    refine zr_gr C hf kg_X10_85 (fun _ _ _ => rfl) dX10_restore_18 (fun w5 hf => ?_)
    refine zr_aload_n C dX10_restore_21 rfl 0 rfl ?_
    refine zr_gr C hf kg_X10_99 (fun _ _ _ => rfl) dX10_restore_22 (fun w6 hf => ?_)
    refine zr_aload_n C dX10_restore_25 rfl 0 rfl ?_
    refine zr_gr C hf kg_X10_75 (fun _ _ _ => rfl) dX10_restore_26 (fun w7 hf => ?_)
    refine zr_callVv (As := [.ref (zB E + w5), .ref (zB E + w6), .ref (zB E + w7)]) (rest := []) C hf (fun x hx => c_X3_bringBack l E n h2 w4 w5 w6 w7 x hx) kv_X10_290 rfl rfl (Nat.le_of_ble_eq_true rfl) ⟨rfl, rfl⟩ ⟨Nat.le_of_ble_eq_true rfl, Nat.le_of_ble_eq_true rfl⟩ ⟨Nat.le_of_ble_eq_true rfl, Nat.le_of_ble_eq_true rfl⟩ dX10_restore_29 (fun _ h8 hf => ?_)
    refine zr_aload_n C dX10_restore_32 rfl 0 rfl ?_
    refine zr_gr C hf kg_X10_75 (fun _ _ _ => rfl) dX10_restore_33 (fun w9 hf => ?_)
    refine zr_gi C hf kg_X10_197 (fun _ _ _ => rfl) dX10_restore_36 (fun x10 hf => ?_)
    exact zr_ireturn C hf hr (Nat.le_of_ble_eq_true rfl) (Nat.le_of_ble_eq_true rfl) dX10_restore_39
  · refine zr_bipush (v := -103) C dX10_restore_10 (by decide) ?_
    exact zr_ireturn C hf hr (Nat.le_of_ble_eq_true rfl) (Nat.le_of_ble_eq_true rfl) dX10_restore_12
theorem dX10_count_0 : decode cX10_count 0 = .ok (.iload_n 1, 1) := by decide +kernel
theorem dX10_count_1 : decode cX10_count 1 = .ok (.tableswitch 111 0 8 #[51, 59, 64, 72, 77, 85, 93, 101, 106], 51) := by decide +kernel
theorem dX10_count_52 : decode cX10_count 52 = .ok (.aload_n 0, 1) := by decide +kernel
theorem dX10_count_53 : decode cX10_count 53 = .ok (.getfield 36, 3) := by decide +kernel
theorem dX10_count_56 : decode cX10_count 56 = .ok (.invokevirtual 138, 3) := by decide +kernel
theorem dX10_count_59 : decode cX10_count 59 = .ok (.ireturn, 1) := by decide +kernel
theorem dX10_count_60 : decode cX10_count 60 = .ok (.aload_n 0, 1) := by decide +kernel
theorem dX10_count_61 : decode cX10_count 61 = .ok (.getfield 29, 3) := by decide +kernel
theorem dX10_count_64 : decode cX10_count 64 = .ok (.ireturn, 1) := by decide +kernel
theorem dX10_count_65 : decode cX10_count 65 = .ok (.aload_n 0, 1) := by decide +kernel
theorem dX10_count_66 : decode cX10_count 66 = .ok (.getfield 75, 3) := by decide +kernel
theorem dX10_count_69 : decode cX10_count 69 = .ok (.getfield 197, 3) := by decide +kernel
theorem dX10_count_72 : decode cX10_count 72 = .ok (.ireturn, 1) := by decide +kernel
theorem dX10_count_73 : decode cX10_count 73 = .ok (.aload_n 0, 1) := by decide +kernel
theorem dX10_count_74 : decode cX10_count 74 = .ok (.getfield 67, 3) := by decide +kernel
theorem dX10_count_77 : decode cX10_count 77 = .ok (.ireturn, 1) := by decide +kernel
theorem dX10_count_78 : decode cX10_count 78 = .ok (.aload_n 0, 1) := by decide +kernel
theorem dX10_count_79 : decode cX10_count 79 = .ok (.getfield 109, 3) := by decide +kernel
theorem dX10_count_82 : decode cX10_count 82 = .ok (.getfield 293, 3) := by decide +kernel
theorem dX10_count_85 : decode cX10_count 85 = .ok (.ireturn, 1) := by decide +kernel
theorem dX10_count_86 : decode cX10_count 86 = .ok (.aload_n 0, 1) := by decide +kernel
theorem dX10_count_87 : decode cX10_count 87 = .ok (.getfield 49, 3) := by decide +kernel
theorem dX10_count_90 : decode cX10_count 90 = .ok (.getfield 141, 3) := by decide +kernel
theorem dX10_count_93 : decode cX10_count 93 = .ok (.ireturn, 1) := by decide +kernel
theorem dX10_count_94 : decode cX10_count 94 = .ok (.aload_n 0, 1) := by decide +kernel
theorem dX10_count_95 : decode cX10_count 95 = .ok (.getfield 10, 3) := by decide +kernel
theorem dX10_count_98 : decode cX10_count 98 = .ok (.getfield 294, 3) := by decide +kernel
theorem dX10_count_101 : decode cX10_count 101 = .ok (.ireturn, 1) := by decide +kernel
theorem dX10_count_102 : decode cX10_count 102 = .ok (.aload_n 0, 1) := by decide +kernel
theorem dX10_count_103 : decode cX10_count 103 = .ok (.getfield 43, 3) := by decide +kernel
theorem dX10_count_106 : decode cX10_count 106 = .ok (.ireturn, 1) := by decide +kernel
theorem dX10_count_107 : decode cX10_count 107 = .ok (.aload_n 0, 1) := by decide +kernel
theorem dX10_count_108 : decode cX10_count 108 = .ok (.getfield 103, 3) := by decide +kernel
theorem dX10_count_111 : decode cX10_count 111 = .ok (.ireturn, 1) := by decide +kernel
theorem dX10_count_112 : decode cX10_count 112 = .ok (.bipush (-102), 2) := by decide +kernel
theorem dX10_count_114 : decode cX10_count 114 = .ok (.ireturn, 1) := by decide +kernel
set_option maxHeartbeats 4000000 in
set_option maxRecDepth 100000 in
theorem c_X10_count (l : Launch) (E : zE) (n : Nat) (h : zH) (a0 : Nat) (p0 : Int32) (res : Int32 × zH) (hf : F_X10_count n h a0 p0 = some res) : Met l yX10_count (zw yX10_count cX10_count 2 (some .int)) ({ frames := 1, cells := 0, slots := 0, locals := 20 } : Room) (zPc E h [.ref (zB E + a0), .int p0]) (zQc E res.2 (some (.int res.1))) 0 0 (zfr E) := by
  refine zmet (lo := [(0, .ref (zB E + a0)), (1, .int p0)]) (by decide +kernel) (Nat.le_of_ble_eq_true rfl) rfl ?_
  intro p e s m args below meth c C hr hin
  unfold F_X10_count at hf
  refine zr_iload_n C dX10_count_0 rfl 1 rfl ?_
  refine zr_ite hf (fun hx hf => zr_tableOut (tgt := 112) C dX10_count_1 hx (by decide) ?_) (fun hx hf => ?_)
  · refine zr_bipush (v := -102) C dX10_count_112 (by decide) ?_
    exact zr_ireturn C hf hr (Nat.le_of_ble_eq_true rfl) (Nat.le_of_ble_eq_true rfl) dX10_count_114
  · refine zr_ite hf (fun he hf => zr_tableIn (off := 51) (tgt := 52) C dX10_count_1 (by rw [he]; decide) (by rw [he]; decide) (by rw [he]; decide +kernel) (by decide) ?_) (fun _ hf => ?_)
    · refine zr_aload_n C dX10_count_52 rfl 0 rfl ?_
      refine zr_gr C hf kg_X10_36 (fun _ _ _ => rfl) dX10_count_53 (fun w1 hf => ?_)
      refine zr_callVi (As := []) (rest := []) C hf (fun x hx => c_X1_rings l E n h w1 x hx) kv_X10_138 rfl rfl (Nat.le_of_ble_eq_true rfl) ⟨rfl, rfl⟩ ⟨Nat.le_of_ble_eq_true rfl, Nat.le_of_ble_eq_true rfl⟩ ⟨Nat.le_of_ble_eq_true rfl, Nat.le_of_ble_eq_true rfl⟩ dX10_count_56 (fun x3 h2 hf => ?_)
      exact zr_ireturn C hf hr (Nat.le_of_ble_eq_true rfl) (Nat.le_of_ble_eq_true rfl) dX10_count_59
    refine zr_ite hf (fun he hf => zr_tableIn (off := 59) (tgt := 60) C dX10_count_1 (by rw [he]; decide) (by rw [he]; decide) (by rw [he]; decide +kernel) (by decide) ?_) (fun _ hf => ?_)
    · refine zr_aload_n C dX10_count_60 rfl 0 rfl ?_
      refine zr_gi C hf kg_X10_29 (fun _ _ _ => rfl) dX10_count_61 (fun x4 hf => ?_)
      exact zr_ireturn C hf hr (Nat.le_of_ble_eq_true rfl) (Nat.le_of_ble_eq_true rfl) dX10_count_64
    refine zr_ite hf (fun he hf => zr_tableIn (off := 64) (tgt := 65) C dX10_count_1 (by rw [he]; decide) (by rw [he]; decide) (by rw [he]; decide +kernel) (by decide) ?_) (fun _ hf => ?_)
    · refine zr_aload_n C dX10_count_65 rfl 0 rfl ?_
      refine zr_gr C hf kg_X10_75 (fun _ _ _ => rfl) dX10_count_66 (fun w5 hf => ?_)
      refine zr_gi C hf kg_X10_197 (fun _ _ _ => rfl) dX10_count_69 (fun x6 hf => ?_)
      exact zr_ireturn C hf hr (Nat.le_of_ble_eq_true rfl) (Nat.le_of_ble_eq_true rfl) dX10_count_72
    refine zr_ite hf (fun he hf => zr_tableIn (off := 72) (tgt := 73) C dX10_count_1 (by rw [he]; decide) (by rw [he]; decide) (by rw [he]; decide +kernel) (by decide) ?_) (fun _ hf => ?_)
    · refine zr_aload_n C dX10_count_73 rfl 0 rfl ?_
      refine zr_gi C hf kg_X10_67 (fun _ _ _ => rfl) dX10_count_74 (fun x7 hf => ?_)
      exact zr_ireturn C hf hr (Nat.le_of_ble_eq_true rfl) (Nat.le_of_ble_eq_true rfl) dX10_count_77
    refine zr_ite hf (fun he hf => zr_tableIn (off := 77) (tgt := 78) C dX10_count_1 (by rw [he]; decide) (by rw [he]; decide) (by rw [he]; decide +kernel) (by decide) ?_) (fun _ hf => ?_)
    · refine zr_aload_n C dX10_count_78 rfl 0 rfl ?_
      refine zr_gr C hf kg_X10_109 (fun _ _ _ => rfl) dX10_count_79 (fun w8 hf => ?_)
      refine zr_gi C hf kg_X10_293 (fun _ _ _ => rfl) dX10_count_82 (fun x9 hf => ?_)
      exact zr_ireturn C hf hr (Nat.le_of_ble_eq_true rfl) (Nat.le_of_ble_eq_true rfl) dX10_count_85
    refine zr_ite hf (fun he hf => zr_tableIn (off := 85) (tgt := 86) C dX10_count_1 (by rw [he]; decide) (by rw [he]; decide) (by rw [he]; decide +kernel) (by decide) ?_) (fun _ hf => ?_)
    · refine zr_aload_n C dX10_count_86 rfl 0 rfl ?_
      refine zr_gr C hf kg_X10_49 (fun _ _ _ => rfl) dX10_count_87 (fun w10 hf => ?_)
      refine zr_gi C hf kg_X10_141 (fun _ _ _ => rfl) dX10_count_90 (fun x11 hf => ?_)
      exact zr_ireturn C hf hr (Nat.le_of_ble_eq_true rfl) (Nat.le_of_ble_eq_true rfl) dX10_count_93
    refine zr_ite hf (fun he hf => zr_tableIn (off := 93) (tgt := 94) C dX10_count_1 (by rw [he]; decide) (by rw [he]; decide) (by rw [he]; decide +kernel) (by decide) ?_) (fun _ hf => ?_)
    · refine zr_aload_n C dX10_count_94 rfl 0 rfl ?_
      refine zr_gr C hf kg_X10_10 (fun _ _ _ => rfl) dX10_count_95 (fun w12 hf => ?_)
      refine zr_gi C hf kg_X10_294 (fun _ _ _ => rfl) dX10_count_98 (fun x13 hf => ?_)
      exact zr_ireturn C hf hr (Nat.le_of_ble_eq_true rfl) (Nat.le_of_ble_eq_true rfl) dX10_count_101
    refine zr_ite hf (fun he hf => zr_tableIn (off := 101) (tgt := 102) C dX10_count_1 (by rw [he]; decide) (by rw [he]; decide) (by rw [he]; decide +kernel) (by decide) ?_) (fun _ hf => ?_)
    · refine zr_aload_n C dX10_count_102 rfl 0 rfl ?_
      refine zr_gi C hf kg_X10_43 (fun _ _ _ => rfl) dX10_count_103 (fun x14 hf => ?_)
      exact zr_ireturn C hf hr (Nat.le_of_ble_eq_true rfl) (Nat.le_of_ble_eq_true rfl) dX10_count_106
    refine zr_ite hf (fun he hf => zr_tableIn (off := 106) (tgt := 107) C dX10_count_1 (by rw [he]; decide) (by rw [he]; decide) (by rw [he]; decide +kernel) (by decide) ?_) (fun _ hf => ?_)
    · refine zr_aload_n C dX10_count_107 rfl 0 rfl ?_
      refine zr_gi C hf kg_X10_103 (fun _ _ _ => rfl) dX10_count_108 (fun x15 hf => ?_)
      exact zr_ireturn C hf hr (Nat.le_of_ble_eq_true rfl) (Nat.le_of_ble_eq_true rfl) dX10_count_111
    cases hf
theorem dX10_withCup_0 : decode cX10_withCup 0 = .ok (.lload_n 1, 1) := by decide +kernel
theorem dX10_withCup_1 : decode cX10_withCup 1 = .ok (.lstore_n 3, 1) := by decide +kernel
theorem dX10_withCup_2 : decode cX10_withCup 2 = .ok (.aload_n 0, 1) := by decide +kernel
theorem dX10_withCup_3 : decode cX10_withCup 3 = .ok (.invokevirtual 144, 3) := by decide +kernel
theorem dX10_withCup_6 : decode cX10_withCup 6 = .ok (.ifCond .ne 5, 3) := by decide +kernel
theorem dX10_withCup_9 : decode cX10_withCup 9 = .ok (.lload_n 3, 1) := by decide +kernel
theorem dX10_withCup_10 : decode cX10_withCup 10 = .ok (.lreturn, 1) := by decide +kernel
theorem dX10_withCup_11 : decode cX10_withCup 11 = .ok (.iconst 0, 1) := by decide +kernel
theorem dX10_withCup_12 : decode cX10_withCup 12 = .ok (.istore 5, 2) := by decide +kernel
theorem dX10_withCup_14 : decode cX10_withCup 14 = .ok (.iload 5, 2) := by decide +kernel
theorem dX10_withCup_16 : decode cX10_withCup 16 = .ok (.iconst 5, 1) := by decide +kernel
theorem dX10_withCup_17 : decode cX10_withCup 17 = .ok (.if_icmp .gt 27, 3) := by decide +kernel
theorem dX10_withCup_20 : decode cX10_withCup 20 = .ok (.ldc2_w 316, 3) := by decide +kernel
theorem dX10_withCup_23 : decode cX10_withCup 23 = .ok (.lload_n 3, 1) := by decide +kernel
theorem dX10_withCup_24 : decode cX10_withCup 24 = .ok (.lmul, 1) := by decide +kernel
theorem dX10_withCup_25 : decode cX10_withCup 25 = .ok (.aload_n 0, 1) := by decide +kernel
theorem dX10_withCup_26 : decode cX10_withCup 26 = .ok (.getfield 36, 3) := by decide +kernel
theorem dX10_withCup_29 : decode cX10_withCup 29 = .ok (.getfield 152, 3) := by decide +kernel
theorem dX10_withCup_32 : decode cX10_withCup 32 = .ok (.iload 5, 2) := by decide +kernel
theorem dX10_withCup_34 : decode cX10_withCup 34 = .ok (.iaload, 1) := by decide +kernel
theorem dX10_withCup_35 : decode cX10_withCup 35 = .ok (.i2l, 1) := by decide +kernel
theorem dX10_withCup_36 : decode cX10_withCup 36 = .ok (.ladd, 1) := by decide +kernel
theorem dX10_withCup_37 : decode cX10_withCup 37 = .ok (.lstore_n 3, 1) := by decide +kernel
theorem dX10_withCup_38 : decode cX10_withCup 38 = .ok (.iinc 5 1, 3) := by decide +kernel
theorem dX10_withCup_41 : decode cX10_withCup 41 = .ok (.goto (-27), 3) := by decide +kernel
theorem dX10_withCup_44 : decode cX10_withCup 44 = .ok (.iconst 0, 1) := by decide +kernel
theorem dX10_withCup_45 : decode cX10_withCup 45 = .ok (.istore 5, 2) := by decide +kernel
theorem dX10_withCup_47 : decode cX10_withCup 47 = .ok (.iload 5, 2) := by decide +kernel
theorem dX10_withCup_49 : decode cX10_withCup 49 = .ok (.aload_n 0, 1) := by decide +kernel
theorem dX10_withCup_50 : decode cX10_withCup 50 = .ok (.getfield 36, 3) := by decide +kernel
theorem dX10_withCup_53 : decode cX10_withCup 53 = .ok (.invokevirtual 138, 3) := by decide +kernel
theorem dX10_withCup_56 : decode cX10_withCup 56 = .ok (.if_icmp .ge 51, 3) := by decide +kernel
theorem dX10_withCup_59 : decode cX10_withCup 59 = .ok (.iconst 0, 1) := by decide +kernel
theorem dX10_withCup_60 : decode cX10_withCup 60 = .ok (.istore 6, 2) := by decide +kernel
theorem dX10_withCup_62 : decode cX10_withCup 62 = .ok (.iload 6, 2) := by decide +kernel
theorem dX10_withCup_64 : decode cX10_withCup 64 = .ok (.aload_n 0, 1) := by decide +kernel
theorem dX10_withCup_65 : decode cX10_withCup 65 = .ok (.getfield 36, 3) := by decide +kernel
theorem dX10_withCup_68 : decode cX10_withCup 68 = .ok (.invokevirtual 215, 3) := by decide +kernel
theorem dX10_withCup_71 : decode cX10_withCup 71 = .ok (.if_icmp .ge 30, 3) := by decide +kernel
theorem dX10_withCup_74 : decode cX10_withCup 74 = .ok (.ldc2_w 316, 3) := by decide +kernel
theorem dX10_withCup_77 : decode cX10_withCup 77 = .ok (.lload_n 3, 1) := by decide +kernel
theorem dX10_withCup_78 : decode cX10_withCup 78 = .ok (.lmul, 1) := by decide +kernel
theorem dX10_withCup_79 : decode cX10_withCup 79 = .ok (.aload_n 0, 1) := by decide +kernel
theorem dX10_withCup_80 : decode cX10_withCup 80 = .ok (.getfield 85, 3) := by decide +kernel
theorem dX10_withCup_83 : decode cX10_withCup 83 = .ok (.getfield 211, 3) := by decide +kernel
theorem dX10_withCup_86 : decode cX10_withCup 86 = .ok (.iload 5, 2) := by decide +kernel
theorem dX10_withCup_88 : decode cX10_withCup 88 = .ok (.aaload, 1) := by decide +kernel
theorem dX10_withCup_89 : decode cX10_withCup 89 = .ok (.iload 6, 2) := by decide +kernel
theorem dX10_withCup_91 : decode cX10_withCup 91 = .ok (.iaload, 1) := by decide +kernel
theorem dX10_withCup_92 : decode cX10_withCup 92 = .ok (.i2l, 1) := by decide +kernel
theorem dX10_withCup_93 : decode cX10_withCup 93 = .ok (.ladd, 1) := by decide +kernel
theorem dX10_withCup_94 : decode cX10_withCup 94 = .ok (.lstore_n 3, 1) := by decide +kernel
theorem dX10_withCup_95 : decode cX10_withCup 95 = .ok (.iinc 6 1, 3) := by decide +kernel
theorem dX10_withCup_98 : decode cX10_withCup 98 = .ok (.goto (-36), 3) := by decide +kernel
theorem dX10_withCup_101 : decode cX10_withCup 101 = .ok (.iinc 5 1, 3) := by decide +kernel
theorem dX10_withCup_104 : decode cX10_withCup 104 = .ok (.goto (-57), 3) := by decide +kernel
theorem dX10_withCup_107 : decode cX10_withCup 107 = .ok (.iconst 0, 1) := by decide +kernel
theorem dX10_withCup_108 : decode cX10_withCup 108 = .ok (.istore 5, 2) := by decide +kernel
theorem dX10_withCup_110 : decode cX10_withCup 110 = .ok (.iload 5, 2) := by decide +kernel
theorem dX10_withCup_112 : decode cX10_withCup 112 = .ok (.aload_n 0, 1) := by decide +kernel
theorem dX10_withCup_113 : decode cX10_withCup 113 = .ok (.getfield 36, 3) := by decide +kernel
theorem dX10_withCup_116 : decode cX10_withCup 116 = .ok (.invokevirtual 138, 3) := by decide +kernel
theorem dX10_withCup_119 : decode cX10_withCup 119 = .ok (.if_icmp .ge 33, 3) := by decide +kernel
theorem dX10_withCup_122 : decode cX10_withCup 122 = .ok (.ldc2_w 316, 3) := by decide +kernel
theorem dX10_withCup_125 : decode cX10_withCup 125 = .ok (.lload_n 3, 1) := by decide +kernel
theorem dX10_withCup_126 : decode cX10_withCup 126 = .ok (.lmul, 1) := by decide +kernel
theorem dX10_withCup_127 : decode cX10_withCup 127 = .ok (.aload_n 0, 1) := by decide +kernel
theorem dX10_withCup_128 : decode cX10_withCup 128 = .ok (.getfield 85, 3) := by decide +kernel
theorem dX10_withCup_131 : decode cX10_withCup 131 = .ok (.iload 5, 2) := by decide +kernel
theorem dX10_withCup_133 : decode cX10_withCup 133 = .ok (.aload_n 0, 1) := by decide +kernel
theorem dX10_withCup_134 : decode cX10_withCup 134 = .ok (.getfield 36, 3) := by decide +kernel
theorem dX10_withCup_137 : decode cX10_withCup 137 = .ok (.invokevirtual 215, 3) := by decide +kernel
theorem dX10_withCup_140 : decode cX10_withCup 140 = .ok (.invokevirtual 218, 3) := by decide +kernel
theorem dX10_withCup_143 : decode cX10_withCup 143 = .ok (.i2l, 1) := by decide +kernel
theorem dX10_withCup_144 : decode cX10_withCup 144 = .ok (.ladd, 1) := by decide +kernel
theorem dX10_withCup_145 : decode cX10_withCup 145 = .ok (.lstore_n 3, 1) := by decide +kernel
theorem dX10_withCup_146 : decode cX10_withCup 146 = .ok (.iinc 5 1, 3) := by decide +kernel
theorem dX10_withCup_149 : decode cX10_withCup 149 = .ok (.goto (-39), 3) := by decide +kernel
theorem dX10_withCup_152 : decode cX10_withCup 152 = .ok (.iconst 0, 1) := by decide +kernel
theorem dX10_withCup_153 : decode cX10_withCup 153 = .ok (.istore 5, 2) := by decide +kernel
theorem dX10_withCup_155 : decode cX10_withCup 155 = .ok (.iload 5, 2) := by decide +kernel
theorem dX10_withCup_157 : decode cX10_withCup 157 = .ok (.aload_n 0, 1) := by decide +kernel
theorem dX10_withCup_158 : decode cX10_withCup 158 = .ok (.getfield 36, 3) := by decide +kernel
theorem dX10_withCup_161 : decode cX10_withCup 161 = .ok (.invokevirtual 138, 3) := by decide +kernel
theorem dX10_withCup_164 : decode cX10_withCup 164 = .ok (.if_icmp .ge 24, 3) := by decide +kernel
theorem dX10_withCup_167 : decode cX10_withCup 167 = .ok (.ldc2_w 316, 3) := by decide +kernel
theorem dX10_withCup_170 : decode cX10_withCup 170 = .ok (.lload_n 3, 1) := by decide +kernel
theorem dX10_withCup_171 : decode cX10_withCup 171 = .ok (.lmul, 1) := by decide +kernel
theorem dX10_withCup_172 : decode cX10_withCup 172 = .ok (.aload_n 0, 1) := by decide +kernel
theorem dX10_withCup_173 : decode cX10_withCup 173 = .ok (.getfield 99, 3) := by decide +kernel
theorem dX10_withCup_176 : decode cX10_withCup 176 = .ok (.iload 5, 2) := by decide +kernel
theorem dX10_withCup_178 : decode cX10_withCup 178 = .ok (.iaload, 1) := by decide +kernel
theorem dX10_withCup_179 : decode cX10_withCup 179 = .ok (.i2l, 1) := by decide +kernel
theorem dX10_withCup_180 : decode cX10_withCup 180 = .ok (.ladd, 1) := by decide +kernel
theorem dX10_withCup_181 : decode cX10_withCup 181 = .ok (.lstore_n 3, 1) := by decide +kernel
theorem dX10_withCup_182 : decode cX10_withCup 182 = .ok (.iinc 5 1, 3) := by decide +kernel
theorem dX10_withCup_185 : decode cX10_withCup 185 = .ok (.goto (-30), 3) := by decide +kernel
theorem dX10_withCup_188 : decode cX10_withCup 188 = .ok (.lload_n 3, 1) := by decide +kernel
theorem dX10_withCup_189 : decode cX10_withCup 189 = .ok (.lreturn, 1) := by decide +kernel
set_option maxHeartbeats 4000000 in
set_option maxRecDepth 100000 in
theorem c_X10_withCup (l : Launch) (E : zE) (n : Nat) (h : zH) (a0 : Nat) (p0 : Int64) (res : Int64 × zH) (hf : F_X10_withCup n h a0 p0 = some res) : Met l yX10_withCup (zw yX10_withCup cX10_withCup 7 (some .long)) ({ frames := 2, cells := 0, slots := 0, locals := 40 } : Room) (zPc E h [.ref (zB E + a0), .long p0]) (zQc E res.2 (some (.long res.1))) 0 0 (zfr E) := by
  refine zmet (lo := [(0, .ref (zB E + a0)), (1, .long p0)]) (by decide +kernel) (Nat.le_of_ble_eq_true rfl) rfl ?_
  intro p e s m args below meth c C hr hin
  unfold F_X10_withCup at hf
  refine zr_lload_n C dX10_withCup_0 rfl 1 rfl ?_
  refine zr_lstore_n (lo2 := [(3, .long p0), (0, .ref (zB E + a0)), (1, .long p0)]) C dX10_withCup_1 rfl (by decide) rfl ?_
  refine zr_aload_n C dX10_withCup_2 rfl 1 rfl ?_
  refine zr_callVi (As := []) (rest := []) C hf (fun x hx => c_X10_hasCup l E n h a0 x hx) kv_X10_144 rfl rfl (Nat.le_of_ble_eq_true rfl) ⟨rfl, rfl⟩ ⟨Nat.le_of_ble_eq_true rfl, Nat.le_of_ble_eq_true rfl⟩ ⟨Nat.le_of_ble_eq_true rfl, Nat.le_of_ble_eq_true rfl⟩ dX10_withCup_3 (fun x2 h1 hf => ?_)
  refine zr_if_ne (tgt := 11) C hf dX10_withCup_6 (by decide) (fun hf => ?_) (fun hf => ?_)
  · refine zr_iconst (v := 0) C dX10_withCup_11 (by decide) ?_
    refine zr_istore (lo2 := [(5, .int (0 : Int32)), (3, .long p0), (0, .ref (zB E + a0)), (1, .long p0)]) C dX10_withCup_12 (by decide) rfl ?_
    have L14 : ∀ (fu : Nat) (x : zH × Int64 × Int32), zloop (fun kc x => F_X10_withCup_B14 n kc x.1 a0 x.2.1 x.2.2) fu x = some res → zW p l e (headSpec (zw yX10_withCup cX10_withCup 7 (some .long)) ({ frames := 2, cells := 0, slots := 0, locals := 40 } : Room)).room s m args below meth c E 7 (MQ below (zQc E res.2 (some (.long res.1))) args s 0 0 (zfr E)) 0 0 14 [(0, .ref (zB E + a0)), (3, .long x.2.1), (5, .int x.2.2)] [] x.1 := by
      refine z_loop _ ?_
      intro kc14 hk14 x hf
      obtain ⟨h174, j172, x173⟩ := x
      dsimp only at hf ⊢
      unfold F_X10_withCup_B14 at hf
      refine zr_iload C dX10_withCup_14 2 rfl ?_
      refine zr_iconst (v := 5) C dX10_withCup_16 (by decide) ?_
      refine zr_icmp_gt (tgt := 44) C hf dX10_withCup_17 (by decide) (fun hf => ?_) (fun hf => ?_)
      · refine zr_iconst (v := 0) C dX10_withCup_44 (by decide) ?_
        refine zr_istore (lo2 := [(5, .int (0 : Int32)), (0, .ref (zB E + a0)), (3, .long j172)]) C dX10_withCup_45 (by decide) rfl ?_
        have L47 : ∀ (fu : Nat) (x : zH × Int64 × Int32), zloop (fun kc x => F_X10_withCup_B47 n kc x.1 a0 x.2.1 x.2.2) fu x = some res → zW p l e (headSpec (zw yX10_withCup cX10_withCup 7 (some .long)) ({ frames := 2, cells := 0, slots := 0, locals := 40 } : Room)).room s m args below meth c E 7 (MQ below (zQc E res.2 (some (.long res.1))) args s 0 0 (zfr E)) 0 0 47 [(0, .ref (zB E + a0)), (3, .long x.2.1), (5, .int x.2.2)] [] x.1 := by
          refine z_loop _ ?_
          intro kc47 hk47 x hf
          obtain ⟨h177, j175, x176⟩ := x
          dsimp only at hf ⊢
          unfold F_X10_withCup_B47 at hf
          refine zr_iload C dX10_withCup_47 2 rfl ?_
          refine zr_aload_n C dX10_withCup_49 rfl 0 rfl ?_
          refine zr_gr C hf kg_X10_36 (fun _ _ _ => rfl) dX10_withCup_50 (fun w178 hf => ?_)
          refine zr_callVi (As := []) (rest := [.int x176]) C hf (fun x hx => c_X1_rings l E n h177 w178 x hx) kv_X10_138 rfl rfl (Nat.le_of_ble_eq_true rfl) ⟨rfl, rfl⟩ ⟨Nat.le_of_ble_eq_true rfl, Nat.le_of_ble_eq_true rfl⟩ ⟨Nat.le_of_ble_eq_true rfl, Nat.le_of_ble_eq_true rfl⟩ dX10_withCup_53 (fun x180 h179 hf => ?_)
          refine zr_icmp_ge (tgt := 107) C hf dX10_withCup_56 (by decide) (fun hf => ?_) (fun hf => ?_)
          · refine zr_iconst (v := 0) C dX10_withCup_107 (by decide) ?_
            refine zr_istore (lo2 := [(5, .int (0 : Int32)), (0, .ref (zB E + a0)), (3, .long j175)]) C dX10_withCup_108 (by decide) rfl ?_
            have L110 : ∀ (fu : Nat) (x : zH × Int64 × Int32), zloop (fun kc x => F_X10_withCup_B110 n kc x.1 a0 x.2.1 x.2.2) fu x = some res → zW p l e (headSpec (zw yX10_withCup cX10_withCup 7 (some .long)) ({ frames := 2, cells := 0, slots := 0, locals := 40 } : Room)).room s m args below meth c E 7 (MQ below (zQc E res.2 (some (.long res.1))) args s 0 0 (zfr E)) 0 0 110 [(0, .ref (zB E + a0)), (3, .long x.2.1), (5, .int x.2.2)] [] x.1 := by
              refine z_loop _ ?_
              intro kc110 hk110 x hf
              obtain ⟨h183, j181, x182⟩ := x
              dsimp only at hf ⊢
              unfold F_X10_withCup_B110 at hf
              refine zr_iload C dX10_withCup_110 2 rfl ?_
              refine zr_aload_n C dX10_withCup_112 rfl 0 rfl ?_
              refine zr_gr C hf kg_X10_36 (fun _ _ _ => rfl) dX10_withCup_113 (fun w184 hf => ?_)
              refine zr_callVi (As := []) (rest := [.int x182]) C hf (fun x hx => c_X1_rings l E n h183 w184 x hx) kv_X10_138 rfl rfl (Nat.le_of_ble_eq_true rfl) ⟨rfl, rfl⟩ ⟨Nat.le_of_ble_eq_true rfl, Nat.le_of_ble_eq_true rfl⟩ ⟨Nat.le_of_ble_eq_true rfl, Nat.le_of_ble_eq_true rfl⟩ dX10_withCup_116 (fun x186 h185 hf => ?_)
              refine zr_icmp_ge (tgt := 152) C hf dX10_withCup_119 (by decide) (fun hf => ?_) (fun hf => ?_)
              · refine zr_iconst (v := 0) C dX10_withCup_152 (by decide) ?_
                refine zr_istore (lo2 := [(5, .int (0 : Int32)), (0, .ref (zB E + a0)), (3, .long j181)]) C dX10_withCup_153 (by decide) rfl ?_
                have L155 : ∀ (fu : Nat) (x : zH × Int64 × Int32), zloop (fun kc x => F_X10_withCup_B155 n kc x.1 a0 x.2.1 x.2.2) fu x = some res → zW p l e (headSpec (zw yX10_withCup cX10_withCup 7 (some .long)) ({ frames := 2, cells := 0, slots := 0, locals := 40 } : Room)).room s m args below meth c E 7 (MQ below (zQc E res.2 (some (.long res.1))) args s 0 0 (zfr E)) 0 0 155 [(0, .ref (zB E + a0)), (3, .long x.2.1), (5, .int x.2.2)] [] x.1 := by
                  refine z_loop _ ?_
                  intro kc155 hk155 x hf
                  obtain ⟨h189, j187, x188⟩ := x
                  dsimp only at hf ⊢
                  unfold F_X10_withCup_B155 at hf
                  refine zr_iload C dX10_withCup_155 2 rfl ?_
                  refine zr_aload_n C dX10_withCup_157 rfl 0 rfl ?_
                  refine zr_gr C hf kg_X10_36 (fun _ _ _ => rfl) dX10_withCup_158 (fun w190 hf => ?_)
                  refine zr_callVi (As := []) (rest := [.int x188]) C hf (fun x hx => c_X1_rings l E n h189 w190 x hx) kv_X10_138 rfl rfl (Nat.le_of_ble_eq_true rfl) ⟨rfl, rfl⟩ ⟨Nat.le_of_ble_eq_true rfl, Nat.le_of_ble_eq_true rfl⟩ ⟨Nat.le_of_ble_eq_true rfl, Nat.le_of_ble_eq_true rfl⟩ dX10_withCup_161 (fun x192 h191 hf => ?_)
                  refine zr_icmp_ge (tgt := 188) C hf dX10_withCup_164 (by decide) (fun hf => ?_) (fun hf => ?_)
                  · refine zr_lload_n C dX10_withCup_188 rfl 1 rfl ?_
                    exact zr_lreturn C hf hr (Nat.le_of_ble_eq_true rfl) (Nat.le_of_ble_eq_true rfl) dX10_withCup_189
                  · refine zr_ldc2 (v := 31) C zt863 dX10_withCup_167 ?_
                    refine zr_lload_n C dX10_withCup_170 rfl 1 rfl ?_
                    refine zr_lmul C hf dX10_withCup_171 (fun j193 hf => ?_)
                    refine zr_aload_n C dX10_withCup_172 rfl 0 rfl ?_
                    refine zr_gr C hf kg_X10_99 (fun _ _ _ => rfl) dX10_withCup_173 (fun w194 hf => ?_)
                    refine zr_iload C dX10_withCup_176 2 rfl ?_
                    refine zr_iaload C hf dX10_withCup_178 (fun x195 hf => ?_)
                    refine zr_i2l C hf dX10_withCup_179 (fun j196 hf => ?_)
                    refine zr_ladd C hf dX10_withCup_180 (fun j197 hf => ?_)
                    refine zr_lstore_n (lo2 := [(3, .long j197), (0, .ref (zB E + a0)), (5, .int x188)]) C dX10_withCup_181 rfl (by decide) rfl ?_
                    refine zr_iinc (v0 := 1) (k := 2) (f := fun v => [(5, .int v), (3, .long j197), (0, .ref (zB E + a0))]) C hf (by decide) dX10_withCup_182 rfl (by decide) (fun v => rfl) (fun x198 hf => ?_)
                    refine zr_goto (tgt := 155) C dX10_withCup_185 (by decide) ?_
                    refine zsub [2, 1, 0] rfl ?_
                    exact hk155 (h191, j197, x198) hf
                refine zsub [1, 2, 0] rfl ?_
                exact L155 n (h185, j181, (0 : Int32)) hf
              · refine zr_ldc2 (v := 31) C zt863 dX10_withCup_122 ?_
                refine zr_lload_n C dX10_withCup_125 rfl 1 rfl ?_
                refine zr_lmul C hf dX10_withCup_126 (fun j199 hf => ?_)
                refine zr_aload_n C dX10_withCup_127 rfl 0 rfl ?_
                refine zr_gr C hf kg_X10_85 (fun _ _ _ => rfl) dX10_withCup_128 (fun w200 hf => ?_)
                refine zr_iload C dX10_withCup_131 2 rfl ?_
                refine zr_aload_n C dX10_withCup_133 rfl 0 rfl ?_
                refine zr_gr C hf kg_X10_36 (fun _ _ _ => rfl) dX10_withCup_134 (fun w201 hf => ?_)
                refine zr_callVi (As := []) (rest := [.int x182, .ref (zB E + w200), .long j199]) C hf (fun x hx => c_X1_heights l E n h185 w201 x hx) kv_X10_215 rfl rfl (Nat.le_of_ble_eq_true rfl) ⟨rfl, rfl⟩ ⟨Nat.le_of_ble_eq_true rfl, Nat.le_of_ble_eq_true rfl⟩ ⟨Nat.le_of_ble_eq_true rfl, Nat.le_of_ble_eq_true rfl⟩ dX10_withCup_137 (fun x203 h202 hf => ?_)
                refine zr_callVi (As := [.int x182, .int x203]) (rest := [.long j199]) C hf (fun x hx => c_X0_secondTurning l E n h202 w200 x182 x203 x hx) kv_X10_218 rfl rfl (Nat.le_of_ble_eq_true rfl) ⟨rfl, rfl⟩ ⟨Nat.le_of_ble_eq_true rfl, Nat.le_of_ble_eq_true rfl⟩ ⟨Nat.le_of_ble_eq_true rfl, Nat.le_of_ble_eq_true rfl⟩ dX10_withCup_140 (fun x205 h204 hf => ?_)
                refine zr_i2l C hf dX10_withCup_143 (fun j206 hf => ?_)
                refine zr_ladd C hf dX10_withCup_144 (fun j207 hf => ?_)
                refine zr_lstore_n (lo2 := [(3, .long j207), (0, .ref (zB E + a0)), (5, .int x182)]) C dX10_withCup_145 rfl (by decide) rfl ?_
                refine zr_iinc (v0 := 1) (k := 2) (f := fun v => [(5, .int v), (3, .long j207), (0, .ref (zB E + a0))]) C hf (by decide) dX10_withCup_146 rfl (by decide) (fun v => rfl) (fun x208 hf => ?_)
                refine zr_goto (tgt := 110) C dX10_withCup_149 (by decide) ?_
                refine zsub [2, 1, 0] rfl ?_
                exact hk110 (h204, j207, x208) hf
            refine zsub [1, 2, 0] rfl ?_
            exact L110 n (h179, j175, (0 : Int32)) hf
          · refine zr_iconst (v := 0) C dX10_withCup_59 (by decide) ?_
            refine zr_istore (lo2 := [(6, .int (0 : Int32)), (0, .ref (zB E + a0)), (3, .long j175), (5, .int x176)]) C dX10_withCup_60 (by decide) rfl ?_
            have L62 : ∀ (fu : Nat) (x : zH × Int64 × Int32), zloop (fun kc x => F_X10_withCup_B62 n kc47 kc x.1 a0 x.2.1 x176 x.2.2) fu x = some res → zW p l e (headSpec (zw yX10_withCup cX10_withCup 7 (some .long)) ({ frames := 2, cells := 0, slots := 0, locals := 40 } : Room)).room s m args below meth c E 7 (MQ below (zQc E res.2 (some (.long res.1))) args s 0 0 (zfr E)) 0 0 62 [(0, .ref (zB E + a0)), (3, .long x.2.1), (5, .int x176), (6, .int x.2.2)] [] x.1 := by
              refine z_loop _ ?_
              intro kc62 hk62 x hf
              obtain ⟨h211, j209, x210⟩ := x
              dsimp only at hf ⊢
              unfold F_X10_withCup_B62 at hf
              refine zr_iload C dX10_withCup_62 3 rfl ?_
              refine zr_aload_n C dX10_withCup_64 rfl 0 rfl ?_
              refine zr_gr C hf kg_X10_36 (fun _ _ _ => rfl) dX10_withCup_65 (fun w212 hf => ?_)
              refine zr_callVi (As := []) (rest := [.int x210]) C hf (fun x hx => c_X1_heights l E n h211 w212 x hx) kv_X10_215 rfl rfl (Nat.le_of_ble_eq_true rfl) ⟨rfl, rfl⟩ ⟨Nat.le_of_ble_eq_true rfl, Nat.le_of_ble_eq_true rfl⟩ ⟨Nat.le_of_ble_eq_true rfl, Nat.le_of_ble_eq_true rfl⟩ dX10_withCup_68 (fun x214 h213 hf => ?_)
              refine zr_icmp_ge (tgt := 101) C hf dX10_withCup_71 (by decide) (fun hf => ?_) (fun hf => ?_)
              · refine zr_iinc (v0 := 1) (k := 2) (f := fun v => [(5, .int v), (0, .ref (zB E + a0)), (3, .long j209), (6, .int x210)]) C hf (by decide) dX10_withCup_101 rfl (by decide) (fun v => rfl) (fun x215 hf => ?_)
                refine zr_goto (tgt := 47) C dX10_withCup_104 (by decide) ?_
                refine zsub [1, 2, 0] rfl ?_
                exact hk47 (h213, j209, x215) hf
              · refine zr_ldc2 (v := 31) C zt863 dX10_withCup_74 ?_
                refine zr_lload_n C dX10_withCup_77 rfl 1 rfl ?_
                refine zr_lmul C hf dX10_withCup_78 (fun j216 hf => ?_)
                refine zr_aload_n C dX10_withCup_79 rfl 0 rfl ?_
                refine zr_gr C hf kg_X10_85 (fun _ _ _ => rfl) dX10_withCup_80 (fun w217 hf => ?_)
                refine zr_gr C hf kg_X10_211 (fun _ _ _ => rfl) dX10_withCup_83 (fun w218 hf => ?_)
                refine zr_iload C dX10_withCup_86 2 rfl ?_
                refine zr_aaload (t0 := 3) C hf (by decide) rfl rfl dX10_withCup_88 (fun w219 hf => ?_)
                refine zr_iload C dX10_withCup_89 3 rfl ?_
                refine zr_iaload C hf dX10_withCup_91 (fun x220 hf => ?_)
                refine zr_i2l C hf dX10_withCup_92 (fun j221 hf => ?_)
                refine zr_ladd C hf dX10_withCup_93 (fun j222 hf => ?_)
                refine zr_lstore_n (lo2 := [(3, .long j222), (0, .ref (zB E + a0)), (5, .int x176), (6, .int x210)]) C dX10_withCup_94 rfl (by decide) rfl ?_
                refine zr_iinc (v0 := 1) (k := 3) (f := fun v => [(6, .int v), (3, .long j222), (0, .ref (zB E + a0)), (5, .int x176)]) C hf (by decide) dX10_withCup_95 rfl (by decide) (fun v => rfl) (fun x223 hf => ?_)
                refine zr_goto (tgt := 62) C dX10_withCup_98 (by decide) ?_
                refine zsub [2, 1, 3, 0] rfl ?_
                exact hk62 (h213, j222, x223) hf
            refine zsub [1, 2, 3, 0] rfl ?_
            exact L62 n (h179, j175, (0 : Int32)) hf
        refine zsub [1, 2, 0] rfl ?_
        exact L47 n (h174, j172, (0 : Int32)) hf
      · refine zr_ldc2 (v := 31) C zt863 dX10_withCup_20 ?_
        refine zr_lload_n C dX10_withCup_23 rfl 1 rfl ?_
        refine zr_lmul C hf dX10_withCup_24 (fun j224 hf => ?_)
        refine zr_aload_n C dX10_withCup_25 rfl 0 rfl ?_
        refine zr_gr C hf kg_X10_36 (fun _ _ _ => rfl) dX10_withCup_26 (fun w225 hf => ?_)
        refine zr_gr C hf kg_X10_152 (fun _ _ _ => rfl) dX10_withCup_29 (fun w226 hf => ?_)
        refine zr_iload C dX10_withCup_32 2 rfl ?_
        refine zr_iaload C hf dX10_withCup_34 (fun x227 hf => ?_)
        refine zr_i2l C hf dX10_withCup_35 (fun j228 hf => ?_)
        refine zr_ladd C hf dX10_withCup_36 (fun j229 hf => ?_)
        refine zr_lstore_n (lo2 := [(3, .long j229), (0, .ref (zB E + a0)), (5, .int x173)]) C dX10_withCup_37 rfl (by decide) rfl ?_
        refine zr_iinc (v0 := 1) (k := 2) (f := fun v => [(5, .int v), (3, .long j229), (0, .ref (zB E + a0))]) C hf (by decide) dX10_withCup_38 rfl (by decide) (fun v => rfl) (fun x230 hf => ?_)
        refine zr_goto (tgt := 14) C dX10_withCup_41 (by decide) ?_
        refine zsub [2, 1, 0] rfl ?_
        exact hk14 (h174, j229, x230) hf
    refine zsub [2, 1, 0] rfl ?_
    exact L14 n (h1, p0, (0 : Int32)) hf
  · refine zr_lload_n C dX10_withCup_9 rfl 0 rfl ?_
    exact zr_lreturn C hf hr (Nat.le_of_ble_eq_true rfl) (Nat.le_of_ble_eq_true rfl) dX10_withCup_10
theorem dX10_withDoings_0 : decode cX10_withDoings 0 = .ok (.lload_n 1, 1) := by decide +kernel
theorem dX10_withDoings_1 : decode cX10_withDoings 1 = .ok (.lstore_n 3, 1) := by decide +kernel
theorem dX10_withDoings_2 : decode cX10_withDoings 2 = .ok (.iconst 0, 1) := by decide +kernel
theorem dX10_withDoings_3 : decode cX10_withDoings 3 = .ok (.istore 5, 2) := by decide +kernel
theorem dX10_withDoings_5 : decode cX10_withDoings 5 = .ok (.iload 5, 2) := by decide +kernel
theorem dX10_withDoings_7 : decode cX10_withDoings 7 = .ok (.aload_n 0, 1) := by decide +kernel
theorem dX10_withDoings_8 : decode cX10_withDoings 8 = .ok (.getfield 29, 3) := by decide +kernel
theorem dX10_withDoings_11 : decode cX10_withDoings 11 = .ok (.if_icmp .ge 43, 3) := by decide +kernel
theorem dX10_withDoings_14 : decode cX10_withDoings 14 = .ok (.ldc2_w 316, 3) := by decide +kernel
theorem dX10_withDoings_17 : decode cX10_withDoings 17 = .ok (.lload_n 3, 1) := by decide +kernel
theorem dX10_withDoings_18 : decode cX10_withDoings 18 = .ok (.lmul, 1) := by decide +kernel
theorem dX10_withDoings_19 : decode cX10_withDoings 19 = .ok (.aload_n 0, 1) := by decide +kernel
theorem dX10_withDoings_20 : decode cX10_withDoings 20 = .ok (.iload 5, 2) := by decide +kernel
theorem dX10_withDoings_22 : decode cX10_withDoings 22 = .ok (.invokevirtual 163, 3) := by decide +kernel
theorem dX10_withDoings_25 : decode cX10_withDoings 25 = .ok (.getfield 324, 3) := by decide +kernel
theorem dX10_withDoings_28 : decode cX10_withDoings 28 = .ok (.i2l, 1) := by decide +kernel
theorem dX10_withDoings_29 : decode cX10_withDoings 29 = .ok (.ladd, 1) := by decide +kernel
theorem dX10_withDoings_30 : decode cX10_withDoings 30 = .ok (.lstore_n 3, 1) := by decide +kernel
theorem dX10_withDoings_31 : decode cX10_withDoings 31 = .ok (.ldc2_w 316, 3) := by decide +kernel
theorem dX10_withDoings_34 : decode cX10_withDoings 34 = .ok (.lload_n 3, 1) := by decide +kernel
theorem dX10_withDoings_35 : decode cX10_withDoings 35 = .ok (.lmul, 1) := by decide +kernel
theorem dX10_withDoings_36 : decode cX10_withDoings 36 = .ok (.aload_n 0, 1) := by decide +kernel
theorem dX10_withDoings_37 : decode cX10_withDoings 37 = .ok (.iload 5, 2) := by decide +kernel
theorem dX10_withDoings_39 : decode cX10_withDoings 39 = .ok (.invokevirtual 163, 3) := by decide +kernel
theorem dX10_withDoings_42 : decode cX10_withDoings 42 = .ok (.getfield 327, 3) := by decide +kernel
theorem dX10_withDoings_45 : decode cX10_withDoings 45 = .ok (.i2l, 1) := by decide +kernel
theorem dX10_withDoings_46 : decode cX10_withDoings 46 = .ok (.ladd, 1) := by decide +kernel
theorem dX10_withDoings_47 : decode cX10_withDoings 47 = .ok (.lstore_n 3, 1) := by decide +kernel
theorem dX10_withDoings_48 : decode cX10_withDoings 48 = .ok (.iinc 5 1, 3) := by decide +kernel
theorem dX10_withDoings_51 : decode cX10_withDoings 51 = .ok (.goto (-46), 3) := by decide +kernel
theorem dX10_withDoings_54 : decode cX10_withDoings 54 = .ok (.lload_n 3, 1) := by decide +kernel
theorem dX10_withDoings_55 : decode cX10_withDoings 55 = .ok (.lreturn, 1) := by decide +kernel
set_option maxHeartbeats 4000000 in
set_option maxRecDepth 100000 in
theorem c_X10_withDoings (l : Launch) (E : zE) (n : Nat) (h : zH) (a0 : Nat) (p0 : Int64) (res : Int64 × zH) (hf : F_X10_withDoings n h a0 p0 = some res) : Met l yX10_withDoings (zw yX10_withDoings cX10_withDoings 6 (some .long)) ({ frames := 2, cells := 0, slots := 0, locals := 42 } : Room) (zPc E h [.ref (zB E + a0), .long p0]) (zQc E res.2 (some (.long res.1))) 0 0 (zfr E) := by
  refine zmet (lo := [(0, .ref (zB E + a0)), (1, .long p0)]) (by decide +kernel) (Nat.le_of_ble_eq_true rfl) rfl ?_
  intro p e s m args below meth c C hr hin
  unfold F_X10_withDoings at hf
  refine zr_lload_n C dX10_withDoings_0 rfl 1 rfl ?_
  refine zr_lstore_n (lo2 := [(3, .long p0), (0, .ref (zB E + a0)), (1, .long p0)]) C dX10_withDoings_1 rfl (by decide) rfl ?_
  refine zr_iconst (v := 0) C dX10_withDoings_2 (by decide) ?_
  refine zr_istore (lo2 := [(5, .int (0 : Int32)), (3, .long p0), (0, .ref (zB E + a0)), (1, .long p0)]) C dX10_withDoings_3 (by decide) rfl ?_
  have L5 : ∀ (fu : Nat) (x : zH × Int64 × Int32), zloop (fun kc x => F_X10_withDoings_B5 n kc x.1 a0 x.2.1 x.2.2) fu x = some res → zW p l e (headSpec (zw yX10_withDoings cX10_withDoings 6 (some .long)) ({ frames := 2, cells := 0, slots := 0, locals := 42 } : Room)).room s m args below meth c E 6 (MQ below (zQc E res.2 (some (.long res.1))) args s 0 0 (zfr E)) 0 0 5 [(0, .ref (zB E + a0)), (3, .long x.2.1), (5, .int x.2.2)] [] x.1 := by
    refine z_loop _ ?_
    intro kc5 hk5 x hf
    obtain ⟨h21, j19, x20⟩ := x
    dsimp only at hf ⊢
    unfold F_X10_withDoings_B5 at hf
    refine zr_iload C dX10_withDoings_5 2 rfl ?_
    refine zr_aload_n C dX10_withDoings_7 rfl 0 rfl ?_
    refine zr_gi C hf kg_X10_29 (fun _ _ _ => rfl) dX10_withDoings_8 (fun x22 hf => ?_)
    refine zr_icmp_ge (tgt := 54) C hf dX10_withDoings_11 (by decide) (fun hf => ?_) (fun hf => ?_)
    · refine zr_lload_n C dX10_withDoings_54 rfl 1 rfl ?_
      exact zr_lreturn C hf hr (Nat.le_of_ble_eq_true rfl) (Nat.le_of_ble_eq_true rfl) dX10_withDoings_55
    · refine zr_ldc2 (v := 31) C zt863 dX10_withDoings_14 ?_
      refine zr_lload_n C dX10_withDoings_17 rfl 1 rfl ?_
      refine zr_lmul C hf dX10_withDoings_18 (fun j23 hf => ?_)
      refine zr_aload_n C dX10_withDoings_19 rfl 0 rfl ?_
      refine zr_iload C dX10_withDoings_20 2 rfl ?_
      refine zr_callVr (As := [.int x20]) (rest := [.long j23]) C hf (fun x hx => c_X10_doingOrRest l E n h21 a0 x20 x hx) kv_X10_163 rfl rfl (Nat.le_of_ble_eq_true rfl) ⟨rfl, rfl⟩ ⟨Nat.le_of_ble_eq_true rfl, Nat.le_of_ble_eq_true rfl⟩ ⟨Nat.le_of_ble_eq_true rfl, Nat.le_of_ble_eq_true rfl⟩ dX10_withDoings_22 (fun w25 h24 hf => ?_)
      refine zr_gi C hf kg_X10_324 (fun _ _ _ => rfl) dX10_withDoings_25 (fun x26 hf => ?_)
      refine zr_i2l C hf dX10_withDoings_28 (fun j27 hf => ?_)
      refine zr_ladd C hf dX10_withDoings_29 (fun j28 hf => ?_)
      refine zr_lstore_n (lo2 := [(3, .long j28), (0, .ref (zB E + a0)), (5, .int x20)]) C dX10_withDoings_30 rfl (by decide) rfl ?_
      refine zr_ldc2 (v := 31) C zt863 dX10_withDoings_31 ?_
      refine zr_lload_n C dX10_withDoings_34 rfl 0 rfl ?_
      refine zr_lmul C hf dX10_withDoings_35 (fun j29 hf => ?_)
      refine zr_aload_n C dX10_withDoings_36 rfl 1 rfl ?_
      refine zr_iload C dX10_withDoings_37 2 rfl ?_
      refine zr_callVr (As := [.int x20]) (rest := [.long j29]) C hf (fun x hx => c_X10_doingOrRest l E n h24 a0 x20 x hx) kv_X10_163 rfl rfl (Nat.le_of_ble_eq_true rfl) ⟨rfl, rfl⟩ ⟨Nat.le_of_ble_eq_true rfl, Nat.le_of_ble_eq_true rfl⟩ ⟨Nat.le_of_ble_eq_true rfl, Nat.le_of_ble_eq_true rfl⟩ dX10_withDoings_39 (fun w31 h30 hf => ?_)
      refine zr_gi C hf kg_X10_327 (fun _ _ _ => rfl) dX10_withDoings_42 (fun x32 hf => ?_)
      refine zr_i2l C hf dX10_withDoings_45 (fun j33 hf => ?_)
      refine zr_ladd C hf dX10_withDoings_46 (fun j34 hf => ?_)
      refine zr_lstore_n (lo2 := [(3, .long j34), (0, .ref (zB E + a0)), (5, .int x20)]) C dX10_withDoings_47 rfl (by decide) rfl ?_
      refine zr_iinc (v0 := 1) (k := 2) (f := fun v => [(5, .int v), (3, .long j34), (0, .ref (zB E + a0))]) C hf (by decide) dX10_withDoings_48 rfl (by decide) (fun v => rfl) (fun x35 hf => ?_)
      refine zr_goto (tgt := 5) C dX10_withDoings_51 (by decide) ?_
      refine zsub [2, 1, 0] rfl ?_
      exact hk5 (h30, j34, x35) hf
  refine zsub [2, 1, 0] rfl ?_
  exact L5 n (h, p0, (0 : Int32)) hf
theorem dX10_withLeaves_0 : decode cX10_withLeaves 0 = .ok (.lload_n 1, 1) := by decide +kernel
theorem dX10_withLeaves_1 : decode cX10_withLeaves 1 = .ok (.lstore_n 3, 1) := by decide +kernel
theorem dX10_withLeaves_2 : decode cX10_withLeaves 2 = .ok (.iconst 0, 1) := by decide +kernel
theorem dX10_withLeaves_3 : decode cX10_withLeaves 3 = .ok (.istore 5, 2) := by decide +kernel
theorem dX10_withLeaves_5 : decode cX10_withLeaves 5 = .ok (.iload 5, 2) := by decide +kernel
theorem dX10_withLeaves_7 : decode cX10_withLeaves 7 = .ok (.aload_n 0, 1) := by decide +kernel
theorem dX10_withLeaves_8 : decode cX10_withLeaves 8 = .ok (.getfield 75, 3) := by decide +kernel
theorem dX10_withLeaves_11 : decode cX10_withLeaves 11 = .ok (.getfield 197, 3) := by decide +kernel
theorem dX10_withLeaves_14 : decode cX10_withLeaves 14 = .ok (.if_icmp .ge 40, 3) := by decide +kernel
theorem dX10_withLeaves_17 : decode cX10_withLeaves 17 = .ok (.iconst 0, 1) := by decide +kernel
theorem dX10_withLeaves_18 : decode cX10_withLeaves 18 = .ok (.istore 6, 2) := by decide +kernel
theorem dX10_withLeaves_20 : decode cX10_withLeaves 20 = .ok (.iload 6, 2) := by decide +kernel
theorem dX10_withLeaves_22 : decode cX10_withLeaves 22 = .ok (.iconst 5, 1) := by decide +kernel
theorem dX10_withLeaves_23 : decode cX10_withLeaves 23 = .ok (.if_icmp .gt 25, 3) := by decide +kernel
theorem dX10_withLeaves_26 : decode cX10_withLeaves 26 = .ok (.ldc2_w 316, 3) := by decide +kernel
theorem dX10_withLeaves_29 : decode cX10_withLeaves 29 = .ok (.lload_n 3, 1) := by decide +kernel
theorem dX10_withLeaves_30 : decode cX10_withLeaves 30 = .ok (.lmul, 1) := by decide +kernel
theorem dX10_withLeaves_31 : decode cX10_withLeaves 31 = .ok (.aload_n 0, 1) := by decide +kernel
theorem dX10_withLeaves_32 : decode cX10_withLeaves 32 = .ok (.iload 5, 2) := by decide +kernel
theorem dX10_withLeaves_34 : decode cX10_withLeaves 34 = .ok (.iload 6, 2) := by decide +kernel
theorem dX10_withLeaves_36 : decode cX10_withLeaves 36 = .ok (.invokevirtual 330, 3) := by decide +kernel
theorem dX10_withLeaves_39 : decode cX10_withLeaves 39 = .ok (.i2l, 1) := by decide +kernel
theorem dX10_withLeaves_40 : decode cX10_withLeaves 40 = .ok (.ladd, 1) := by decide +kernel
theorem dX10_withLeaves_41 : decode cX10_withLeaves 41 = .ok (.lstore_n 3, 1) := by decide +kernel
theorem dX10_withLeaves_42 : decode cX10_withLeaves 42 = .ok (.iinc 6 1, 3) := by decide +kernel
theorem dX10_withLeaves_45 : decode cX10_withLeaves 45 = .ok (.goto (-25), 3) := by decide +kernel
theorem dX10_withLeaves_48 : decode cX10_withLeaves 48 = .ok (.iinc 5 1, 3) := by decide +kernel
theorem dX10_withLeaves_51 : decode cX10_withLeaves 51 = .ok (.goto (-46), 3) := by decide +kernel
theorem dX10_withLeaves_54 : decode cX10_withLeaves 54 = .ok (.lload_n 3, 1) := by decide +kernel
theorem dX10_withLeaves_55 : decode cX10_withLeaves 55 = .ok (.lreturn, 1) := by decide +kernel
set_option maxHeartbeats 4000000 in
set_option maxRecDepth 100000 in
theorem c_X10_withLeaves (l : Launch) (E : zE) (n : Nat) (h : zH) (a0 : Nat) (p0 : Int64) (res : Int64 × zH) (hf : F_X10_withLeaves n h a0 p0 = some res) : Met l yX10_withLeaves (zw yX10_withLeaves cX10_withLeaves 7 (some .long)) ({ frames := 3, cells := 0, slots := 0, locals := 72 } : Room) (zPc E h [.ref (zB E + a0), .long p0]) (zQc E res.2 (some (.long res.1))) 0 0 (zfr E) := by
  refine zmet (lo := [(0, .ref (zB E + a0)), (1, .long p0)]) (by decide +kernel) (Nat.le_of_ble_eq_true rfl) rfl ?_
  intro p e s m args below meth c C hr hin
  unfold F_X10_withLeaves at hf
  refine zr_lload_n C dX10_withLeaves_0 rfl 1 rfl ?_
  refine zr_lstore_n (lo2 := [(3, .long p0), (0, .ref (zB E + a0)), (1, .long p0)]) C dX10_withLeaves_1 rfl (by decide) rfl ?_
  refine zr_iconst (v := 0) C dX10_withLeaves_2 (by decide) ?_
  refine zr_istore (lo2 := [(5, .int (0 : Int32)), (3, .long p0), (0, .ref (zB E + a0)), (1, .long p0)]) C dX10_withLeaves_3 (by decide) rfl ?_
  have L5 : ∀ (fu : Nat) (x : zH × Int64 × Int32), zloop (fun kc x => F_X10_withLeaves_B5 n kc x.1 a0 x.2.1 x.2.2) fu x = some res → zW p l e (headSpec (zw yX10_withLeaves cX10_withLeaves 7 (some .long)) ({ frames := 3, cells := 0, slots := 0, locals := 72 } : Room)).room s m args below meth c E 7 (MQ below (zQc E res.2 (some (.long res.1))) args s 0 0 (zfr E)) 0 0 5 [(0, .ref (zB E + a0)), (3, .long x.2.1), (5, .int x.2.2)] [] x.1 := by
    refine z_loop _ ?_
    intro kc5 hk5 x hf
    obtain ⟨h31, j29, x30⟩ := x
    dsimp only at hf ⊢
    unfold F_X10_withLeaves_B5 at hf
    refine zr_iload C dX10_withLeaves_5 2 rfl ?_
    refine zr_aload_n C dX10_withLeaves_7 rfl 0 rfl ?_
    refine zr_gr C hf kg_X10_75 (fun _ _ _ => rfl) dX10_withLeaves_8 (fun w32 hf => ?_)
    refine zr_gi C hf kg_X10_197 (fun _ _ _ => rfl) dX10_withLeaves_11 (fun x33 hf => ?_)
    refine zr_icmp_ge (tgt := 54) C hf dX10_withLeaves_14 (by decide) (fun hf => ?_) (fun hf => ?_)
    · refine zr_lload_n C dX10_withLeaves_54 rfl 1 rfl ?_
      exact zr_lreturn C hf hr (Nat.le_of_ble_eq_true rfl) (Nat.le_of_ble_eq_true rfl) dX10_withLeaves_55
    · refine zr_iconst (v := 0) C dX10_withLeaves_17 (by decide) ?_
      refine zr_istore (lo2 := [(6, .int (0 : Int32)), (0, .ref (zB E + a0)), (3, .long j29), (5, .int x30)]) C dX10_withLeaves_18 (by decide) rfl ?_
      have L20 : ∀ (fu : Nat) (x : zH × Int64 × Int32), zloop (fun kc x => F_X10_withLeaves_B20 n kc5 kc x.1 a0 x.2.1 x30 x.2.2) fu x = some res → zW p l e (headSpec (zw yX10_withLeaves cX10_withLeaves 7 (some .long)) ({ frames := 3, cells := 0, slots := 0, locals := 72 } : Room)).room s m args below meth c E 7 (MQ below (zQc E res.2 (some (.long res.1))) args s 0 0 (zfr E)) 0 0 20 [(0, .ref (zB E + a0)), (3, .long x.2.1), (5, .int x30), (6, .int x.2.2)] [] x.1 := by
        refine z_loop _ ?_
        intro kc20 hk20 x hf
        obtain ⟨h36, j34, x35⟩ := x
        dsimp only at hf ⊢
        unfold F_X10_withLeaves_B20 at hf
        refine zr_iload C dX10_withLeaves_20 3 rfl ?_
        refine zr_iconst (v := 5) C dX10_withLeaves_22 (by decide) ?_
        refine zr_icmp_gt (tgt := 48) C hf dX10_withLeaves_23 (by decide) (fun hf => ?_) (fun hf => ?_)
        · refine zr_iinc (v0 := 1) (k := 2) (f := fun v => [(5, .int v), (0, .ref (zB E + a0)), (3, .long j34), (6, .int x35)]) C hf (by decide) dX10_withLeaves_48 rfl (by decide) (fun v => rfl) (fun x37 hf => ?_)
          refine zr_goto (tgt := 5) C dX10_withLeaves_51 (by decide) ?_
          refine zsub [1, 2, 0] rfl ?_
          exact hk5 (h36, j34, x37) hf
        · refine zr_ldc2 (v := 31) C zt863 dX10_withLeaves_26 ?_
          refine zr_lload_n C dX10_withLeaves_29 rfl 1 rfl ?_
          refine zr_lmul C hf dX10_withLeaves_30 (fun j38 hf => ?_)
          refine zr_aload_n C dX10_withLeaves_31 rfl 0 rfl ?_
          refine zr_iload C dX10_withLeaves_32 2 rfl ?_
          refine zr_iload C dX10_withLeaves_34 3 rfl ?_
          refine zr_callVi (As := [.int x30, .int x35]) (rest := [.long j38]) C hf (fun x hx => c_X10_about l E n h36 a0 x30 x35 x hx) kv_X10_330 rfl rfl (Nat.le_of_ble_eq_true rfl) ⟨rfl, rfl⟩ ⟨Nat.le_of_ble_eq_true rfl, Nat.le_of_ble_eq_true rfl⟩ ⟨Nat.le_of_ble_eq_true rfl, Nat.le_of_ble_eq_true rfl⟩ dX10_withLeaves_36 (fun x40 h39 hf => ?_)
          refine zr_i2l C hf dX10_withLeaves_39 (fun j41 hf => ?_)
          refine zr_ladd C hf dX10_withLeaves_40 (fun j42 hf => ?_)
          refine zr_lstore_n (lo2 := [(3, .long j42), (0, .ref (zB E + a0)), (5, .int x30), (6, .int x35)]) C dX10_withLeaves_41 rfl (by decide) rfl ?_
          refine zr_iinc (v0 := 1) (k := 3) (f := fun v => [(6, .int v), (3, .long j42), (0, .ref (zB E + a0)), (5, .int x30)]) C hf (by decide) dX10_withLeaves_42 rfl (by decide) (fun v => rfl) (fun x43 hf => ?_)
          refine zr_goto (tgt := 20) C dX10_withLeaves_45 (by decide) ?_
          refine zsub [2, 1, 3, 0] rfl ?_
          exact hk20 (h39, j42, x43) hf
      refine zsub [1, 2, 3, 0] rfl ?_
      exact L20 n (h31, j29, (0 : Int32)) hf
  refine zsub [2, 1, 0] rfl ?_
  exact L5 n (h, p0, (0 : Int32)) hf
theorem dX10_withRows_0 : decode cX10_withRows 0 = .ok (.lload_n 1, 1) := by decide +kernel
theorem dX10_withRows_1 : decode cX10_withRows 1 = .ok (.lstore_n 3, 1) := by decide +kernel
theorem dX10_withRows_2 : decode cX10_withRows 2 = .ok (.iconst 0, 1) := by decide +kernel
theorem dX10_withRows_3 : decode cX10_withRows 3 = .ok (.istore 5, 2) := by decide +kernel
theorem dX10_withRows_5 : decode cX10_withRows 5 = .ok (.iload 5, 2) := by decide +kernel
theorem dX10_withRows_7 : decode cX10_withRows 7 = .ok (.aload_n 0, 1) := by decide +kernel
theorem dX10_withRows_8 : decode cX10_withRows 8 = .ok (.getfield 67, 3) := by decide +kernel
theorem dX10_withRows_11 : decode cX10_withRows 11 = .ok (.if_icmp .ge 141, 3) := by decide +kernel
theorem dX10_withRows_14 : decode cX10_withRows 14 = .ok (.aload_n 0, 1) := by decide +kernel
theorem dX10_withRows_15 : decode cX10_withRows 15 = .ok (.getfield 58, 3) := by decide +kernel
theorem dX10_withRows_18 : decode cX10_withRows 18 = .ok (.iload 5, 2) := by decide +kernel
theorem dX10_withRows_20 : decode cX10_withRows 20 = .ok (.aaload, 1) := by decide +kernel
theorem dX10_withRows_21 : decode cX10_withRows 21 = .ok (.astore 6, 2) := by decide +kernel
theorem dX10_withRows_23 : decode cX10_withRows 23 = .ok (.ldc2_w 316, 3) := by decide +kernel
theorem dX10_withRows_26 : decode cX10_withRows 26 = .ok (.lload_n 3, 1) := by decide +kernel
theorem dX10_withRows_27 : decode cX10_withRows 27 = .ok (.lmul, 1) := by decide +kernel
theorem dX10_withRows_28 : decode cX10_withRows 28 = .ok (.aload 6, 2) := by decide +kernel
theorem dX10_withRows_30 : decode cX10_withRows 30 = .ok (.getfield 333, 3) := by decide +kernel
theorem dX10_withRows_33 : decode cX10_withRows 33 = .ok (.i2l, 1) := by decide +kernel
theorem dX10_withRows_34 : decode cX10_withRows 34 = .ok (.ladd, 1) := by decide +kernel
theorem dX10_withRows_35 : decode cX10_withRows 35 = .ok (.lstore_n 3, 1) := by decide +kernel
theorem dX10_withRows_36 : decode cX10_withRows 36 = .ok (.iconst 0, 1) := by decide +kernel
theorem dX10_withRows_37 : decode cX10_withRows 37 = .ok (.istore 7, 2) := by decide +kernel
theorem dX10_withRows_39 : decode cX10_withRows 39 = .ok (.iload 7, 2) := by decide +kernel
theorem dX10_withRows_41 : decode cX10_withRows 41 = .ok (.aload 6, 2) := by decide +kernel
theorem dX10_withRows_43 : decode cX10_withRows 43 = .ok (.getfield 333, 3) := by decide +kernel
theorem dX10_withRows_46 : decode cX10_withRows 46 = .ok (.if_icmp .ge 41, 3) := by decide +kernel
theorem dX10_withRows_49 : decode cX10_withRows 49 = .ok (.ldc2_w 316, 3) := by decide +kernel
theorem dX10_withRows_52 : decode cX10_withRows 52 = .ok (.lload_n 3, 1) := by decide +kernel
theorem dX10_withRows_53 : decode cX10_withRows 53 = .ok (.lmul, 1) := by decide +kernel
theorem dX10_withRows_54 : decode cX10_withRows 54 = .ok (.aload 6, 2) := by decide +kernel
theorem dX10_withRows_56 : decode cX10_withRows 56 = .ok (.getfield 336, 3) := by decide +kernel
theorem dX10_withRows_59 : decode cX10_withRows 59 = .ok (.iload 7, 2) := by decide +kernel
theorem dX10_withRows_61 : decode cX10_withRows 61 = .ok (.iaload, 1) := by decide +kernel
theorem dX10_withRows_62 : decode cX10_withRows 62 = .ok (.i2l, 1) := by decide +kernel
theorem dX10_withRows_63 : decode cX10_withRows 63 = .ok (.ladd, 1) := by decide +kernel
theorem dX10_withRows_64 : decode cX10_withRows 64 = .ok (.lstore_n 3, 1) := by decide +kernel
theorem dX10_withRows_65 : decode cX10_withRows 65 = .ok (.ldc2_w 316, 3) := by decide +kernel
theorem dX10_withRows_68 : decode cX10_withRows 68 = .ok (.lload_n 3, 1) := by decide +kernel
theorem dX10_withRows_69 : decode cX10_withRows 69 = .ok (.lmul, 1) := by decide +kernel
theorem dX10_withRows_70 : decode cX10_withRows 70 = .ok (.aload 6, 2) := by decide +kernel
theorem dX10_withRows_72 : decode cX10_withRows 72 = .ok (.getfield 339, 3) := by decide +kernel
theorem dX10_withRows_75 : decode cX10_withRows 75 = .ok (.iload 7, 2) := by decide +kernel
theorem dX10_withRows_77 : decode cX10_withRows 77 = .ok (.iaload, 1) := by decide +kernel
theorem dX10_withRows_78 : decode cX10_withRows 78 = .ok (.i2l, 1) := by decide +kernel
theorem dX10_withRows_79 : decode cX10_withRows 79 = .ok (.ladd, 1) := by decide +kernel
theorem dX10_withRows_80 : decode cX10_withRows 80 = .ok (.lstore_n 3, 1) := by decide +kernel
theorem dX10_withRows_81 : decode cX10_withRows 81 = .ok (.iinc 7 1, 3) := by decide +kernel
theorem dX10_withRows_84 : decode cX10_withRows 84 = .ok (.goto (-45), 3) := by decide +kernel
theorem dX10_withRows_87 : decode cX10_withRows 87 = .ok (.aload_n 0, 1) := by decide +kernel
theorem dX10_withRows_88 : decode cX10_withRows 88 = .ok (.getfield 75, 3) := by decide +kernel
theorem dX10_withRows_91 : decode cX10_withRows 91 = .ok (.getfield 197, 3) := by decide +kernel
theorem dX10_withRows_94 : decode cX10_withRows 94 = .ok (.ifCond .le 13, 3) := by decide +kernel
theorem dX10_withRows_97 : decode cX10_withRows 97 = .ok (.aload_n 0, 1) := by decide +kernel
theorem dX10_withRows_98 : decode cX10_withRows 98 = .ok (.aload 6, 2) := by decide +kernel
theorem dX10_withRows_100 : decode cX10_withRows 100 = .ok (.aload_n 0, 1) := by decide +kernel
theorem dX10_withRows_101 : decode cX10_withRows 101 = .ok (.getfield 75, 3) := by decide +kernel
theorem dX10_withRows_104 : decode cX10_withRows 104 = .ok (.invokevirtual 225, 3) := by decide +kernel
theorem dX10_withRows_107 : decode cX10_withRows 107 = .ok (.iconst 0, 1) := by decide +kernel
theorem dX10_withRows_108 : decode cX10_withRows 108 = .ok (.istore 7, 2) := by decide +kernel
theorem dX10_withRows_110 : decode cX10_withRows 110 = .ok (.iload 7, 2) := by decide +kernel
theorem dX10_withRows_112 : decode cX10_withRows 112 = .ok (.aload_n 0, 1) := by decide +kernel
theorem dX10_withRows_113 : decode cX10_withRows 113 = .ok (.getfield 75, 3) := by decide +kernel
theorem dX10_withRows_116 : decode cX10_withRows 116 = .ok (.getfield 197, 3) := by decide +kernel
theorem dX10_withRows_119 : decode cX10_withRows 119 = .ok (.if_icmp .ge 27, 3) := by decide +kernel
theorem dX10_withRows_122 : decode cX10_withRows 122 = .ok (.ldc2_w 316, 3) := by decide +kernel
theorem dX10_withRows_125 : decode cX10_withRows 125 = .ok (.lload_n 3, 1) := by decide +kernel
theorem dX10_withRows_126 : decode cX10_withRows 126 = .ok (.lmul, 1) := by decide +kernel
theorem dX10_withRows_127 : decode cX10_withRows 127 = .ok (.aload_n 0, 1) := by decide +kernel
theorem dX10_withRows_128 : decode cX10_withRows 128 = .ok (.getfield 89, 3) := by decide +kernel
theorem dX10_withRows_131 : decode cX10_withRows 131 = .ok (.getfield 180, 3) := by decide +kernel
theorem dX10_withRows_134 : decode cX10_withRows 134 = .ok (.iload 7, 2) := by decide +kernel
theorem dX10_withRows_136 : decode cX10_withRows 136 = .ok (.iaload, 1) := by decide +kernel
theorem dX10_withRows_137 : decode cX10_withRows 137 = .ok (.i2l, 1) := by decide +kernel
theorem dX10_withRows_138 : decode cX10_withRows 138 = .ok (.ladd, 1) := by decide +kernel
theorem dX10_withRows_139 : decode cX10_withRows 139 = .ok (.lstore_n 3, 1) := by decide +kernel
theorem dX10_withRows_140 : decode cX10_withRows 140 = .ok (.iinc 7 1, 3) := by decide +kernel
theorem dX10_withRows_143 : decode cX10_withRows 143 = .ok (.goto (-33), 3) := by decide +kernel
theorem dX10_withRows_146 : decode cX10_withRows 146 = .ok (.iinc 5 1, 3) := by decide +kernel
theorem dX10_withRows_149 : decode cX10_withRows 149 = .ok (.goto (-144), 3) := by decide +kernel
theorem dX10_withRows_152 : decode cX10_withRows 152 = .ok (.lload_n 3, 1) := by decide +kernel
theorem dX10_withRows_153 : decode cX10_withRows 153 = .ok (.lreturn, 1) := by decide +kernel
set_option maxHeartbeats 4000000 in
set_option maxRecDepth 100000 in
theorem c_X10_withRows (l : Launch) (E : zE) (n : Nat) (h : zH) (a0 : Nat) (p0 : Int64) (res : Int64 × zH) (hf : F_X10_withRows n h a0 p0 = some res) : Met l yX10_withRows (zw yX10_withRows cX10_withRows 8 (some .long)) ({ frames := 5, cells := 0, slots := 0, locals := 122 } : Room) (zPc E h [.ref (zB E + a0), .long p0]) (zQc E res.2 (some (.long res.1))) 0 0 (zfr E) := by
  refine zmet (lo := [(0, .ref (zB E + a0)), (1, .long p0)]) (by decide +kernel) (Nat.le_of_ble_eq_true rfl) rfl ?_
  intro p e s m args below meth c C hr hin
  unfold F_X10_withRows at hf
  refine zr_lload_n C dX10_withRows_0 rfl 1 rfl ?_
  refine zr_lstore_n (lo2 := [(3, .long p0), (0, .ref (zB E + a0)), (1, .long p0)]) C dX10_withRows_1 rfl (by decide) rfl ?_
  refine zr_iconst (v := 0) C dX10_withRows_2 (by decide) ?_
  refine zr_istore (lo2 := [(5, .int (0 : Int32)), (3, .long p0), (0, .ref (zB E + a0)), (1, .long p0)]) C dX10_withRows_3 (by decide) rfl ?_
  have L5 : ∀ (fu : Nat) (x : zH × Int64 × Int32), zloop (fun kc x => F_X10_withRows_B5 n kc x.1 a0 x.2.1 x.2.2) fu x = some res → zW p l e (headSpec (zw yX10_withRows cX10_withRows 8 (some .long)) ({ frames := 5, cells := 0, slots := 0, locals := 122 } : Room)).room s m args below meth c E 8 (MQ below (zQc E res.2 (some (.long res.1))) args s 0 0 (zfr E)) 0 0 5 [(0, .ref (zB E + a0)), (3, .long x.2.1), (5, .int x.2.2)] [] x.1 := by
    refine z_loop _ ?_
    intro kc5 hk5 x hf
    obtain ⟨h87, j85, x86⟩ := x
    dsimp only at hf ⊢
    unfold F_X10_withRows_B5 at hf
    have J107 : ∀ (h90 : zH) (j88 : Int64) (x89 : Int32), F_X10_withRows_J107 n kc5 h90 a0 j88 x89 = some res → zW p l e (headSpec (zw yX10_withRows cX10_withRows 8 (some .long)) ({ frames := 5, cells := 0, slots := 0, locals := 122 } : Room)).room s m args below meth c E 8 (MQ below (zQc E res.2 (some (.long res.1))) args s 0 0 (zfr E)) 0 0 107 [(0, .ref (zB E + a0)), (3, .long j88), (5, .int x89)] [] h90 := by
      intro h90 j88 x89 hf
      unfold F_X10_withRows_J107 at hf
      refine zr_iconst (v := 0) C dX10_withRows_107 (by decide) ?_
      refine zr_istore (lo2 := [(7, .int (0 : Int32)), (0, .ref (zB E + a0)), (3, .long j88), (5, .int x89)]) C dX10_withRows_108 (by decide) rfl ?_
      have L110 : ∀ (fu : Nat) (x : zH × Int64 × Int32), zloop (fun kc x => F_X10_withRows_B110 n kc5 kc x.1 a0 x.2.1 x89 x.2.2) fu x = some res → zW p l e (headSpec (zw yX10_withRows cX10_withRows 8 (some .long)) ({ frames := 5, cells := 0, slots := 0, locals := 122 } : Room)).room s m args below meth c E 8 (MQ below (zQc E res.2 (some (.long res.1))) args s 0 0 (zfr E)) 0 0 110 [(0, .ref (zB E + a0)), (3, .long x.2.1), (5, .int x89), (7, .int x.2.2)] [] x.1 := by
        refine z_loop _ ?_
        intro kc110 hk110 x hf
        obtain ⟨h93, j91, x92⟩ := x
        dsimp only at hf ⊢
        unfold F_X10_withRows_B110 at hf
        refine zr_iload C dX10_withRows_110 3 rfl ?_
        refine zr_aload_n C dX10_withRows_112 rfl 0 rfl ?_
        refine zr_gr C hf kg_X10_75 (fun _ _ _ => rfl) dX10_withRows_113 (fun w94 hf => ?_)
        refine zr_gi C hf kg_X10_197 (fun _ _ _ => rfl) dX10_withRows_116 (fun x95 hf => ?_)
        refine zr_icmp_ge (tgt := 146) C hf dX10_withRows_119 (by decide) (fun hf => ?_) (fun hf => ?_)
        · refine zr_iinc (v0 := 1) (k := 2) (f := fun v => [(5, .int v), (0, .ref (zB E + a0)), (3, .long j91), (7, .int x92)]) C hf (by decide) dX10_withRows_146 rfl (by decide) (fun v => rfl) (fun x96 hf => ?_)
          refine zr_goto (tgt := 5) C dX10_withRows_149 (by decide) ?_
          refine zsub [1, 2, 0] rfl ?_
          exact hk5 (h93, j91, x96) hf
        · refine zr_ldc2 (v := 31) C zt863 dX10_withRows_122 ?_
          refine zr_lload_n C dX10_withRows_125 rfl 1 rfl ?_
          refine zr_lmul C hf dX10_withRows_126 (fun j97 hf => ?_)
          refine zr_aload_n C dX10_withRows_127 rfl 0 rfl ?_
          refine zr_gr C hf kg_X10_89 (fun _ _ _ => rfl) dX10_withRows_128 (fun w98 hf => ?_)
          refine zr_gr C hf kg_X10_180 (fun _ _ _ => rfl) dX10_withRows_131 (fun w99 hf => ?_)
          refine zr_iload C dX10_withRows_134 3 rfl ?_
          refine zr_iaload C hf dX10_withRows_136 (fun x100 hf => ?_)
          refine zr_i2l C hf dX10_withRows_137 (fun j101 hf => ?_)
          refine zr_ladd C hf dX10_withRows_138 (fun j102 hf => ?_)
          refine zr_lstore_n (lo2 := [(3, .long j102), (0, .ref (zB E + a0)), (5, .int x89), (7, .int x92)]) C dX10_withRows_139 rfl (by decide) rfl ?_
          refine zr_iinc (v0 := 1) (k := 3) (f := fun v => [(7, .int v), (3, .long j102), (0, .ref (zB E + a0)), (5, .int x89)]) C hf (by decide) dX10_withRows_140 rfl (by decide) (fun v => rfl) (fun x103 hf => ?_)
          refine zr_goto (tgt := 110) C dX10_withRows_143 (by decide) ?_
          refine zsub [2, 1, 3, 0] rfl ?_
          exact hk110 (h93, j102, x103) hf
      refine zsub [1, 2, 3, 0] rfl ?_
      exact L110 n (h90, j88, (0 : Int32)) hf
    refine zr_iload C dX10_withRows_5 2 rfl ?_
    refine zr_aload_n C dX10_withRows_7 rfl 0 rfl ?_
    refine zr_gi C hf kg_X10_67 (fun _ _ _ => rfl) dX10_withRows_8 (fun x104 hf => ?_)
    refine zr_icmp_ge (tgt := 152) C hf dX10_withRows_11 (by decide) (fun hf => ?_) (fun hf => ?_)
    · refine zr_lload_n C dX10_withRows_152 rfl 1 rfl ?_
      exact zr_lreturn C hf hr (Nat.le_of_ble_eq_true rfl) (Nat.le_of_ble_eq_true rfl) dX10_withRows_153
    · refine zr_aload_n C dX10_withRows_14 rfl 0 rfl ?_
      refine zr_gr C hf kg_X10_58 (fun _ _ _ => rfl) dX10_withRows_15 (fun w105 hf => ?_)
      refine zr_iload C dX10_withRows_18 2 rfl ?_
      refine zr_aaload (t0 := 5) C hf (by decide) rfl rfl dX10_withRows_20 (fun w106 hf => ?_)
      refine zr_astore (lo2 := [(6, .ref (zB E + w106)), (0, .ref (zB E + a0)), (3, .long j85), (5, .int x86)]) C dX10_withRows_21 (by decide) rfl ?_
      refine zr_ldc2 (v := 31) C zt863 dX10_withRows_23 ?_
      refine zr_lload_n C dX10_withRows_26 rfl 2 rfl ?_
      refine zr_lmul C hf dX10_withRows_27 (fun j107 hf => ?_)
      refine zr_aload C dX10_withRows_28 0 rfl ?_
      refine zr_gi C hf kg_X10_333 (fun _ _ _ => rfl) dX10_withRows_30 (fun x108 hf => ?_)
      refine zr_i2l C hf dX10_withRows_33 (fun j109 hf => ?_)
      refine zr_ladd C hf dX10_withRows_34 (fun j110 hf => ?_)
      refine zr_lstore_n (lo2 := [(3, .long j110), (6, .ref (zB E + w106)), (0, .ref (zB E + a0)), (5, .int x86)]) C dX10_withRows_35 rfl (by decide) rfl ?_
      refine zr_iconst (v := 0) C dX10_withRows_36 (by decide) ?_
      refine zr_istore (lo2 := [(7, .int (0 : Int32)), (3, .long j110), (6, .ref (zB E + w106)), (0, .ref (zB E + a0)), (5, .int x86)]) C dX10_withRows_37 (by decide) rfl ?_
      have L39 : ∀ (fu : Nat) (x : zH × Int64 × Int32), zloop (fun kc x => F_X10_withRows_B39 n kc5 kc x.1 a0 x.2.1 x86 w106 x.2.2) fu x = some res → zW p l e (headSpec (zw yX10_withRows cX10_withRows 8 (some .long)) ({ frames := 5, cells := 0, slots := 0, locals := 122 } : Room)).room s m args below meth c E 8 (MQ below (zQc E res.2 (some (.long res.1))) args s 0 0 (zfr E)) 0 0 39 [(0, .ref (zB E + a0)), (3, .long x.2.1), (5, .int x86), (6, .ref (zB E + w106)), (7, .int x.2.2)] [] x.1 := by
        refine z_loop _ ?_
        intro kc39 hk39 x hf
        obtain ⟨h113, j111, x112⟩ := x
        dsimp only at hf ⊢
        unfold F_X10_withRows_B39 at hf
        refine zr_iload C dX10_withRows_39 4 rfl ?_
        refine zr_aload C dX10_withRows_41 3 rfl ?_
        refine zr_gi C hf kg_X10_333 (fun _ _ _ => rfl) dX10_withRows_43 (fun x114 hf => ?_)
        refine zr_icmp_ge (tgt := 87) C hf dX10_withRows_46 (by decide) (fun hf => ?_) (fun hf => ?_)
        · refine zr_aload_n C dX10_withRows_87 rfl 0 rfl ?_
          refine zr_gr C hf kg_X10_75 (fun _ _ _ => rfl) dX10_withRows_88 (fun w115 hf => ?_)
          refine zr_gi C hf kg_X10_197 (fun _ _ _ => rfl) dX10_withRows_91 (fun x116 hf => ?_)
          refine zr_if_le (tgt := 107) C hf dX10_withRows_94 (by decide) (fun hf => ?_) (fun hf => ?_)
          · refine zsub [0, 1, 2] rfl ?_
            exact J107 h113 j111 x86 hf
          · refine zr_aload_n C dX10_withRows_97 rfl 0 rfl ?_
            refine zr_aload C dX10_withRows_98 3 rfl ?_
            refine zr_aload_n C dX10_withRows_100 rfl 0 rfl ?_
            refine zr_gr C hf kg_X10_75 (fun _ _ _ => rfl) dX10_withRows_101 (fun w117 hf => ?_)
            refine zr_callVv (As := [.ref (zB E + w106), .ref (zB E + w117)]) (rest := []) C hf (fun x hx => c_X10_tryRow l E n h113 a0 w106 w117 x hx) kv_X10_225 rfl rfl (Nat.le_of_ble_eq_true rfl) ⟨rfl, rfl⟩ ⟨Nat.le_of_ble_eq_true rfl, Nat.le_of_ble_eq_true rfl⟩ ⟨Nat.le_of_ble_eq_true rfl, Nat.le_of_ble_eq_true rfl⟩ dX10_withRows_104 (fun _ h118 hf => ?_)
            refine zsub [0, 1, 2] rfl ?_
            exact J107 h118 j111 x86 hf
        · refine zr_ldc2 (v := 31) C zt863 dX10_withRows_49 ?_
          refine zr_lload_n C dX10_withRows_52 rfl 1 rfl ?_
          refine zr_lmul C hf dX10_withRows_53 (fun j119 hf => ?_)
          refine zr_aload C dX10_withRows_54 3 rfl ?_
          refine zr_gr C hf kg_X10_336 (fun _ _ _ => rfl) dX10_withRows_56 (fun w120 hf => ?_)
          refine zr_iload C dX10_withRows_59 4 rfl ?_
          refine zr_iaload C hf dX10_withRows_61 (fun x121 hf => ?_)
          refine zr_i2l C hf dX10_withRows_62 (fun j122 hf => ?_)
          refine zr_ladd C hf dX10_withRows_63 (fun j123 hf => ?_)
          refine zr_lstore_n (lo2 := [(3, .long j123), (0, .ref (zB E + a0)), (5, .int x86), (6, .ref (zB E + w106)), (7, .int x112)]) C dX10_withRows_64 rfl (by decide) rfl ?_
          refine zr_ldc2 (v := 31) C zt863 dX10_withRows_65 ?_
          refine zr_lload_n C dX10_withRows_68 rfl 0 rfl ?_
          refine zr_lmul C hf dX10_withRows_69 (fun j124 hf => ?_)
          refine zr_aload C dX10_withRows_70 3 rfl ?_
          refine zr_gr C hf kg_X10_339 (fun _ _ _ => rfl) dX10_withRows_72 (fun w125 hf => ?_)
          refine zr_iload C dX10_withRows_75 4 rfl ?_
          refine zr_iaload C hf dX10_withRows_77 (fun x126 hf => ?_)
          refine zr_i2l C hf dX10_withRows_78 (fun j127 hf => ?_)
          refine zr_ladd C hf dX10_withRows_79 (fun j128 hf => ?_)
          refine zr_lstore_n (lo2 := [(3, .long j128), (0, .ref (zB E + a0)), (5, .int x86), (6, .ref (zB E + w106)), (7, .int x112)]) C dX10_withRows_80 rfl (by decide) rfl ?_
          refine zr_iinc (v0 := 1) (k := 4) (f := fun v => [(7, .int v), (3, .long j128), (0, .ref (zB E + a0)), (5, .int x86), (6, .ref (zB E + w106))]) C hf (by decide) dX10_withRows_81 rfl (by decide) (fun v => rfl) (fun x129 hf => ?_)
          refine zr_goto (tgt := 39) C dX10_withRows_84 (by decide) ?_
          refine zsub [2, 1, 3, 4, 0] rfl ?_
          exact hk39 (h113, j128, x129) hf
      refine zsub [3, 1, 4, 2, 0] rfl ?_
      exact L39 n (h87, j110, (0 : Int32)) hf
  refine zsub [2, 1, 0] rfl ?_
  exact L5 n (h, p0, (0 : Int32)) hf
theorem dX10_withPictures_0 : decode cX10_withPictures 0 = .ok (.lload_n 1, 1) := by decide +kernel
theorem dX10_withPictures_1 : decode cX10_withPictures 1 = .ok (.lstore_n 3, 1) := by decide +kernel
theorem dX10_withPictures_2 : decode cX10_withPictures 2 = .ok (.iconst 0, 1) := by decide +kernel
theorem dX10_withPictures_3 : decode cX10_withPictures 3 = .ok (.istore 5, 2) := by decide +kernel
theorem dX10_withPictures_5 : decode cX10_withPictures 5 = .ok (.iload 5, 2) := by decide +kernel
theorem dX10_withPictures_7 : decode cX10_withPictures 7 = .ok (.aload_n 0, 1) := by decide +kernel
theorem dX10_withPictures_8 : decode cX10_withPictures 8 = .ok (.getfield 109, 3) := by decide +kernel
theorem dX10_withPictures_11 : decode cX10_withPictures 11 = .ok (.getfield 293, 3) := by decide +kernel
theorem dX10_withPictures_14 : decode cX10_withPictures 14 = .ok (.if_icmp .ge 45, 3) := by decide +kernel
theorem dX10_withPictures_17 : decode cX10_withPictures 17 = .ok (.ldc2_w 316, 3) := by decide +kernel
theorem dX10_withPictures_20 : decode cX10_withPictures 20 = .ok (.lload_n 3, 1) := by decide +kernel
theorem dX10_withPictures_21 : decode cX10_withPictures 21 = .ok (.lmul, 1) := by decide +kernel
theorem dX10_withPictures_22 : decode cX10_withPictures 22 = .ok (.aload_n 0, 1) := by decide +kernel
theorem dX10_withPictures_23 : decode cX10_withPictures 23 = .ok (.getfield 109, 3) := by decide +kernel
theorem dX10_withPictures_26 : decode cX10_withPictures 26 = .ok (.getfield 342, 3) := by decide +kernel
theorem dX10_withPictures_29 : decode cX10_withPictures 29 = .ok (.iload 5, 2) := by decide +kernel
theorem dX10_withPictures_31 : decode cX10_withPictures 31 = .ok (.iaload, 1) := by decide +kernel
theorem dX10_withPictures_32 : decode cX10_withPictures 32 = .ok (.i2l, 1) := by decide +kernel
theorem dX10_withPictures_33 : decode cX10_withPictures 33 = .ok (.ladd, 1) := by decide +kernel
theorem dX10_withPictures_34 : decode cX10_withPictures 34 = .ok (.lstore_n 3, 1) := by decide +kernel
theorem dX10_withPictures_35 : decode cX10_withPictures 35 = .ok (.ldc2_w 316, 3) := by decide +kernel
theorem dX10_withPictures_38 : decode cX10_withPictures 38 = .ok (.lload_n 3, 1) := by decide +kernel
theorem dX10_withPictures_39 : decode cX10_withPictures 39 = .ok (.lmul, 1) := by decide +kernel
theorem dX10_withPictures_40 : decode cX10_withPictures 40 = .ok (.aload_n 0, 1) := by decide +kernel
theorem dX10_withPictures_41 : decode cX10_withPictures 41 = .ok (.getfield 109, 3) := by decide +kernel
theorem dX10_withPictures_44 : decode cX10_withPictures 44 = .ok (.getfield 345, 3) := by decide +kernel
theorem dX10_withPictures_47 : decode cX10_withPictures 47 = .ok (.iload 5, 2) := by decide +kernel
theorem dX10_withPictures_49 : decode cX10_withPictures 49 = .ok (.iaload, 1) := by decide +kernel
theorem dX10_withPictures_50 : decode cX10_withPictures 50 = .ok (.i2l, 1) := by decide +kernel
theorem dX10_withPictures_51 : decode cX10_withPictures 51 = .ok (.ladd, 1) := by decide +kernel
theorem dX10_withPictures_52 : decode cX10_withPictures 52 = .ok (.lstore_n 3, 1) := by decide +kernel
theorem dX10_withPictures_53 : decode cX10_withPictures 53 = .ok (.iinc 5 1, 3) := by decide +kernel
theorem dX10_withPictures_56 : decode cX10_withPictures 56 = .ok (.goto (-51), 3) := by decide +kernel
theorem dX10_withPictures_59 : decode cX10_withPictures 59 = .ok (.lload_n 3, 1) := by decide +kernel
theorem dX10_withPictures_60 : decode cX10_withPictures 60 = .ok (.lreturn, 1) := by decide +kernel
set_option maxHeartbeats 4000000 in
set_option maxRecDepth 100000 in
theorem c_X10_withPictures (l : Launch) (E : zE) (n : Nat) (h : zH) (a0 : Nat) (p0 : Int64) (res : Int64 × zH) (hf : F_X10_withPictures n h a0 p0 = some res) : Met l yX10_withPictures (zw yX10_withPictures cX10_withPictures 6 (some .long)) ({ frames := 0, cells := 0, slots := 0, locals := 0 } : Room) (zPc E h [.ref (zB E + a0), .long p0]) (zQc E res.2 (some (.long res.1))) 0 0 (zfr E) := by
  refine zmet (lo := [(0, .ref (zB E + a0)), (1, .long p0)]) (by decide +kernel) (Nat.le_of_ble_eq_true rfl) rfl ?_
  intro p e s m args below meth c C hr hin
  unfold F_X10_withPictures at hf
  refine zr_lload_n C dX10_withPictures_0 rfl 1 rfl ?_
  refine zr_lstore_n (lo2 := [(3, .long p0), (0, .ref (zB E + a0)), (1, .long p0)]) C dX10_withPictures_1 rfl (by decide) rfl ?_
  refine zr_iconst (v := 0) C dX10_withPictures_2 (by decide) ?_
  refine zr_istore (lo2 := [(5, .int (0 : Int32)), (3, .long p0), (0, .ref (zB E + a0)), (1, .long p0)]) C dX10_withPictures_3 (by decide) rfl ?_
  have L5 : ∀ (fu : Nat) (x : zH × Int64 × Int32), zloop (fun kc x => F_X10_withPictures_B5 n kc x.1 a0 x.2.1 x.2.2) fu x = some res → zW p l e (headSpec (zw yX10_withPictures cX10_withPictures 6 (some .long)) ({ frames := 0, cells := 0, slots := 0, locals := 0 } : Room)).room s m args below meth c E 6 (MQ below (zQc E res.2 (some (.long res.1))) args s 0 0 (zfr E)) 0 0 5 [(0, .ref (zB E + a0)), (3, .long x.2.1), (5, .int x.2.2)] [] x.1 := by
    refine z_loop _ ?_
    intro kc5 hk5 x hf
    obtain ⟨h22, j20, x21⟩ := x
    dsimp only at hf ⊢
    unfold F_X10_withPictures_B5 at hf
    refine zr_iload C dX10_withPictures_5 2 rfl ?_
    refine zr_aload_n C dX10_withPictures_7 rfl 0 rfl ?_
    refine zr_gr C hf kg_X10_109 (fun _ _ _ => rfl) dX10_withPictures_8 (fun w23 hf => ?_)
    refine zr_gi C hf kg_X10_293 (fun _ _ _ => rfl) dX10_withPictures_11 (fun x24 hf => ?_)
    refine zr_icmp_ge (tgt := 59) C hf dX10_withPictures_14 (by decide) (fun hf => ?_) (fun hf => ?_)
    · refine zr_lload_n C dX10_withPictures_59 rfl 1 rfl ?_
      exact zr_lreturn C hf hr (Nat.le_of_ble_eq_true rfl) (Nat.le_of_ble_eq_true rfl) dX10_withPictures_60
    · refine zr_ldc2 (v := 31) C zt863 dX10_withPictures_17 ?_
      refine zr_lload_n C dX10_withPictures_20 rfl 1 rfl ?_
      refine zr_lmul C hf dX10_withPictures_21 (fun j25 hf => ?_)
      refine zr_aload_n C dX10_withPictures_22 rfl 0 rfl ?_
      refine zr_gr C hf kg_X10_109 (fun _ _ _ => rfl) dX10_withPictures_23 (fun w26 hf => ?_)
      refine zr_gr C hf kg_X10_342 (fun _ _ _ => rfl) dX10_withPictures_26 (fun w27 hf => ?_)
      refine zr_iload C dX10_withPictures_29 2 rfl ?_
      refine zr_iaload C hf dX10_withPictures_31 (fun x28 hf => ?_)
      refine zr_i2l C hf dX10_withPictures_32 (fun j29 hf => ?_)
      refine zr_ladd C hf dX10_withPictures_33 (fun j30 hf => ?_)
      refine zr_lstore_n (lo2 := [(3, .long j30), (0, .ref (zB E + a0)), (5, .int x21)]) C dX10_withPictures_34 rfl (by decide) rfl ?_
      refine zr_ldc2 (v := 31) C zt863 dX10_withPictures_35 ?_
      refine zr_lload_n C dX10_withPictures_38 rfl 0 rfl ?_
      refine zr_lmul C hf dX10_withPictures_39 (fun j31 hf => ?_)
      refine zr_aload_n C dX10_withPictures_40 rfl 1 rfl ?_
      refine zr_gr C hf kg_X10_109 (fun _ _ _ => rfl) dX10_withPictures_41 (fun w32 hf => ?_)
      refine zr_gr C hf kg_X10_345 (fun _ _ _ => rfl) dX10_withPictures_44 (fun w33 hf => ?_)
      refine zr_iload C dX10_withPictures_47 2 rfl ?_
      refine zr_iaload C hf dX10_withPictures_49 (fun x34 hf => ?_)
      refine zr_i2l C hf dX10_withPictures_50 (fun j35 hf => ?_)
      refine zr_ladd C hf dX10_withPictures_51 (fun j36 hf => ?_)
      refine zr_lstore_n (lo2 := [(3, .long j36), (0, .ref (zB E + a0)), (5, .int x21)]) C dX10_withPictures_52 rfl (by decide) rfl ?_
      refine zr_iinc (v0 := 1) (k := 2) (f := fun v => [(5, .int v), (3, .long j36), (0, .ref (zB E + a0))]) C hf (by decide) dX10_withPictures_53 rfl (by decide) (fun v => rfl) (fun x37 hf => ?_)
      refine zr_goto (tgt := 5) C dX10_withPictures_56 (by decide) ?_
      refine zsub [2, 1, 0] rfl ?_
      exact hk5 (h22, j36, x37) hf
  refine zsub [2, 1, 0] rfl ?_
  exact L5 n (h, p0, (0 : Int32)) hf
theorem dX10_withRiver_0 : decode cX10_withRiver 0 = .ok (.lload_n 1, 1) := by decide +kernel
theorem dX10_withRiver_1 : decode cX10_withRiver 1 = .ok (.lstore_n 3, 1) := by decide +kernel
theorem dX10_withRiver_2 : decode cX10_withRiver 2 = .ok (.iconst 0, 1) := by decide +kernel
theorem dX10_withRiver_3 : decode cX10_withRiver 3 = .ok (.istore 5, 2) := by decide +kernel
theorem dX10_withRiver_5 : decode cX10_withRiver 5 = .ok (.iload 5, 2) := by decide +kernel
theorem dX10_withRiver_7 : decode cX10_withRiver 7 = .ok (.aload_n 0, 1) := by decide +kernel
theorem dX10_withRiver_8 : decode cX10_withRiver 8 = .ok (.getfield 49, 3) := by decide +kernel
theorem dX10_withRiver_11 : decode cX10_withRiver 11 = .ok (.getfield 141, 3) := by decide +kernel
theorem dX10_withRiver_14 : decode cX10_withRiver 14 = .ok (.if_icmp .ge 53, 3) := by decide +kernel
theorem dX10_withRiver_17 : decode cX10_withRiver 17 = .ok (.ldc2_w 316, 3) := by decide +kernel
theorem dX10_withRiver_20 : decode cX10_withRiver 20 = .ok (.lload_n 3, 1) := by decide +kernel
theorem dX10_withRiver_21 : decode cX10_withRiver 21 = .ok (.lmul, 1) := by decide +kernel
theorem dX10_withRiver_22 : decode cX10_withRiver 22 = .ok (.aload_n 0, 1) := by decide +kernel
theorem dX10_withRiver_23 : decode cX10_withRiver 23 = .ok (.getfield 49, 3) := by decide +kernel
theorem dX10_withRiver_26 : decode cX10_withRiver 26 = .ok (.getfield 348, 3) := by decide +kernel
theorem dX10_withRiver_29 : decode cX10_withRiver 29 = .ok (.iload 5, 2) := by decide +kernel
theorem dX10_withRiver_31 : decode cX10_withRiver 31 = .ok (.iaload, 1) := by decide +kernel
theorem dX10_withRiver_32 : decode cX10_withRiver 32 = .ok (.i2l, 1) := by decide +kernel
theorem dX10_withRiver_33 : decode cX10_withRiver 33 = .ok (.ladd, 1) := by decide +kernel
theorem dX10_withRiver_34 : decode cX10_withRiver 34 = .ok (.lstore_n 3, 1) := by decide +kernel
theorem dX10_withRiver_35 : decode cX10_withRiver 35 = .ok (.ldc2_w 316, 3) := by decide +kernel
theorem dX10_withRiver_38 : decode cX10_withRiver 38 = .ok (.lload_n 3, 1) := by decide +kernel
theorem dX10_withRiver_39 : decode cX10_withRiver 39 = .ok (.lmul, 1) := by decide +kernel
theorem dX10_withRiver_40 : decode cX10_withRiver 40 = .ok (.aload_n 0, 1) := by decide +kernel
theorem dX10_withRiver_41 : decode cX10_withRiver 41 = .ok (.getfield 49, 3) := by decide +kernel
theorem dX10_withRiver_44 : decode cX10_withRiver 44 = .ok (.getfield 349, 3) := by decide +kernel
theorem dX10_withRiver_47 : decode cX10_withRiver 47 = .ok (.iload 5, 2) := by decide +kernel
theorem dX10_withRiver_49 : decode cX10_withRiver 49 = .ok (.baload, 1) := by decide +kernel
theorem dX10_withRiver_50 : decode cX10_withRiver 50 = .ok (.ifCond .eq 7, 3) := by decide +kernel
theorem dX10_withRiver_53 : decode cX10_withRiver 53 = .ok (.iconst 1, 1) := by decide +kernel
theorem dX10_withRiver_54 : decode cX10_withRiver 54 = .ok (.goto 4, 3) := by decide +kernel
theorem dX10_withRiver_57 : decode cX10_withRiver 57 = .ok (.iconst 0, 1) := by decide +kernel
theorem dX10_withRiver_58 : decode cX10_withRiver 58 = .ok (.i2l, 1) := by decide +kernel
theorem dX10_withRiver_59 : decode cX10_withRiver 59 = .ok (.ladd, 1) := by decide +kernel
theorem dX10_withRiver_60 : decode cX10_withRiver 60 = .ok (.lstore_n 3, 1) := by decide +kernel
theorem dX10_withRiver_61 : decode cX10_withRiver 61 = .ok (.iinc 5 1, 3) := by decide +kernel
theorem dX10_withRiver_64 : decode cX10_withRiver 64 = .ok (.goto (-59), 3) := by decide +kernel
theorem dX10_withRiver_67 : decode cX10_withRiver 67 = .ok (.lload_n 3, 1) := by decide +kernel
theorem dX10_withRiver_68 : decode cX10_withRiver 68 = .ok (.lreturn, 1) := by decide +kernel
set_option maxHeartbeats 4000000 in
set_option maxRecDepth 100000 in
theorem c_X10_withRiver (l : Launch) (E : zE) (n : Nat) (h : zH) (a0 : Nat) (p0 : Int64) (res : Int64 × zH) (hf : F_X10_withRiver n h a0 p0 = some res) : Met l yX10_withRiver (zw yX10_withRiver cX10_withRiver 6 (some .long)) ({ frames := 0, cells := 0, slots := 0, locals := 0 } : Room) (zPc E h [.ref (zB E + a0), .long p0]) (zQc E res.2 (some (.long res.1))) 0 0 (zfr E) := by
  refine zmet (lo := [(0, .ref (zB E + a0)), (1, .long p0)]) (by decide +kernel) (Nat.le_of_ble_eq_true rfl) rfl ?_
  intro p e s m args below meth c C hr hin
  unfold F_X10_withRiver at hf
  refine zr_lload_n C dX10_withRiver_0 rfl 1 rfl ?_
  refine zr_lstore_n (lo2 := [(3, .long p0), (0, .ref (zB E + a0)), (1, .long p0)]) C dX10_withRiver_1 rfl (by decide) rfl ?_
  refine zr_iconst (v := 0) C dX10_withRiver_2 (by decide) ?_
  refine zr_istore (lo2 := [(5, .int (0 : Int32)), (3, .long p0), (0, .ref (zB E + a0)), (1, .long p0)]) C dX10_withRiver_3 (by decide) rfl ?_
  have L5 : ∀ (fu : Nat) (x : zH × Int64 × Int32), zloop (fun kc x => F_X10_withRiver_B5 n kc x.1 a0 x.2.1 x.2.2) fu x = some res → zW p l e (headSpec (zw yX10_withRiver cX10_withRiver 6 (some .long)) ({ frames := 0, cells := 0, slots := 0, locals := 0 } : Room)).room s m args below meth c E 6 (MQ below (zQc E res.2 (some (.long res.1))) args s 0 0 (zfr E)) 0 0 5 [(0, .ref (zB E + a0)), (3, .long x.2.1), (5, .int x.2.2)] [] x.1 := by
    refine z_loop _ ?_
    intro kc5 hk5 x hf
    obtain ⟨h27, j25, x26⟩ := x
    dsimp only at hf ⊢
    unfold F_X10_withRiver_B5 at hf
    have J58 : ∀ (h31 : zH) (x28 : Int32) (j29 : Int64) (x30 : Int32), F_X10_withRiver_J58 n kc5 h31 a0 x28 j29 x30 = some res → zW p l e (headSpec (zw yX10_withRiver cX10_withRiver 6 (some .long)) ({ frames := 0, cells := 0, slots := 0, locals := 0 } : Room)).room s m args below meth c E 6 (MQ below (zQc E res.2 (some (.long res.1))) args s 0 0 (zfr E)) 0 0 58 [(0, .ref (zB E + a0)), (5, .int x28)] [.int x30, .long j29] h31 := by
      intro h31 x28 j29 x30 hf
      unfold F_X10_withRiver_J58 at hf
      refine zr_i2l C hf dX10_withRiver_58 (fun j32 hf => ?_)
      refine zr_ladd C hf dX10_withRiver_59 (fun j33 hf => ?_)
      refine zr_lstore_n (lo2 := [(3, .long j33), (0, .ref (zB E + a0)), (5, .int x28)]) C dX10_withRiver_60 rfl (by decide) rfl ?_
      refine zr_iinc (v0 := 1) (k := 2) (f := fun v => [(5, .int v), (3, .long j33), (0, .ref (zB E + a0))]) C hf (by decide) dX10_withRiver_61 rfl (by decide) (fun v => rfl) (fun x34 hf => ?_)
      refine zr_goto (tgt := 5) C dX10_withRiver_64 (by decide) ?_
      refine zsub [2, 1, 0] rfl ?_
      exact hk5 (h31, j33, x34) hf
    refine zr_iload C dX10_withRiver_5 2 rfl ?_
    refine zr_aload_n C dX10_withRiver_7 rfl 0 rfl ?_
    refine zr_gr C hf kg_X10_49 (fun _ _ _ => rfl) dX10_withRiver_8 (fun w35 hf => ?_)
    refine zr_gi C hf kg_X10_141 (fun _ _ _ => rfl) dX10_withRiver_11 (fun x36 hf => ?_)
    refine zr_icmp_ge (tgt := 67) C hf dX10_withRiver_14 (by decide) (fun hf => ?_) (fun hf => ?_)
    · refine zr_lload_n C dX10_withRiver_67 rfl 1 rfl ?_
      exact zr_lreturn C hf hr (Nat.le_of_ble_eq_true rfl) (Nat.le_of_ble_eq_true rfl) dX10_withRiver_68
    · refine zr_ldc2 (v := 31) C zt863 dX10_withRiver_17 ?_
      refine zr_lload_n C dX10_withRiver_20 rfl 1 rfl ?_
      refine zr_lmul C hf dX10_withRiver_21 (fun j37 hf => ?_)
      refine zr_aload_n C dX10_withRiver_22 rfl 0 rfl ?_
      refine zr_gr C hf kg_X10_49 (fun _ _ _ => rfl) dX10_withRiver_23 (fun w38 hf => ?_)
      refine zr_gr C hf kg_X10_348 (fun _ _ _ => rfl) dX10_withRiver_26 (fun w39 hf => ?_)
      refine zr_iload C dX10_withRiver_29 2 rfl ?_
      refine zr_iaload C hf dX10_withRiver_31 (fun x40 hf => ?_)
      refine zr_i2l C hf dX10_withRiver_32 (fun j41 hf => ?_)
      refine zr_ladd C hf dX10_withRiver_33 (fun j42 hf => ?_)
      refine zr_lstore_n (lo2 := [(3, .long j42), (0, .ref (zB E + a0)), (5, .int x26)]) C dX10_withRiver_34 rfl (by decide) rfl ?_
      refine zr_ldc2 (v := 31) C zt863 dX10_withRiver_35 ?_
      refine zr_lload_n C dX10_withRiver_38 rfl 0 rfl ?_
      refine zr_lmul C hf dX10_withRiver_39 (fun j43 hf => ?_)
      refine zr_aload_n C dX10_withRiver_40 rfl 1 rfl ?_
      refine zr_gr C hf kg_X10_49 (fun _ _ _ => rfl) dX10_withRiver_41 (fun w44 hf => ?_)
      refine zr_gr C hf kg_X10_349 (fun _ _ _ => rfl) dX10_withRiver_44 (fun w45 hf => ?_)
      refine zr_iload C dX10_withRiver_47 2 rfl ?_
      refine zr_zaload C hf dX10_withRiver_49 (fun x46 hf => ?_)
      refine zr_if_eq (tgt := 57) C hf dX10_withRiver_50 (by decide) (fun hf => ?_) (fun hf => ?_)
      · refine zr_iconst (v := 0) C dX10_withRiver_57 (by decide) ?_
        refine zsub [1, 2] rfl ?_
        exact J58 h27 x26 j43 (0 : Int32) hf
      · refine zr_iconst (v := 1) C dX10_withRiver_53 (by decide) ?_
        refine zr_goto (tgt := 58) C dX10_withRiver_54 (by decide) ?_
        refine zsub [1, 2] rfl ?_
        exact J58 h27 x26 j43 (1 : Int32) hf
  refine zsub [2, 1, 0] rfl ?_
  exact L5 n (h, p0, (0 : Int32)) hf
theorem dX10_digest_0 : decode cX10_digest 0 = .ok (.ldc2_w 295, 3) := by decide +kernel
theorem dX10_digest_3 : decode cX10_digest 3 = .ok (.lstore_n 1, 1) := by decide +kernel
theorem dX10_digest_4 : decode cX10_digest 4 = .ok (.aload_n 0, 1) := by decide +kernel
theorem dX10_digest_5 : decode cX10_digest 5 = .ok (.lload_n 1, 1) := by decide +kernel
theorem dX10_digest_6 : decode cX10_digest 6 = .ok (.invokevirtual 297, 3) := by decide +kernel
theorem dX10_digest_9 : decode cX10_digest 9 = .ok (.lstore_n 1, 1) := by decide +kernel
theorem dX10_digest_10 : decode cX10_digest 10 = .ok (.aload_n 0, 1) := by decide +kernel
theorem dX10_digest_11 : decode cX10_digest 11 = .ok (.lload_n 1, 1) := by decide +kernel
theorem dX10_digest_12 : decode cX10_digest 12 = .ok (.invokevirtual 301, 3) := by decide +kernel
theorem dX10_digest_15 : decode cX10_digest 15 = .ok (.lstore_n 1, 1) := by decide +kernel
theorem dX10_digest_16 : decode cX10_digest 16 = .ok (.aload_n 0, 1) := by decide +kernel
theorem dX10_digest_17 : decode cX10_digest 17 = .ok (.lload_n 1, 1) := by decide +kernel
theorem dX10_digest_18 : decode cX10_digest 18 = .ok (.invokevirtual 304, 3) := by decide +kernel
theorem dX10_digest_21 : decode cX10_digest 21 = .ok (.lstore_n 1, 1) := by decide +kernel
theorem dX10_digest_22 : decode cX10_digest 22 = .ok (.aload_n 0, 1) := by decide +kernel
theorem dX10_digest_23 : decode cX10_digest 23 = .ok (.lload_n 1, 1) := by decide +kernel
theorem dX10_digest_24 : decode cX10_digest 24 = .ok (.invokevirtual 307, 3) := by decide +kernel
theorem dX10_digest_27 : decode cX10_digest 27 = .ok (.lstore_n 1, 1) := by decide +kernel
theorem dX10_digest_28 : decode cX10_digest 28 = .ok (.aload_n 0, 1) := by decide +kernel
theorem dX10_digest_29 : decode cX10_digest 29 = .ok (.lload_n 1, 1) := by decide +kernel
theorem dX10_digest_30 : decode cX10_digest 30 = .ok (.invokevirtual 310, 3) := by decide +kernel
theorem dX10_digest_33 : decode cX10_digest 33 = .ok (.lstore_n 1, 1) := by decide +kernel
theorem dX10_digest_34 : decode cX10_digest 34 = .ok (.aload_n 0, 1) := by decide +kernel
theorem dX10_digest_35 : decode cX10_digest 35 = .ok (.lload_n 1, 1) := by decide +kernel
theorem dX10_digest_36 : decode cX10_digest 36 = .ok (.invokevirtual 313, 3) := by decide +kernel
theorem dX10_digest_39 : decode cX10_digest 39 = .ok (.lstore_n 1, 1) := by decide +kernel
theorem dX10_digest_40 : decode cX10_digest 40 = .ok (.iconst 0, 1) := by decide +kernel
theorem dX10_digest_41 : decode cX10_digest 41 = .ok (.istore_n 3, 1) := by decide +kernel
theorem dX10_digest_42 : decode cX10_digest 42 = .ok (.iload_n 3, 1) := by decide +kernel
theorem dX10_digest_43 : decode cX10_digest 43 = .ok (.aload_n 0, 1) := by decide +kernel
theorem dX10_digest_44 : decode cX10_digest 44 = .ok (.getfield 10, 3) := by decide +kernel
theorem dX10_digest_47 : decode cX10_digest 47 = .ok (.getfield 294, 3) := by decide +kernel
theorem dX10_digest_50 : decode cX10_digest 50 = .ok (.if_icmp .ge 26, 3) := by decide +kernel
theorem dX10_digest_53 : decode cX10_digest 53 = .ok (.ldc2_w 316, 3) := by decide +kernel
theorem dX10_digest_56 : decode cX10_digest 56 = .ok (.lload_n 1, 1) := by decide +kernel
theorem dX10_digest_57 : decode cX10_digest 57 = .ok (.lmul, 1) := by decide +kernel
theorem dX10_digest_58 : decode cX10_digest 58 = .ok (.aload_n 0, 1) := by decide +kernel
theorem dX10_digest_59 : decode cX10_digest 59 = .ok (.getfield 10, 3) := by decide +kernel
theorem dX10_digest_62 : decode cX10_digest 62 = .ok (.getfield 318, 3) := by decide +kernel
theorem dX10_digest_65 : decode cX10_digest 65 = .ok (.iload_n 3, 1) := by decide +kernel
theorem dX10_digest_66 : decode cX10_digest 66 = .ok (.iaload, 1) := by decide +kernel
theorem dX10_digest_67 : decode cX10_digest 67 = .ok (.i2l, 1) := by decide +kernel
theorem dX10_digest_68 : decode cX10_digest 68 = .ok (.ladd, 1) := by decide +kernel
theorem dX10_digest_69 : decode cX10_digest 69 = .ok (.lstore_n 1, 1) := by decide +kernel
theorem dX10_digest_70 : decode cX10_digest 70 = .ok (.iinc 3 1, 3) := by decide +kernel
theorem dX10_digest_73 : decode cX10_digest 73 = .ok (.goto (-31), 3) := by decide +kernel
theorem dX10_digest_76 : decode cX10_digest 76 = .ok (.iconst 0, 1) := by decide +kernel
theorem dX10_digest_77 : decode cX10_digest 77 = .ok (.istore_n 3, 1) := by decide +kernel
theorem dX10_digest_78 : decode cX10_digest 78 = .ok (.iload_n 3, 1) := by decide +kernel
theorem dX10_digest_79 : decode cX10_digest 79 = .ok (.bipush 8, 2) := by decide +kernel
theorem dX10_digest_81 : decode cX10_digest 81 = .ok (.if_icmp .gt 22, 3) := by decide +kernel
theorem dX10_digest_84 : decode cX10_digest 84 = .ok (.ldc2_w 316, 3) := by decide +kernel
theorem dX10_digest_87 : decode cX10_digest 87 = .ok (.lload_n 1, 1) := by decide +kernel
theorem dX10_digest_88 : decode cX10_digest 88 = .ok (.lmul, 1) := by decide +kernel
theorem dX10_digest_89 : decode cX10_digest 89 = .ok (.aload_n 0, 1) := by decide +kernel
theorem dX10_digest_90 : decode cX10_digest 90 = .ok (.iload_n 3, 1) := by decide +kernel
theorem dX10_digest_91 : decode cX10_digest 91 = .ok (.invokevirtual 321, 3) := by decide +kernel
theorem dX10_digest_94 : decode cX10_digest 94 = .ok (.i2l, 1) := by decide +kernel
theorem dX10_digest_95 : decode cX10_digest 95 = .ok (.ladd, 1) := by decide +kernel
theorem dX10_digest_96 : decode cX10_digest 96 = .ok (.lstore_n 1, 1) := by decide +kernel
theorem dX10_digest_97 : decode cX10_digest 97 = .ok (.iinc 3 1, 3) := by decide +kernel
theorem dX10_digest_100 : decode cX10_digest 100 = .ok (.goto (-22), 3) := by decide +kernel
theorem dX10_digest_103 : decode cX10_digest 103 = .ok (.lload_n 1, 1) := by decide +kernel
theorem dX10_digest_104 : decode cX10_digest 104 = .ok (.lreturn, 1) := by decide +kernel
set_option maxHeartbeats 4000000 in
set_option maxRecDepth 100000 in
theorem c_X10_digest (l : Launch) (E : zE) (n : Nat) (h : zH) (a0 : Nat) (res : Int64 × zH) (hf : F_X10_digest n h a0 = some res) : Met l yX10_digest (zw yX10_digest cX10_digest 4 (some .long)) ({ frames := 6, cells := 0, slots := 0, locals := 149 } : Room) (zPc E h [.ref (zB E + a0)]) (zQc E res.2 (some (.long res.1))) 0 0 (zfr E) := by
  refine zmet (lo := [(0, .ref (zB E + a0))]) (by decide +kernel) (Nat.le_of_ble_eq_true rfl) rfl ?_
  intro p e s m args below meth c C hr hin
  unfold F_X10_digest at hf
  refine zr_ldc2 (v := 443) C zt858 dX10_digest_0 ?_
  refine zr_lstore_n (lo2 := [(1, .long (443 : Int64)), (0, .ref (zB E + a0))]) C dX10_digest_3 rfl (by decide) rfl ?_
  refine zr_aload_n C dX10_digest_4 rfl 1 rfl ?_
  refine zr_lload_n C dX10_digest_5 rfl 0 rfl ?_
  refine zr_callVl (As := [.long (443 : Int64)]) (rest := []) C hf (fun x hx => c_X10_withCup l E n h a0 (443 : Int64) x hx) kv_X10_297 rfl rfl (Nat.le_of_ble_eq_true rfl) ⟨rfl, rfl⟩ ⟨Nat.le_of_ble_eq_true rfl, Nat.le_of_ble_eq_true rfl⟩ ⟨Nat.le_of_ble_eq_true rfl, Nat.le_of_ble_eq_true rfl⟩ dX10_digest_6 (fun j2 h1 hf => ?_)
  refine zr_lstore_n (lo2 := [(1, .long j2), (0, .ref (zB E + a0))]) C dX10_digest_9 rfl (by decide) rfl ?_
  refine zr_aload_n C dX10_digest_10 rfl 1 rfl ?_
  refine zr_lload_n C dX10_digest_11 rfl 0 rfl ?_
  refine zr_callVl (As := [.long j2]) (rest := []) C hf (fun x hx => c_X10_withDoings l E n h1 a0 j2 x hx) kv_X10_301 rfl rfl (Nat.le_of_ble_eq_true rfl) ⟨rfl, rfl⟩ ⟨Nat.le_of_ble_eq_true rfl, Nat.le_of_ble_eq_true rfl⟩ ⟨Nat.le_of_ble_eq_true rfl, Nat.le_of_ble_eq_true rfl⟩ dX10_digest_12 (fun j4 h3 hf => ?_)
  refine zr_lstore_n (lo2 := [(1, .long j4), (0, .ref (zB E + a0))]) C dX10_digest_15 rfl (by decide) rfl ?_
  refine zr_aload_n C dX10_digest_16 rfl 1 rfl ?_
  refine zr_lload_n C dX10_digest_17 rfl 0 rfl ?_
  refine zr_callVl (As := [.long j4]) (rest := []) C hf (fun x hx => c_X10_withLeaves l E n h3 a0 j4 x hx) kv_X10_304 rfl rfl (Nat.le_of_ble_eq_true rfl) ⟨rfl, rfl⟩ ⟨Nat.le_of_ble_eq_true rfl, Nat.le_of_ble_eq_true rfl⟩ ⟨Nat.le_of_ble_eq_true rfl, Nat.le_of_ble_eq_true rfl⟩ dX10_digest_18 (fun j6 h5 hf => ?_)
  refine zr_lstore_n (lo2 := [(1, .long j6), (0, .ref (zB E + a0))]) C dX10_digest_21 rfl (by decide) rfl ?_
  refine zr_aload_n C dX10_digest_22 rfl 1 rfl ?_
  refine zr_lload_n C dX10_digest_23 rfl 0 rfl ?_
  refine zr_callVl (As := [.long j6]) (rest := []) C hf (fun x hx => c_X10_withRows l E n h5 a0 j6 x hx) kv_X10_307 rfl rfl (Nat.le_of_ble_eq_true rfl) ⟨rfl, rfl⟩ ⟨Nat.le_of_ble_eq_true rfl, Nat.le_of_ble_eq_true rfl⟩ ⟨Nat.le_of_ble_eq_true rfl, Nat.le_of_ble_eq_true rfl⟩ dX10_digest_24 (fun j8 h7 hf => ?_)
  refine zr_lstore_n (lo2 := [(1, .long j8), (0, .ref (zB E + a0))]) C dX10_digest_27 rfl (by decide) rfl ?_
  refine zr_aload_n C dX10_digest_28 rfl 1 rfl ?_
  refine zr_lload_n C dX10_digest_29 rfl 0 rfl ?_
  refine zr_callVl (As := [.long j8]) (rest := []) C hf (fun x hx => c_X10_withPictures l E n h7 a0 j8 x hx) kv_X10_310 rfl rfl (Nat.le_of_ble_eq_true rfl) ⟨rfl, rfl⟩ ⟨Nat.le_of_ble_eq_true rfl, Nat.le_of_ble_eq_true rfl⟩ ⟨Nat.le_of_ble_eq_true rfl, Nat.le_of_ble_eq_true rfl⟩ dX10_digest_30 (fun j10 h9 hf => ?_)
  refine zr_lstore_n (lo2 := [(1, .long j10), (0, .ref (zB E + a0))]) C dX10_digest_33 rfl (by decide) rfl ?_
  refine zr_aload_n C dX10_digest_34 rfl 1 rfl ?_
  refine zr_lload_n C dX10_digest_35 rfl 0 rfl ?_
  refine zr_callVl (As := [.long j10]) (rest := []) C hf (fun x hx => c_X10_withRiver l E n h9 a0 j10 x hx) kv_X10_313 rfl rfl (Nat.le_of_ble_eq_true rfl) ⟨rfl, rfl⟩ ⟨Nat.le_of_ble_eq_true rfl, Nat.le_of_ble_eq_true rfl⟩ ⟨Nat.le_of_ble_eq_true rfl, Nat.le_of_ble_eq_true rfl⟩ dX10_digest_36 (fun j12 h11 hf => ?_)
  refine zr_lstore_n (lo2 := [(1, .long j12), (0, .ref (zB E + a0))]) C dX10_digest_39 rfl (by decide) rfl ?_
  refine zr_iconst (v := 0) C dX10_digest_40 (by decide) ?_
  refine zr_istore_n (lo2 := [(3, .int (0 : Int32)), (1, .long j12), (0, .ref (zB E + a0))]) C dX10_digest_41 rfl (by decide) rfl ?_
  have L42 : ∀ (fu : Nat) (x : zH × Int64 × Int32), zloop (fun kc x => F_X10_digest_B42 n kc x.1 a0 x.2.1 x.2.2) fu x = some res → zW p l e (headSpec (zw yX10_digest cX10_digest 4 (some .long)) ({ frames := 6, cells := 0, slots := 0, locals := 149 } : Room)).room s m args below meth c E 4 (MQ below (zQc E res.2 (some (.long res.1))) args s 0 0 (zfr E)) 0 0 42 [(0, .ref (zB E + a0)), (1, .long x.2.1), (3, .int x.2.2)] [] x.1 := by
    refine z_loop _ ?_
    intro kc42 hk42 x hf
    obtain ⟨h47, j45, x46⟩ := x
    dsimp only at hf ⊢
    unfold F_X10_digest_B42 at hf
    refine zr_iload_n C dX10_digest_42 rfl 2 rfl ?_
    refine zr_aload_n C dX10_digest_43 rfl 0 rfl ?_
    refine zr_gr C hf kg_X10_10 (fun _ _ _ => rfl) dX10_digest_44 (fun w48 hf => ?_)
    refine zr_gi C hf kg_X10_294 (fun _ _ _ => rfl) dX10_digest_47 (fun x49 hf => ?_)
    refine zr_icmp_ge (tgt := 76) C hf dX10_digest_50 (by decide) (fun hf => ?_) (fun hf => ?_)
    · refine zr_iconst (v := 0) C dX10_digest_76 (by decide) ?_
      refine zr_istore_n (lo2 := [(3, .int (0 : Int32)), (0, .ref (zB E + a0)), (1, .long j45)]) C dX10_digest_77 rfl (by decide) rfl ?_
      have L78 : ∀ (fu : Nat) (x : zH × Int64 × Int32), zloop (fun kc x => F_X10_digest_B78 n kc x.1 a0 x.2.1 x.2.2) fu x = some res → zW p l e (headSpec (zw yX10_digest cX10_digest 4 (some .long)) ({ frames := 6, cells := 0, slots := 0, locals := 149 } : Room)).room s m args below meth c E 4 (MQ below (zQc E res.2 (some (.long res.1))) args s 0 0 (zfr E)) 0 0 78 [(0, .ref (zB E + a0)), (1, .long x.2.1), (3, .int x.2.2)] [] x.1 := by
        refine z_loop _ ?_
        intro kc78 hk78 x hf
        obtain ⟨h52, j50, x51⟩ := x
        dsimp only at hf ⊢
        unfold F_X10_digest_B78 at hf
        refine zr_iload_n C dX10_digest_78 rfl 2 rfl ?_
        refine zr_bipush (v := 8) C dX10_digest_79 (by decide) ?_
        refine zr_icmp_gt (tgt := 103) C hf dX10_digest_81 (by decide) (fun hf => ?_) (fun hf => ?_)
        · refine zr_lload_n C dX10_digest_103 rfl 1 rfl ?_
          exact zr_lreturn C hf hr (Nat.le_of_ble_eq_true rfl) (Nat.le_of_ble_eq_true rfl) dX10_digest_104
        · refine zr_ldc2 (v := 31) C zt863 dX10_digest_84 ?_
          refine zr_lload_n C dX10_digest_87 rfl 1 rfl ?_
          refine zr_lmul C hf dX10_digest_88 (fun j53 hf => ?_)
          refine zr_aload_n C dX10_digest_89 rfl 0 rfl ?_
          refine zr_iload_n C dX10_digest_90 rfl 2 rfl ?_
          refine zr_callVi (As := [.int x51]) (rest := [.long j53]) C hf (fun x hx => c_X10_count l E n h52 a0 x51 x hx) kv_X10_321 rfl rfl (Nat.le_of_ble_eq_true rfl) ⟨rfl, rfl⟩ ⟨Nat.le_of_ble_eq_true rfl, Nat.le_of_ble_eq_true rfl⟩ ⟨Nat.le_of_ble_eq_true rfl, Nat.le_of_ble_eq_true rfl⟩ dX10_digest_91 (fun x55 h54 hf => ?_)
          refine zr_i2l C hf dX10_digest_94 (fun j56 hf => ?_)
          refine zr_ladd C hf dX10_digest_95 (fun j57 hf => ?_)
          refine zr_lstore_n (lo2 := [(1, .long j57), (0, .ref (zB E + a0)), (3, .int x51)]) C dX10_digest_96 rfl (by decide) rfl ?_
          refine zr_iinc (v0 := 1) (k := 2) (f := fun v => [(3, .int v), (1, .long j57), (0, .ref (zB E + a0))]) C hf (by decide) dX10_digest_97 rfl (by decide) (fun v => rfl) (fun x58 hf => ?_)
          refine zr_goto (tgt := 78) C dX10_digest_100 (by decide) ?_
          refine zsub [2, 1, 0] rfl ?_
          exact hk78 (h54, j57, x58) hf
      refine zsub [1, 2, 0] rfl ?_
      exact L78 n (h47, j45, (0 : Int32)) hf
    · refine zr_ldc2 (v := 31) C zt863 dX10_digest_53 ?_
      refine zr_lload_n C dX10_digest_56 rfl 1 rfl ?_
      refine zr_lmul C hf dX10_digest_57 (fun j59 hf => ?_)
      refine zr_aload_n C dX10_digest_58 rfl 0 rfl ?_
      refine zr_gr C hf kg_X10_10 (fun _ _ _ => rfl) dX10_digest_59 (fun w60 hf => ?_)
      refine zr_gr C hf kg_X10_318 (fun _ _ _ => rfl) dX10_digest_62 (fun w61 hf => ?_)
      refine zr_iload_n C dX10_digest_65 rfl 2 rfl ?_
      refine zr_iaload C hf dX10_digest_66 (fun x62 hf => ?_)
      refine zr_i2l C hf dX10_digest_67 (fun j63 hf => ?_)
      refine zr_ladd C hf dX10_digest_68 (fun j64 hf => ?_)
      refine zr_lstore_n (lo2 := [(1, .long j64), (0, .ref (zB E + a0)), (3, .int x46)]) C dX10_digest_69 rfl (by decide) rfl ?_
      refine zr_iinc (v0 := 1) (k := 2) (f := fun v => [(3, .int v), (1, .long j64), (0, .ref (zB E + a0))]) C hf (by decide) dX10_digest_70 rfl (by decide) (fun v => rfl) (fun x65 hf => ?_)
      refine zr_goto (tgt := 42) C dX10_digest_73 (by decide) ?_
      refine zsub [2, 1, 0] rfl ?_
      exact hk42 (h47, j64, x65) hf
  refine zsub [2, 1, 0] rfl ?_
  exact L42 n (h11, j12, (0 : Int32)) hf
