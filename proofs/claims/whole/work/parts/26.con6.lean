theorem dX11_row_0 : decode cX11_row 0 = .ok (.aload_n 0, 1) := by decide +kernel
theorem dX11_row_1 : decode cX11_row 1 = .ok (.iconst 1, 1) := by decide +kernel
theorem dX11_row_2 : decode cX11_row 2 = .ok (.invokevirtual 142, 3) := by decide +kernel
theorem dX11_row_5 : decode cX11_row 5 = .ok (.aload_n 0, 1) := by decide +kernel
theorem dX11_row_6 : decode cX11_row 6 = .ok (.getfield 138, 3) := by decide +kernel
theorem dX11_row_9 : decode cX11_row 9 = .ok (.ifCond .ne 6, 3) := by decide +kernel
theorem dX11_row_12 : decode cX11_row 12 = .ok (.bipush (-103), 2) := by decide +kernel
theorem dX11_row_14 : decode cX11_row 14 = .ok (.ireturn, 1) := by decide +kernel
theorem dX11_row_15 : decode cX11_row 15 = .ok (.aload_n 0, 1) := by decide +kernel
theorem dX11_row_16 : decode cX11_row 16 = .ok (.getfield 155, 3) := by decide +kernel
theorem dX11_row_19 : decode cX11_row 19 = .ok (.bipush 6, 2) := by decide +kernel
theorem dX11_row_21 : decode cX11_row 21 = .ok (.if_icmp .ne 6, 3) := by decide +kernel
theorem dX11_row_24 : decode cX11_row 24 = .ok (.bipush (-104), 2) := by decide +kernel
theorem dX11_row_26 : decode cX11_row 26 = .ok (.ireturn, 1) := by decide +kernel
theorem dX11_row_27 : decode cX11_row 27 = .ok (.aload_n 0, 1) := by decide +kernel
theorem dX11_row_28 : decode cX11_row 28 = .ok (.getfield 46, 3) := by decide +kernel
theorem dX11_row_31 : decode cX11_row 31 = .ok (.aload_n 0, 1) := by decide +kernel
theorem dX11_row_32 : decode cX11_row 32 = .ok (.getfield 155, 3) := by decide +kernel
theorem dX11_row_35 : decode cX11_row 35 = .ok (.aload_n 0, 1) := by decide +kernel
theorem dX11_row_36 : decode cX11_row 36 = .ok (.getfield 115, 3) := by decide +kernel
theorem dX11_row_39 : decode cX11_row 39 = .ok (.iastore, 1) := by decide +kernel
theorem dX11_row_40 : decode cX11_row 40 = .ok (.iconst 0, 1) := by decide +kernel
theorem dX11_row_41 : decode cX11_row 41 = .ok (.istore_n 1, 1) := by decide +kernel
theorem dX11_row_42 : decode cX11_row 42 = .ok (.iload_n 1, 1) := by decide +kernel
theorem dX11_row_43 : decode cX11_row 43 = .ok (.aload_n 0, 1) := by decide +kernel
theorem dX11_row_44 : decode cX11_row 44 = .ok (.getfield 115, 3) := by decide +kernel
theorem dX11_row_47 : decode cX11_row 47 = .ok (.if_icmp .ge 49, 3) := by decide +kernel
theorem dX11_row_50 : decode cX11_row 50 = .ok (.aload_n 0, 1) := by decide +kernel
theorem dX11_row_51 : decode cX11_row 51 = .ok (.getfield 49, 3) := by decide +kernel
theorem dX11_row_54 : decode cX11_row 54 = .ok (.bipush 6, 2) := by decide +kernel
theorem dX11_row_56 : decode cX11_row 56 = .ok (.aload_n 0, 1) := by decide +kernel
theorem dX11_row_57 : decode cX11_row 57 = .ok (.getfield 155, 3) := by decide +kernel
theorem dX11_row_60 : decode cX11_row 60 = .ok (.imul, 1) := by decide +kernel
theorem dX11_row_61 : decode cX11_row 61 = .ok (.iload_n 1, 1) := by decide +kernel
theorem dX11_row_62 : decode cX11_row 62 = .ok (.iadd, 1) := by decide +kernel
theorem dX11_row_63 : decode cX11_row 63 = .ok (.aload_n 0, 1) := by decide +kernel
theorem dX11_row_64 : decode cX11_row 64 = .ok (.getfield 87, 3) := by decide +kernel
theorem dX11_row_67 : decode cX11_row 67 = .ok (.iload_n 1, 1) := by decide +kernel
theorem dX11_row_68 : decode cX11_row 68 = .ok (.iaload, 1) := by decide +kernel
theorem dX11_row_69 : decode cX11_row 69 = .ok (.iastore, 1) := by decide +kernel
theorem dX11_row_70 : decode cX11_row 70 = .ok (.aload_n 0, 1) := by decide +kernel
theorem dX11_row_71 : decode cX11_row 71 = .ok (.getfield 52, 3) := by decide +kernel
theorem dX11_row_74 : decode cX11_row 74 = .ok (.bipush 6, 2) := by decide +kernel
theorem dX11_row_76 : decode cX11_row 76 = .ok (.aload_n 0, 1) := by decide +kernel
theorem dX11_row_77 : decode cX11_row 77 = .ok (.getfield 155, 3) := by decide +kernel
theorem dX11_row_80 : decode cX11_row 80 = .ok (.imul, 1) := by decide +kernel
theorem dX11_row_81 : decode cX11_row 81 = .ok (.iload_n 1, 1) := by decide +kernel
theorem dX11_row_82 : decode cX11_row 82 = .ok (.iadd, 1) := by decide +kernel
theorem dX11_row_83 : decode cX11_row 83 = .ok (.aload_n 0, 1) := by decide +kernel
theorem dX11_row_84 : decode cX11_row 84 = .ok (.getfield 90, 3) := by decide +kernel
theorem dX11_row_87 : decode cX11_row 87 = .ok (.iload_n 1, 1) := by decide +kernel
theorem dX11_row_88 : decode cX11_row 88 = .ok (.iaload, 1) := by decide +kernel
theorem dX11_row_89 : decode cX11_row 89 = .ok (.iastore, 1) := by decide +kernel
theorem dX11_row_90 : decode cX11_row 90 = .ok (.iinc 1 1, 3) := by decide +kernel
theorem dX11_row_93 : decode cX11_row 93 = .ok (.goto (-51), 3) := by decide +kernel
theorem dX11_row_96 : decode cX11_row 96 = .ok (.aload_n 0, 1) := by decide +kernel
theorem dX11_row_97 : decode cX11_row 97 = .ok (.dup, 1) := by decide +kernel
theorem dX11_row_98 : decode cX11_row 98 = .ok (.getfield 155, 3) := by decide +kernel
theorem dX11_row_101 : decode cX11_row 101 = .ok (.iconst 1, 1) := by decide +kernel
theorem dX11_row_102 : decode cX11_row 102 = .ok (.iadd, 1) := by decide +kernel
theorem dX11_row_103 : decode cX11_row 103 = .ok (.putfield 155, 3) := by decide +kernel
theorem dX11_row_106 : decode cX11_row 106 = .ok (.aload_n 0, 1) := by decide +kernel
theorem dX11_row_107 : decode cX11_row 107 = .ok (.iconst 0, 1) := by decide +kernel
theorem dX11_row_108 : decode cX11_row 108 = .ok (.putfield 107, 3) := by decide +kernel
theorem dX11_row_111 : decode cX11_row 111 = .ok (.aload_n 0, 1) := by decide +kernel
theorem dX11_row_112 : decode cX11_row 112 = .ok (.getfield 155, 3) := by decide +kernel
theorem dX11_row_115 : decode cX11_row 115 = .ok (.iconst 1, 1) := by decide +kernel
theorem dX11_row_116 : decode cX11_row 116 = .ok (.isub, 1) := by decide +kernel
theorem dX11_row_117 : decode cX11_row 117 = .ok (.ireturn, 1) := by decide +kernel
set_option maxHeartbeats 4000000 in
set_option maxRecDepth 100000 in
theorem c_X11_row (l : Launch) (E : zE) (n : Nat) (h : zH) (a0 : Nat) (res : Int32 × zH) (hf : F_X11_row n h a0 = some res) : Met l yX11_row (zw yX11_row cX11_row 2 (some .int)) ({ frames := 4, cells := 0, slots := 0, locals := 89 } : Room) (zPc E h [.ref (zB E + a0)]) (zQc E res.2 (some (.int res.1))) 0 0 (zfr E) := by
  refine zmet (lo := [(0, .ref (zB E + a0))]) (by decide +kernel) (Nat.le_of_ble_eq_true rfl) rfl ?_
  intro p e s m args below meth c C hr hin
  unfold F_X11_row at hf
  refine zr_aload_n C dX11_row_0 rfl 0 rfl ?_
  refine zr_iconst (v := 1) C dX11_row_1 (by decide) ?_
  refine zr_callVv (As := [.int (1 : Int32)]) (rest := []) C hf (fun x hx => c_X11_readPage l E n h a0 (1 : Int32) x hx) kv_X11_142 rfl rfl (Nat.le_of_ble_eq_true rfl) ⟨rfl, rfl⟩ ⟨Nat.le_of_ble_eq_true rfl, Nat.le_of_ble_eq_true rfl⟩ ⟨Nat.le_of_ble_eq_true rfl, Nat.le_of_ble_eq_true rfl⟩ dX11_row_2 (fun _ h1 hf => ?_)
  refine zr_aload_n C dX11_row_5 rfl 0 rfl ?_
  refine zr_gi C hf kg_X11_138 (fun _ _ _ => rfl) dX11_row_6 (fun x2 hf => ?_)
  refine zr_if_ne (tgt := 15) C hf dX11_row_9 (by decide) (fun hf => ?_) (fun hf => ?_)
  · refine zr_aload_n C dX11_row_15 rfl 0 rfl ?_
    refine zr_gi C hf kg_X11_155 (fun _ _ _ => rfl) dX11_row_16 (fun x3 hf => ?_)
    refine zr_bipush (v := 6) C dX11_row_19 (by decide) ?_
    refine zr_icmp_ne (tgt := 27) C hf dX11_row_21 (by decide) (fun hf => ?_) (fun hf => ?_)
    · refine zr_aload_n C dX11_row_27 rfl 0 rfl ?_
      refine zr_gr C hf kg_X11_46 (fun _ _ _ => rfl) dX11_row_28 (fun w4 hf => ?_)
      refine zr_aload_n C dX11_row_31 rfl 0 rfl ?_
      refine zr_gi C hf kg_X11_155 (fun _ _ _ => rfl) dX11_row_32 (fun x5 hf => ?_)
      refine zr_aload_n C dX11_row_35 rfl 0 rfl ?_
      refine zr_gi C hf kg_X11_115 (fun _ _ _ => rfl) dX11_row_36 (fun x6 hf => ?_)
      refine zr_iastore C hf dX11_row_39 (fun h7 hf => ?_)
      refine zr_iconst (v := 0) C dX11_row_40 (by decide) ?_
      refine zr_istore_n (lo2 := [(1, .int (0 : Int32)), (0, .ref (zB E + a0))]) C dX11_row_41 rfl (by decide) rfl ?_
      have L42 : ∀ (fu : Nat) (x : zH × Int32), zloop (fun kc x => F_X11_row_B42 n kc x.1 a0 x.2) fu x = some res → zW p l e (headSpec (zw yX11_row cX11_row 2 (some .int)) ({ frames := 4, cells := 0, slots := 0, locals := 89 } : Room)).room s m args below meth c E 2 (MQ below (zQc E res.2 (some (.int res.1))) args s 0 0 (zfr E)) 0 0 42 [(0, .ref (zB E + a0)), (1, .int x.2)] [] x.1 := by
        refine z_loop _ ?_
        intro kc42 hk42 x hf
        obtain ⟨h34, x33⟩ := x
        dsimp only at hf ⊢
        unfold F_X11_row_B42 at hf
        refine zr_iload_n C dX11_row_42 rfl 1 rfl ?_
        refine zr_aload_n C dX11_row_43 rfl 0 rfl ?_
        refine zr_gi C hf kg_X11_115 (fun _ _ _ => rfl) dX11_row_44 (fun x35 hf => ?_)
        refine zr_icmp_ge (tgt := 96) C hf dX11_row_47 (by decide) (fun hf => ?_) (fun hf => ?_)
        · refine zr_aload_n C dX11_row_96 rfl 0 rfl ?_
          refine zr_dup C dX11_row_97 rfl ?_
          refine zr_gi C hf kg_X11_155 (fun _ _ _ => rfl) dX11_row_98 (fun x36 hf => ?_)
          refine zr_iconst (v := 1) C dX11_row_101 (by decide) ?_
          refine zr_iadd C hf dX11_row_102 (fun x37 hf => ?_)
          refine zr_si C hf kp_X11_155 (fun _ _ _ => rfl) rfl dX11_row_103 (fun h38 hf => ?_)
          refine zr_aload_n C dX11_row_106 rfl 0 rfl ?_
          refine zr_iconst (v := 0) C dX11_row_107 (by decide) ?_
          refine zr_si C hf kp_X11_107 (fun _ _ _ => rfl) rfl dX11_row_108 (fun h39 hf => ?_)
          refine zr_aload_n C dX11_row_111 rfl 0 rfl ?_
          refine zr_gi C hf kg_X11_155 (fun _ _ _ => rfl) dX11_row_112 (fun x40 hf => ?_)
          refine zr_iconst (v := 1) C dX11_row_115 (by decide) ?_
          refine zr_isub C hf dX11_row_116 (fun x41 hf => ?_)
          exact zr_ireturn C hf hr (Nat.le_of_ble_eq_true rfl) (Nat.le_of_ble_eq_true rfl) dX11_row_117
        · refine zr_aload_n C dX11_row_50 rfl 0 rfl ?_
          refine zr_gr C hf kg_X11_49 (fun _ _ _ => rfl) dX11_row_51 (fun w42 hf => ?_)
          refine zr_bipush (v := 6) C dX11_row_54 (by decide) ?_
          refine zr_aload_n C dX11_row_56 rfl 0 rfl ?_
          refine zr_gi C hf kg_X11_155 (fun _ _ _ => rfl) dX11_row_57 (fun x43 hf => ?_)
          refine zr_imul C hf dX11_row_60 (fun x44 hf => ?_)
          refine zr_iload_n C dX11_row_61 rfl 1 rfl ?_
          refine zr_iadd C hf dX11_row_62 (fun x45 hf => ?_)
          refine zr_aload_n C dX11_row_63 rfl 0 rfl ?_
          refine zr_gr C hf kg_X11_87 (fun _ _ _ => rfl) dX11_row_64 (fun w46 hf => ?_)
          refine zr_iload_n C dX11_row_67 rfl 1 rfl ?_
          refine zr_iaload C hf dX11_row_68 (fun x47 hf => ?_)
          refine zr_iastore C hf dX11_row_69 (fun h48 hf => ?_)
          refine zr_aload_n C dX11_row_70 rfl 0 rfl ?_
          refine zr_gr C hf kg_X11_52 (fun _ _ _ => rfl) dX11_row_71 (fun w49 hf => ?_)
          refine zr_bipush (v := 6) C dX11_row_74 (by decide) ?_
          refine zr_aload_n C dX11_row_76 rfl 0 rfl ?_
          refine zr_gi C hf kg_X11_155 (fun _ _ _ => rfl) dX11_row_77 (fun x50 hf => ?_)
          refine zr_imul C hf dX11_row_80 (fun x51 hf => ?_)
          refine zr_iload_n C dX11_row_81 rfl 1 rfl ?_
          refine zr_iadd C hf dX11_row_82 (fun x52 hf => ?_)
          refine zr_aload_n C dX11_row_83 rfl 0 rfl ?_
          refine zr_gr C hf kg_X11_90 (fun _ _ _ => rfl) dX11_row_84 (fun w53 hf => ?_)
          refine zr_iload_n C dX11_row_87 rfl 1 rfl ?_
          refine zr_iaload C hf dX11_row_88 (fun x54 hf => ?_)
          refine zr_iastore C hf dX11_row_89 (fun h55 hf => ?_)
          refine zr_iinc (v0 := 1) (k := 1) (f := fun v => [(1, .int v), (0, .ref (zB E + a0))]) C hf (by decide) dX11_row_90 rfl (by decide) (fun v => rfl) (fun x56 hf => ?_)
          refine zr_goto (tgt := 42) C dX11_row_93 (by decide) ?_
          refine zsub [1, 0] rfl ?_
          exact hk42 (h55, x56) hf
      refine zsub [1, 0] rfl ?_
      exact L42 n (h7, (0 : Int32)) hf
    · refine zr_bipush (v := -104) C dX11_row_24 (by decide) ?_
      exact zr_ireturn C hf hr (Nat.le_of_ble_eq_true rfl) (Nat.le_of_ble_eq_true rfl) dX11_row_26
  · refine zr_bipush (v := -103) C dX11_row_12 (by decide) ?_
    exact zr_ireturn C hf hr (Nat.le_of_ble_eq_true rfl) (Nat.le_of_ble_eq_true rfl) dX11_row_14
theorem dX11_river_0 : decode cX11_river 0 = .ok (.aload_n 0, 1) := by decide +kernel
theorem dX11_river_1 : decode cX11_river 1 = .ok (.iconst 2, 1) := by decide +kernel
theorem dX11_river_2 : decode cX11_river 2 = .ok (.invokevirtual 142, 3) := by decide +kernel
theorem dX11_river_5 : decode cX11_river 5 = .ok (.aload_n 0, 1) := by decide +kernel
theorem dX11_river_6 : decode cX11_river 6 = .ok (.getfield 138, 3) := by decide +kernel
theorem dX11_river_9 : decode cX11_river 9 = .ok (.ifCond .ne 6, 3) := by decide +kernel
theorem dX11_river_12 : decode cX11_river 12 = .ok (.bipush (-103), 2) := by decide +kernel
theorem dX11_river_14 : decode cX11_river 14 = .ok (.ireturn, 1) := by decide +kernel
theorem dX11_river_15 : decode cX11_river 15 = .ok (.aload_n 0, 1) := by decide +kernel
theorem dX11_river_16 : decode cX11_river 16 = .ok (.aload_n 0, 1) := by decide +kernel
theorem dX11_river_17 : decode cX11_river 17 = .ok (.getfield 122, 3) := by decide +kernel
theorem dX11_river_20 : decode cX11_river 20 = .ok (.putfield 158, 3) := by decide +kernel
theorem dX11_river_23 : decode cX11_river 23 = .ok (.iconst 0, 1) := by decide +kernel
theorem dX11_river_24 : decode cX11_river 24 = .ok (.istore_n 1, 1) := by decide +kernel
theorem dX11_river_25 : decode cX11_river 25 = .ok (.iload_n 1, 1) := by decide +kernel
theorem dX11_river_26 : decode cX11_river 26 = .ok (.aload_n 0, 1) := by decide +kernel
theorem dX11_river_27 : decode cX11_river 27 = .ok (.getfield 158, 3) := by decide +kernel
theorem dX11_river_30 : decode cX11_river 30 = .ok (.if_icmp .ge 33, 3) := by decide +kernel
theorem dX11_river_33 : decode cX11_river 33 = .ok (.aload_n 0, 1) := by decide +kernel
theorem dX11_river_34 : decode cX11_river 34 = .ok (.getfield 61, 3) := by decide +kernel
theorem dX11_river_37 : decode cX11_river 37 = .ok (.iload_n 1, 1) := by decide +kernel
theorem dX11_river_38 : decode cX11_river 38 = .ok (.aload_n 0, 1) := by decide +kernel
theorem dX11_river_39 : decode cX11_river 39 = .ok (.getfield 93, 3) := by decide +kernel
theorem dX11_river_42 : decode cX11_river 42 = .ok (.iload_n 1, 1) := by decide +kernel
theorem dX11_river_43 : decode cX11_river 43 = .ok (.iaload, 1) := by decide +kernel
theorem dX11_river_44 : decode cX11_river 44 = .ok (.iastore, 1) := by decide +kernel
theorem dX11_river_45 : decode cX11_river 45 = .ok (.aload_n 0, 1) := by decide +kernel
theorem dX11_river_46 : decode cX11_river 46 = .ok (.getfield 64, 3) := by decide +kernel
theorem dX11_river_49 : decode cX11_river 49 = .ok (.iload_n 1, 1) := by decide +kernel
theorem dX11_river_50 : decode cX11_river 50 = .ok (.aload_n 0, 1) := by decide +kernel
theorem dX11_river_51 : decode cX11_river 51 = .ok (.getfield 96, 3) := by decide +kernel
theorem dX11_river_54 : decode cX11_river 54 = .ok (.iload_n 1, 1) := by decide +kernel
theorem dX11_river_55 : decode cX11_river 55 = .ok (.baload, 1) := by decide +kernel
theorem dX11_river_56 : decode cX11_river 56 = .ok (.bastore, 1) := by decide +kernel
theorem dX11_river_57 : decode cX11_river 57 = .ok (.iinc 1 1, 3) := by decide +kernel
theorem dX11_river_60 : decode cX11_river 60 = .ok (.goto (-35), 3) := by decide +kernel
theorem dX11_river_63 : decode cX11_river 63 = .ok (.aload_n 0, 1) := by decide +kernel
theorem dX11_river_64 : decode cX11_river 64 = .ok (.iconst 0, 1) := by decide +kernel
theorem dX11_river_65 : decode cX11_river 65 = .ok (.putfield 107, 3) := by decide +kernel
theorem dX11_river_68 : decode cX11_river 68 = .ok (.aload_n 0, 1) := by decide +kernel
theorem dX11_river_69 : decode cX11_river 69 = .ok (.getfield 158, 3) := by decide +kernel
theorem dX11_river_72 : decode cX11_river 72 = .ok (.ireturn, 1) := by decide +kernel
set_option maxHeartbeats 4000000 in
set_option maxRecDepth 100000 in
theorem c_X11_river (l : Launch) (E : zE) (n : Nat) (h : zH) (a0 : Nat) (res : Int32 × zH) (hf : F_X11_river n h a0 = some res) : Met l yX11_river (zw yX11_river cX11_river 2 (some .int)) ({ frames := 4, cells := 0, slots := 0, locals := 89 } : Room) (zPc E h [.ref (zB E + a0)]) (zQc E res.2 (some (.int res.1))) 0 0 (zfr E) := by
  refine zmet (lo := [(0, .ref (zB E + a0))]) (by decide +kernel) (Nat.le_of_ble_eq_true rfl) rfl ?_
  intro p e s m args below meth c C hr hin
  unfold F_X11_river at hf
  refine zr_aload_n C dX11_river_0 rfl 0 rfl ?_
  refine zr_iconst (v := 2) C dX11_river_1 (by decide) ?_
  refine zr_callVv (As := [.int (2 : Int32)]) (rest := []) C hf (fun x hx => c_X11_readPage l E n h a0 (2 : Int32) x hx) kv_X11_142 rfl rfl (Nat.le_of_ble_eq_true rfl) ⟨rfl, rfl⟩ ⟨Nat.le_of_ble_eq_true rfl, Nat.le_of_ble_eq_true rfl⟩ ⟨Nat.le_of_ble_eq_true rfl, Nat.le_of_ble_eq_true rfl⟩ dX11_river_2 (fun _ h1 hf => ?_)
  refine zr_aload_n C dX11_river_5 rfl 0 rfl ?_
  refine zr_gi C hf kg_X11_138 (fun _ _ _ => rfl) dX11_river_6 (fun x2 hf => ?_)
  refine zr_if_ne (tgt := 15) C hf dX11_river_9 (by decide) (fun hf => ?_) (fun hf => ?_)
  · refine zr_aload_n C dX11_river_15 rfl 0 rfl ?_
    refine zr_aload_n C dX11_river_16 rfl 0 rfl ?_
    refine zr_gi C hf kg_X11_122 (fun _ _ _ => rfl) dX11_river_17 (fun x3 hf => ?_)
    refine zr_si C hf kp_X11_158 (fun _ _ _ => rfl) rfl dX11_river_20 (fun h4 hf => ?_)
    refine zr_iconst (v := 0) C dX11_river_23 (by decide) ?_
    refine zr_istore_n (lo2 := [(1, .int (0 : Int32)), (0, .ref (zB E + a0))]) C dX11_river_24 rfl (by decide) rfl ?_
    have L25 : ∀ (fu : Nat) (x : zH × Int32), zloop (fun kc x => F_X11_river_B25 n kc x.1 a0 x.2) fu x = some res → zW p l e (headSpec (zw yX11_river cX11_river 2 (some .int)) ({ frames := 4, cells := 0, slots := 0, locals := 89 } : Room)).room s m args below meth c E 2 (MQ below (zQc E res.2 (some (.int res.1))) args s 0 0 (zfr E)) 0 0 25 [(0, .ref (zB E + a0)), (1, .int x.2)] [] x.1 := by
      refine z_loop _ ?_
      intro kc25 hk25 x hf
      obtain ⟨h21, x20⟩ := x
      dsimp only at hf ⊢
      unfold F_X11_river_B25 at hf
      refine zr_iload_n C dX11_river_25 rfl 1 rfl ?_
      refine zr_aload_n C dX11_river_26 rfl 0 rfl ?_
      refine zr_gi C hf kg_X11_158 (fun _ _ _ => rfl) dX11_river_27 (fun x22 hf => ?_)
      refine zr_icmp_ge (tgt := 63) C hf dX11_river_30 (by decide) (fun hf => ?_) (fun hf => ?_)
      · refine zr_aload_n C dX11_river_63 rfl 0 rfl ?_
        refine zr_iconst (v := 0) C dX11_river_64 (by decide) ?_
        refine zr_si C hf kp_X11_107 (fun _ _ _ => rfl) rfl dX11_river_65 (fun h23 hf => ?_)
        refine zr_aload_n C dX11_river_68 rfl 0 rfl ?_
        refine zr_gi C hf kg_X11_158 (fun _ _ _ => rfl) dX11_river_69 (fun x24 hf => ?_)
        exact zr_ireturn C hf hr (Nat.le_of_ble_eq_true rfl) (Nat.le_of_ble_eq_true rfl) dX11_river_72
      · refine zr_aload_n C dX11_river_33 rfl 0 rfl ?_
        refine zr_gr C hf kg_X11_61 (fun _ _ _ => rfl) dX11_river_34 (fun w25 hf => ?_)
        refine zr_iload_n C dX11_river_37 rfl 1 rfl ?_
        refine zr_aload_n C dX11_river_38 rfl 0 rfl ?_
        refine zr_gr C hf kg_X11_93 (fun _ _ _ => rfl) dX11_river_39 (fun w26 hf => ?_)
        refine zr_iload_n C dX11_river_42 rfl 1 rfl ?_
        refine zr_iaload C hf dX11_river_43 (fun x27 hf => ?_)
        refine zr_iastore C hf dX11_river_44 (fun h28 hf => ?_)
        refine zr_aload_n C dX11_river_45 rfl 0 rfl ?_
        refine zr_gr C hf kg_X11_64 (fun _ _ _ => rfl) dX11_river_46 (fun w29 hf => ?_)
        refine zr_iload_n C dX11_river_49 rfl 1 rfl ?_
        refine zr_aload_n C dX11_river_50 rfl 0 rfl ?_
        refine zr_gr C hf kg_X11_96 (fun _ _ _ => rfl) dX11_river_51 (fun w30 hf => ?_)
        refine zr_iload_n C dX11_river_54 rfl 1 rfl ?_
        refine zr_zaload C hf dX11_river_55 (fun x31 hf => ?_)
        refine zr_zastore C hf dX11_river_56 (fun h32 hf => ?_)
        refine zr_iinc (v0 := 1) (k := 1) (f := fun v => [(1, .int v), (0, .ref (zB E + a0))]) C hf (by decide) dX11_river_57 rfl (by decide) (fun v => rfl) (fun x33 hf => ?_)
        refine zr_goto (tgt := 25) C dX11_river_60 (by decide) ?_
        refine zsub [1, 0] rfl ?_
        exact hk25 (h32, x33) hf
    refine zsub [1, 0] rfl ?_
    exact L25 n (h4, (0 : Int32)) hf
  · refine zr_bipush (v := -103) C dX11_river_12 (by decide) ?_
    exact zr_ireturn C hf hr (Nat.le_of_ble_eq_true rfl) (Nat.le_of_ble_eq_true rfl) dX11_river_14
theorem dX11_cupTold_0 : decode cX11_cupTold 0 = .ok (.aload_n 0, 1) := by decide +kernel
theorem dX11_cupTold_1 : decode cX11_cupTold 1 = .ok (.getfield 149, 3) := by decide +kernel
theorem dX11_cupTold_4 : decode cX11_cupTold 4 = .ok (.ifCond .ne 8, 3) := by decide +kernel
theorem dX11_cupTold_7 : decode cX11_cupTold 7 = .ok (.bipush (-103), 2) := by decide +kernel
theorem dX11_cupTold_9 : decode cX11_cupTold 9 = .ok (.goto 23, 3) := by decide +kernel
theorem dX11_cupTold_12 : decode cX11_cupTold 12 = .ok (.iload_n 1, 1) := by decide +kernel
theorem dX11_cupTold_13 : decode cX11_cupTold 13 = .ok (.iconst 0, 1) := by decide +kernel
theorem dX11_cupTold_14 : decode cX11_cupTold 14 = .ok (.iconst 5, 1) := by decide +kernel
theorem dX11_cupTold_15 : decode cX11_cupTold 15 = .ok (.invokestatic 111, 3) := by decide +kernel
theorem dX11_cupTold_18 : decode cX11_cupTold 18 = .ok (.ifCond .eq 12, 3) := by decide +kernel
theorem dX11_cupTold_21 : decode cX11_cupTold 21 = .ok (.aload_n 0, 1) := by decide +kernel
theorem dX11_cupTold_22 : decode cX11_cupTold 22 = .ok (.getfield 7, 3) := by decide +kernel
theorem dX11_cupTold_25 : decode cX11_cupTold 25 = .ok (.iload_n 1, 1) := by decide +kernel
theorem dX11_cupTold_26 : decode cX11_cupTold 26 = .ok (.iaload, 1) := by decide +kernel
theorem dX11_cupTold_27 : decode cX11_cupTold 27 = .ok (.goto 5, 3) := by decide +kernel
theorem dX11_cupTold_30 : decode cX11_cupTold 30 = .ok (.bipush (-102), 2) := by decide +kernel
theorem dX11_cupTold_32 : decode cX11_cupTold 32 = .ok (.ireturn, 1) := by decide +kernel
set_option maxHeartbeats 4000000 in
set_option maxRecDepth 100000 in
theorem c_X11_cupTold (l : Launch) (E : zE) (n : Nat) (h : zH) (a0 : Nat) (p0 : Int32) (res : Int32 × zH) (hf : F_X11_cupTold n h a0 p0 = some res) : Met l yX11_cupTold (zw yX11_cupTold cX11_cupTold 2 (some .int)) ({ frames := 1, cells := 0, slots := 0, locals := 22 } : Room) (zPc E h [.ref (zB E + a0), .int p0]) (zQc E res.2 (some (.int res.1))) 0 0 (zfr E) := by
  refine zmet (lo := [(0, .ref (zB E + a0)), (1, .int p0)]) (by decide +kernel) (Nat.le_of_ble_eq_true rfl) rfl ?_
  intro p e s m args below meth c C hr hin
  unfold F_X11_cupTold at hf
  have J32 : ∀ (h4 : zH) (x3 : Int32), F_X11_cupTold_J32 n h4 x3 = some res → zW p l e (headSpec (zw yX11_cupTold cX11_cupTold 2 (some .int)) ({ frames := 1, cells := 0, slots := 0, locals := 22 } : Room)).room s m args below meth c E 2 (MQ below (zQc E res.2 (some (.int res.1))) args s 0 0 (zfr E)) 0 0 32 [] [.int x3] h4 := by
    intro h4 x3 hf
    unfold F_X11_cupTold_J32 at hf
    exact zr_ireturn C hf hr (Nat.le_of_ble_eq_true rfl) (Nat.le_of_ble_eq_true rfl) dX11_cupTold_32
  refine zr_aload_n C dX11_cupTold_0 rfl 0 rfl ?_
  refine zr_gi C hf kg_X11_149 (fun _ _ _ => rfl) dX11_cupTold_1 (fun x5 hf => ?_)
  refine zr_if_ne (tgt := 12) C hf dX11_cupTold_4 (by decide) (fun hf => ?_) (fun hf => ?_)
  · refine zr_iload_n C dX11_cupTold_12 rfl 1 rfl ?_
    refine zr_iconst (v := 0) C dX11_cupTold_13 (by decide) ?_
    refine zr_iconst (v := 5) C dX11_cupTold_14 (by decide) ?_
    refine zr_callSi (As := [.int p0, .int (0 : Int32), .int (5 : Int32)]) (rest := []) C hf (fun x hx => c_X11_within l E n h p0 (0 : Int32) (5 : Int32) x hx) ks_X11_111 rfl rfl (Nat.le_of_ble_eq_true rfl) ⟨rfl, rfl⟩ ⟨Nat.le_of_ble_eq_true rfl, Nat.le_of_ble_eq_true rfl⟩ ⟨Nat.le_of_ble_eq_true rfl, Nat.le_of_ble_eq_true rfl⟩ dX11_cupTold_15 (fun x7 h6 hf => ?_)
    refine zr_if_eq (tgt := 30) C hf dX11_cupTold_18 (by decide) (fun hf => ?_) (fun hf => ?_)
    · refine zr_bipush (v := -102) C dX11_cupTold_30 (by decide) ?_
      refine zsub [] rfl ?_
      exact J32 h6 (-102 : Int32) hf
    · refine zr_aload_n C dX11_cupTold_21 rfl 0 rfl ?_
      refine zr_gr C hf kg_X11_7 (fun _ _ _ => rfl) dX11_cupTold_22 (fun w8 hf => ?_)
      refine zr_iload_n C dX11_cupTold_25 rfl 1 rfl ?_
      refine zr_iaload C hf dX11_cupTold_26 (fun x9 hf => ?_)
      refine zr_goto (tgt := 32) C dX11_cupTold_27 (by decide) ?_
      refine zsub [] rfl ?_
      exact J32 h6 x9 hf
  · refine zr_bipush (v := -103) C dX11_cupTold_7 (by decide) ?_
    refine zr_goto (tgt := 32) C dX11_cupTold_9 (by decide) ?_
    refine zsub [] rfl ?_
    exact J32 h (-103 : Int32) hf
theorem dX11_doing_0 : decode cX11_doing 0 = .ok (.iload_n 1, 1) := by decide +kernel
theorem dX11_doing_1 : decode cX11_doing 1 = .ok (.iconst 1, 1) := by decide +kernel
theorem dX11_doing_2 : decode cX11_doing 2 = .ok (.if_icmp .eq 8, 3) := by decide +kernel
theorem dX11_doing_5 : decode cX11_doing 5 = .ok (.iload_n 1, 1) := by decide +kernel
theorem dX11_doing_6 : decode cX11_doing 6 = .ok (.iconst 2, 1) := by decide +kernel
theorem dX11_doing_7 : decode cX11_doing 7 = .ok (.if_icmp .ne 7, 3) := by decide +kernel
theorem dX11_doing_10 : decode cX11_doing 10 = .ok (.iconst 1, 1) := by decide +kernel
theorem dX11_doing_11 : decode cX11_doing 11 = .ok (.goto 4, 3) := by decide +kernel
theorem dX11_doing_14 : decode cX11_doing 14 = .ok (.iconst 0, 1) := by decide +kernel
theorem dX11_doing_15 : decode cX11_doing 15 = .ok (.istore_n 3, 1) := by decide +kernel
theorem dX11_doing_16 : decode cX11_doing 16 = .ok (.iload_n 3, 1) := by decide +kernel
theorem dX11_doing_17 : decode cX11_doing 17 = .ok (.ifCond .ne 8, 3) := by decide +kernel
theorem dX11_doing_20 : decode cX11_doing 20 = .ok (.iload_n 1, 1) := by decide +kernel
theorem dX11_doing_21 : decode cX11_doing 21 = .ok (.iconst 3, 1) := by decide +kernel
theorem dX11_doing_22 : decode cX11_doing 22 = .ok (.if_icmp .ne 7, 3) := by decide +kernel
theorem dX11_doing_25 : decode cX11_doing 25 = .ok (.iconst 1, 1) := by decide +kernel
theorem dX11_doing_26 : decode cX11_doing 26 = .ok (.goto 4, 3) := by decide +kernel
theorem dX11_doing_29 : decode cX11_doing 29 = .ok (.iconst 0, 1) := by decide +kernel
theorem dX11_doing_30 : decode cX11_doing 30 = .ok (.istore 4, 2) := by decide +kernel
theorem dX11_doing_32 : decode cX11_doing 32 = .ok (.iload_n 3, 1) := by decide +kernel
theorem dX11_doing_33 : decode cX11_doing 33 = .ok (.ifCond .eq 8, 3) := by decide +kernel
theorem dX11_doing_36 : decode cX11_doing 36 = .ok (.bipush 20, 2) := by decide +kernel
theorem dX11_doing_38 : decode cX11_doing 38 = .ok (.goto 14, 3) := by decide +kernel
theorem dX11_doing_41 : decode cX11_doing 41 = .ok (.iload_n 1, 1) := by decide +kernel
theorem dX11_doing_42 : decode cX11_doing 42 = .ok (.iconst 3, 1) := by decide +kernel
theorem dX11_doing_43 : decode cX11_doing 43 = .ok (.if_icmp .ne 8, 3) := by decide +kernel
theorem dX11_doing_46 : decode cX11_doing 46 = .ok (.bipush 40, 2) := by decide +kernel
theorem dX11_doing_48 : decode cX11_doing 48 = .ok (.goto 4, 3) := by decide +kernel
theorem dX11_doing_51 : decode cX11_doing 51 = .ok (.iconst 0, 1) := by decide +kernel
theorem dX11_doing_52 : decode cX11_doing 52 = .ok (.istore 5, 2) := by decide +kernel
theorem dX11_doing_54 : decode cX11_doing 54 = .ok (.iload_n 1, 1) := by decide +kernel
theorem dX11_doing_55 : decode cX11_doing 55 = .ok (.iconst 0, 1) := by decide +kernel
theorem dX11_doing_56 : decode cX11_doing 56 = .ok (.iconst 4, 1) := by decide +kernel
theorem dX11_doing_57 : decode cX11_doing 57 = .ok (.invokestatic 111, 3) := by decide +kernel
theorem dX11_doing_60 : decode cX11_doing 60 = .ok (.ifCond .eq 14, 3) := by decide +kernel
theorem dX11_doing_63 : decode cX11_doing 63 = .ok (.iload_n 2, 1) := by decide +kernel
theorem dX11_doing_64 : decode cX11_doing 64 = .ok (.iload 4, 2) := by decide +kernel
theorem dX11_doing_66 : decode cX11_doing 66 = .ok (.iload 5, 2) := by decide +kernel
theorem dX11_doing_68 : decode cX11_doing 68 = .ok (.invokestatic 111, 3) := by decide +kernel
theorem dX11_doing_71 : decode cX11_doing 71 = .ok (.ifCond .ne 6, 3) := by decide +kernel
theorem dX11_doing_74 : decode cX11_doing 74 = .ok (.bipush (-102), 2) := by decide +kernel
theorem dX11_doing_76 : decode cX11_doing 76 = .ok (.ireturn, 1) := by decide +kernel
theorem dX11_doing_77 : decode cX11_doing 77 = .ok (.aload_n 0, 1) := by decide +kernel
theorem dX11_doing_78 : decode cX11_doing 78 = .ok (.getfield 161, 3) := by decide +kernel
theorem dX11_doing_81 : decode cX11_doing 81 = .ok (.bipush 8, 2) := by decide +kernel
theorem dX11_doing_83 : decode cX11_doing 83 = .ok (.if_icmp .ne 6, 3) := by decide +kernel
theorem dX11_doing_86 : decode cX11_doing 86 = .ok (.bipush (-104), 2) := by decide +kernel
theorem dX11_doing_88 : decode cX11_doing 88 = .ok (.ireturn, 1) := by decide +kernel
theorem dX11_doing_89 : decode cX11_doing 89 = .ok (.aload_n 0, 1) := by decide +kernel
theorem dX11_doing_90 : decode cX11_doing 90 = .ok (.getfield 19, 3) := by decide +kernel
theorem dX11_doing_93 : decode cX11_doing 93 = .ok (.aload_n 0, 1) := by decide +kernel
theorem dX11_doing_94 : decode cX11_doing 94 = .ok (.getfield 161, 3) := by decide +kernel
theorem dX11_doing_97 : decode cX11_doing 97 = .ok (.iload_n 1, 1) := by decide +kernel
theorem dX11_doing_98 : decode cX11_doing 98 = .ok (.iastore, 1) := by decide +kernel
theorem dX11_doing_99 : decode cX11_doing 99 = .ok (.aload_n 0, 1) := by decide +kernel
theorem dX11_doing_100 : decode cX11_doing 100 = .ok (.getfield 22, 3) := by decide +kernel
theorem dX11_doing_103 : decode cX11_doing 103 = .ok (.aload_n 0, 1) := by decide +kernel
theorem dX11_doing_104 : decode cX11_doing 104 = .ok (.getfield 161, 3) := by decide +kernel
theorem dX11_doing_107 : decode cX11_doing 107 = .ok (.iload_n 2, 1) := by decide +kernel
theorem dX11_doing_108 : decode cX11_doing 108 = .ok (.iastore, 1) := by decide +kernel
theorem dX11_doing_109 : decode cX11_doing 109 = .ok (.aload_n 0, 1) := by decide +kernel
theorem dX11_doing_110 : decode cX11_doing 110 = .ok (.dup, 1) := by decide +kernel
theorem dX11_doing_111 : decode cX11_doing 111 = .ok (.getfield 161, 3) := by decide +kernel
theorem dX11_doing_114 : decode cX11_doing 114 = .ok (.iconst 1, 1) := by decide +kernel
theorem dX11_doing_115 : decode cX11_doing 115 = .ok (.iadd, 1) := by decide +kernel
theorem dX11_doing_116 : decode cX11_doing 116 = .ok (.putfield 161, 3) := by decide +kernel
theorem dX11_doing_119 : decode cX11_doing 119 = .ok (.aload_n 0, 1) := by decide +kernel
theorem dX11_doing_120 : decode cX11_doing 120 = .ok (.getfield 161, 3) := by decide +kernel
theorem dX11_doing_123 : decode cX11_doing 123 = .ok (.iconst 1, 1) := by decide +kernel
theorem dX11_doing_124 : decode cX11_doing 124 = .ok (.isub, 1) := by decide +kernel
theorem dX11_doing_125 : decode cX11_doing 125 = .ok (.ireturn, 1) := by decide +kernel
set_option maxHeartbeats 4000000 in
set_option maxRecDepth 100000 in
theorem c_X11_doing (l : Launch) (E : zE) (n : Nat) (h : zH) (a0 : Nat) (p0 : Int32) (p1 : Int32) (res : Int32 × zH) (hf : F_X11_doing n h a0 p0 p1 = some res) : Met l yX11_doing (zw yX11_doing cX11_doing 6 (some .int)) ({ frames := 1, cells := 0, slots := 0, locals := 22 } : Room) (zPc E h [.ref (zB E + a0), .int p0, .int p1]) (zQc E res.2 (some (.int res.1))) 0 0 (zfr E) := by
  refine zmet (lo := [(0, .ref (zB E + a0)), (1, .int p0), (2, .int p1)]) (by decide +kernel) (Nat.le_of_ble_eq_true rfl) rfl ?_
  intro p e s m args below meth c C hr hin
  unfold F_X11_doing at hf
  have J74 : ∀ (h2 : zH), F_X11_doing_J74 n h2 = some res → zW p l e (headSpec (zw yX11_doing cX11_doing 6 (some .int)) ({ frames := 1, cells := 0, slots := 0, locals := 22 } : Room)).room s m args below meth c E 6 (MQ below (zQc E res.2 (some (.int res.1))) args s 0 0 (zfr E)) 0 0 74 [] [] h2 := by
    intro h2 hf
    unfold F_X11_doing_J74 at hf
    refine zr_bipush (v := -102) C dX11_doing_74 (by decide) ?_
    exact zr_ireturn C hf hr (Nat.le_of_ble_eq_true rfl) (Nat.le_of_ble_eq_true rfl) dX11_doing_76
  have J52 : ∀ (h30 : zH) (w25 : Nat) (x26 : Int32) (x27 : Int32) (x28 : Int32) (x29 : Int32), F_X11_doing_J52 n h30 w25 x26 x27 x28 x29 = some res → zW p l e (headSpec (zw yX11_doing cX11_doing 6 (some .int)) ({ frames := 1, cells := 0, slots := 0, locals := 22 } : Room)).room s m args below meth c E 6 (MQ below (zQc E res.2 (some (.int res.1))) args s 0 0 (zfr E)) 0 0 52 [(0, .ref (zB E + w25)), (1, .int x26), (2, .int x27), (4, .int x28)] [.int x29] h30 := by
    intro h30 w25 x26 x27 x28 x29 hf
    unfold F_X11_doing_J52 at hf
    refine zr_istore (lo2 := [(5, .int x29), (0, .ref (zB E + w25)), (1, .int x26), (2, .int x27), (4, .int x28)]) C dX11_doing_52 (by decide) rfl ?_
    refine zr_iload_n C dX11_doing_54 rfl 2 rfl ?_
    refine zr_iconst (v := 0) C dX11_doing_55 (by decide) ?_
    refine zr_iconst (v := 4) C dX11_doing_56 (by decide) ?_
    refine zr_callSi (As := [.int x26, .int (0 : Int32), .int (4 : Int32)]) (rest := []) C hf (fun x hx => c_X11_within l E n h30 x26 (0 : Int32) (4 : Int32) x hx) ks_X11_111 rfl rfl (Nat.le_of_ble_eq_true rfl) ⟨rfl, rfl⟩ ⟨Nat.le_of_ble_eq_true rfl, Nat.le_of_ble_eq_true rfl⟩ ⟨Nat.le_of_ble_eq_true rfl, Nat.le_of_ble_eq_true rfl⟩ dX11_doing_57 (fun x32 h31 hf => ?_)
    refine zr_if_eq (tgt := 74) C hf dX11_doing_60 (by decide) (fun hf => ?_) (fun hf => ?_)
    · refine zsub [] rfl ?_
      exact J74 h31 hf
    · refine zr_iload_n C dX11_doing_63 rfl 3 rfl ?_
      refine zr_iload C dX11_doing_64 4 rfl ?_
      refine zr_iload C dX11_doing_66 0 rfl ?_
      refine zr_callSi (As := [.int x27, .int x28, .int x29]) (rest := []) C hf (fun x hx => c_X11_within l E n h31 x27 x28 x29 x hx) ks_X11_111 rfl rfl (Nat.le_of_ble_eq_true rfl) ⟨rfl, rfl⟩ ⟨Nat.le_of_ble_eq_true rfl, Nat.le_of_ble_eq_true rfl⟩ ⟨Nat.le_of_ble_eq_true rfl, Nat.le_of_ble_eq_true rfl⟩ dX11_doing_68 (fun x34 h33 hf => ?_)
      refine zr_if_ne (tgt := 77) C hf dX11_doing_71 (by decide) (fun hf => ?_) (fun hf => ?_)
      · refine zr_aload_n C dX11_doing_77 rfl 1 rfl ?_
        refine zr_gi C hf kg_X11_161 (fun _ _ _ => rfl) dX11_doing_78 (fun x35 hf => ?_)
        refine zr_bipush (v := 8) C dX11_doing_81 (by decide) ?_
        refine zr_icmp_ne (tgt := 89) C hf dX11_doing_83 (by decide) (fun hf => ?_) (fun hf => ?_)
        · refine zr_aload_n C dX11_doing_89 rfl 1 rfl ?_
          refine zr_gr C hf kg_X11_19 (fun _ _ _ => rfl) dX11_doing_90 (fun w36 hf => ?_)
          refine zr_aload_n C dX11_doing_93 rfl 1 rfl ?_
          refine zr_gi C hf kg_X11_161 (fun _ _ _ => rfl) dX11_doing_94 (fun x37 hf => ?_)
          refine zr_iload_n C dX11_doing_97 rfl 2 rfl ?_
          refine zr_iastore C hf dX11_doing_98 (fun h38 hf => ?_)
          refine zr_aload_n C dX11_doing_99 rfl 1 rfl ?_
          refine zr_gr C hf kg_X11_22 (fun _ _ _ => rfl) dX11_doing_100 (fun w39 hf => ?_)
          refine zr_aload_n C dX11_doing_103 rfl 1 rfl ?_
          refine zr_gi C hf kg_X11_161 (fun _ _ _ => rfl) dX11_doing_104 (fun x40 hf => ?_)
          refine zr_iload_n C dX11_doing_107 rfl 3 rfl ?_
          refine zr_iastore C hf dX11_doing_108 (fun h41 hf => ?_)
          refine zr_aload_n C dX11_doing_109 rfl 1 rfl ?_
          refine zr_dup C dX11_doing_110 rfl ?_
          refine zr_gi C hf kg_X11_161 (fun _ _ _ => rfl) dX11_doing_111 (fun x42 hf => ?_)
          refine zr_iconst (v := 1) C dX11_doing_114 (by decide) ?_
          refine zr_iadd C hf dX11_doing_115 (fun x43 hf => ?_)
          refine zr_si C hf kp_X11_161 (fun _ _ _ => rfl) rfl dX11_doing_116 (fun h44 hf => ?_)
          refine zr_aload_n C dX11_doing_119 rfl 1 rfl ?_
          refine zr_gi C hf kg_X11_161 (fun _ _ _ => rfl) dX11_doing_120 (fun x45 hf => ?_)
          refine zr_iconst (v := 1) C dX11_doing_123 (by decide) ?_
          refine zr_isub C hf dX11_doing_124 (fun x46 hf => ?_)
          exact zr_ireturn C hf hr (Nat.le_of_ble_eq_true rfl) (Nat.le_of_ble_eq_true rfl) dX11_doing_125
        · refine zr_bipush (v := -104) C dX11_doing_86 (by decide) ?_
          exact zr_ireturn C hf hr (Nat.le_of_ble_eq_true rfl) (Nat.le_of_ble_eq_true rfl) dX11_doing_88
      · refine zsub [] rfl ?_
        exact J74 h33 hf
  have J30 : ∀ (h58 : zH) (w53 : Nat) (x54 : Int32) (x55 : Int32) (x56 : Int32) (x57 : Int32), F_X11_doing_J30 n h58 w53 x54 x55 x56 x57 = some res → zW p l e (headSpec (zw yX11_doing cX11_doing 6 (some .int)) ({ frames := 1, cells := 0, slots := 0, locals := 22 } : Room)).room s m args below meth c E 6 (MQ below (zQc E res.2 (some (.int res.1))) args s 0 0 (zfr E)) 0 0 30 [(0, .ref (zB E + w53)), (1, .int x54), (2, .int x55), (3, .int x56)] [.int x57] h58 := by
    intro h58 w53 x54 x55 x56 x57 hf
    unfold F_X11_doing_J30 at hf
    refine zr_istore (lo2 := [(4, .int x57), (0, .ref (zB E + w53)), (1, .int x54), (2, .int x55), (3, .int x56)]) C dX11_doing_30 (by decide) rfl ?_
    refine zr_iload_n C dX11_doing_32 rfl 4 rfl ?_
    refine zr_if_eq (tgt := 41) C hf dX11_doing_33 (by decide) (fun hf => ?_) (fun hf => ?_)
    · refine zr_iload_n C dX11_doing_41 rfl 2 rfl ?_
      refine zr_iconst (v := 3) C dX11_doing_42 (by decide) ?_
      refine zr_icmp_ne (tgt := 51) C hf dX11_doing_43 (by decide) (fun hf => ?_) (fun hf => ?_)
      · refine zr_iconst (v := 0) C dX11_doing_51 (by decide) ?_
        refine zsub [1, 2, 3, 0] rfl ?_
        exact J52 h58 w53 x54 x55 x57 (0 : Int32) hf
      · refine zr_bipush (v := 40) C dX11_doing_46 (by decide) ?_
        refine zr_goto (tgt := 52) C dX11_doing_48 (by decide) ?_
        refine zsub [1, 2, 3, 0] rfl ?_
        exact J52 h58 w53 x54 x55 x57 (40 : Int32) hf
    · refine zr_bipush (v := 20) C dX11_doing_36 (by decide) ?_
      refine zr_goto (tgt := 52) C dX11_doing_38 (by decide) ?_
      refine zsub [1, 2, 3, 0] rfl ?_
      exact J52 h58 w53 x54 x55 x57 (20 : Int32) hf
  have J25 : ∀ (h68 : zH) (w64 : Nat) (x65 : Int32) (x66 : Int32) (x67 : Int32), F_X11_doing_J25 n h68 w64 x65 x66 x67 = some res → zW p l e (headSpec (zw yX11_doing cX11_doing 6 (some .int)) ({ frames := 1, cells := 0, slots := 0, locals := 22 } : Room)).room s m args below meth c E 6 (MQ below (zQc E res.2 (some (.int res.1))) args s 0 0 (zfr E)) 0 0 25 [(0, .ref (zB E + w64)), (1, .int x65), (2, .int x66), (3, .int x67)] [] h68 := by
    intro h68 w64 x65 x66 x67 hf
    unfold F_X11_doing_J25 at hf
    refine zr_iconst (v := 1) C dX11_doing_25 (by decide) ?_
    refine zr_goto (tgt := 30) C dX11_doing_26 (by decide) ?_
    exact J30 h68 w64 x65 x66 x67 (1 : Int32) hf
  have J15 : ∀ (h78 : zH) (w74 : Nat) (x75 : Int32) (x76 : Int32) (x77 : Int32), F_X11_doing_J15 n h78 w74 x75 x76 x77 = some res → zW p l e (headSpec (zw yX11_doing cX11_doing 6 (some .int)) ({ frames := 1, cells := 0, slots := 0, locals := 22 } : Room)).room s m args below meth c E 6 (MQ below (zQc E res.2 (some (.int res.1))) args s 0 0 (zfr E)) 0 0 15 [(0, .ref (zB E + w74)), (1, .int x75), (2, .int x76)] [.int x77] h78 := by
    intro h78 w74 x75 x76 x77 hf
    unfold F_X11_doing_J15 at hf
    refine zr_istore_n (lo2 := [(3, .int x77), (0, .ref (zB E + w74)), (1, .int x75), (2, .int x76)]) C dX11_doing_15 rfl (by decide) rfl ?_
    refine zr_iload_n C dX11_doing_16 rfl 0 rfl ?_
    refine zr_if_ne (tgt := 25) C hf dX11_doing_17 (by decide) (fun hf => ?_) (fun hf => ?_)
    · refine zsub [1, 2, 3, 0] rfl ?_
      exact J25 h78 w74 x75 x76 x77 hf
    · refine zr_iload_n C dX11_doing_20 rfl 2 rfl ?_
      refine zr_iconst (v := 3) C dX11_doing_21 (by decide) ?_
      refine zr_icmp_ne (tgt := 29) C hf dX11_doing_22 (by decide) (fun hf => ?_) (fun hf => ?_)
      · refine zr_iconst (v := 0) C dX11_doing_29 (by decide) ?_
        refine zsub [1, 2, 3, 0] rfl ?_
        exact J30 h78 w74 x75 x76 x77 (0 : Int32) hf
      · refine zsub [1, 2, 3, 0] rfl ?_
        exact J25 h78 w74 x75 x76 x77 hf
  have J10 : ∀ (h86 : zH) (w83 : Nat) (x84 : Int32) (x85 : Int32), F_X11_doing_J10 n h86 w83 x84 x85 = some res → zW p l e (headSpec (zw yX11_doing cX11_doing 6 (some .int)) ({ frames := 1, cells := 0, slots := 0, locals := 22 } : Room)).room s m args below meth c E 6 (MQ below (zQc E res.2 (some (.int res.1))) args s 0 0 (zfr E)) 0 0 10 [(0, .ref (zB E + w83)), (1, .int x84), (2, .int x85)] [] h86 := by
    intro h86 w83 x84 x85 hf
    unfold F_X11_doing_J10 at hf
    refine zr_iconst (v := 1) C dX11_doing_10 (by decide) ?_
    refine zr_goto (tgt := 15) C dX11_doing_11 (by decide) ?_
    exact J15 h86 w83 x84 x85 (1 : Int32) hf
  refine zr_iload_n C dX11_doing_0 rfl 1 rfl ?_
  refine zr_iconst (v := 1) C dX11_doing_1 (by decide) ?_
  refine zr_icmp_eq (tgt := 10) C hf dX11_doing_2 (by decide) (fun hf => ?_) (fun hf => ?_)
  · exact J10 h a0 p0 p1 hf
  · refine zr_iload_n C dX11_doing_5 rfl 1 rfl ?_
    refine zr_iconst (v := 2) C dX11_doing_6 (by decide) ?_
    refine zr_icmp_ne (tgt := 14) C hf dX11_doing_7 (by decide) (fun hf => ?_) (fun hf => ?_)
    · refine zr_iconst (v := 0) C dX11_doing_14 (by decide) ?_
      exact J15 h a0 p0 p1 (0 : Int32) hf
    · exact J10 h a0 p0 p1 hf
theorem dX11_isDoing_0 : decode cX11_isDoing 0 = .ok (.iload_n 1, 1) := by decide +kernel
theorem dX11_isDoing_1 : decode cX11_isDoing 1 = .ok (.iconst 0, 1) := by decide +kernel
theorem dX11_isDoing_2 : decode cX11_isDoing 2 = .ok (.aload_n 0, 1) := by decide +kernel
theorem dX11_isDoing_3 : decode cX11_isDoing 3 = .ok (.getfield 161, 3) := by decide +kernel
theorem dX11_isDoing_6 : decode cX11_isDoing 6 = .ok (.iconst 1, 1) := by decide +kernel
theorem dX11_isDoing_7 : decode cX11_isDoing 7 = .ok (.isub, 1) := by decide +kernel
theorem dX11_isDoing_8 : decode cX11_isDoing 8 = .ok (.invokestatic 111, 3) := by decide +kernel
theorem dX11_isDoing_11 : decode cX11_isDoing 11 = .ok (.ireturn, 1) := by decide +kernel
set_option maxHeartbeats 4000000 in
set_option maxRecDepth 100000 in
theorem c_X11_isDoing (l : Launch) (E : zE) (n : Nat) (h : zH) (a0 : Nat) (p0 : Int32) (res : Int32 × zH) (hf : F_X11_isDoing n h a0 p0 = some res) : Met l yX11_isDoing (zw yX11_isDoing cX11_isDoing 2 (some .boolean)) ({ frames := 1, cells := 0, slots := 0, locals := 22 } : Room) (zPc E h [.ref (zB E + a0), .int p0]) (zQc E res.2 (some (.int res.1))) 0 0 (zfr E) := by
  refine zmet (lo := [(0, .ref (zB E + a0)), (1, .int p0)]) (by decide +kernel) (Nat.le_of_ble_eq_true rfl) rfl ?_
  intro p e s m args below meth c C hr hin
  unfold F_X11_isDoing at hf
  refine zr_iload_n C dX11_isDoing_0 rfl 1 rfl ?_
  refine zr_iconst (v := 0) C dX11_isDoing_1 (by decide) ?_
  refine zr_aload_n C dX11_isDoing_2 rfl 0 rfl ?_
  refine zr_gi C hf kg_X11_161 (fun _ _ _ => rfl) dX11_isDoing_3 (fun x1 hf => ?_)
  refine zr_iconst (v := 1) C dX11_isDoing_6 (by decide) ?_
  refine zr_isub C hf dX11_isDoing_7 (fun x2 hf => ?_)
  refine zr_callSi (As := [.int p0, .int (0 : Int32), .int x2]) (rest := []) C hf (fun x hx => c_X11_within l E n h p0 (0 : Int32) x2 x hx) ks_X11_111 rfl rfl (Nat.le_of_ble_eq_true rfl) ⟨rfl, rfl⟩ ⟨Nat.le_of_ble_eq_true rfl, Nat.le_of_ble_eq_true rfl⟩ ⟨Nat.le_of_ble_eq_true rfl, Nat.le_of_ble_eq_true rfl⟩ dX11_isDoing_8 (fun x4 h3 hf => ?_)
  exact zr_zreturn C hf hr (Nat.le_of_ble_eq_true rfl) (Nat.le_of_ble_eq_true rfl) dX11_isDoing_11
theorem dX11_as_0 : decode cX11_as 0 = .ok (.aload_n 0, 1) := by decide +kernel
theorem dX11_as_1 : decode cX11_as 1 = .ok (.iload_n 1, 1) := by decide +kernel
theorem dX11_as_2 : decode cX11_as 2 = .ok (.invokevirtual 164, 3) := by decide +kernel
theorem dX11_as_5 : decode cX11_as 5 = .ok (.ifCond .ne 6, 3) := by decide +kernel
theorem dX11_as_8 : decode cX11_as 8 = .ok (.bipush (-101), 2) := by decide +kernel
theorem dX11_as_10 : decode cX11_as 10 = .ok (.ireturn, 1) := by decide +kernel
theorem dX11_as_11 : decode cX11_as 11 = .ok (.iload_n 2, 1) := by decide +kernel
theorem dX11_as_12 : decode cX11_as 12 = .ok (.iconst 0, 1) := by decide +kernel
theorem dX11_as_13 : decode cX11_as 13 = .ok (.iconst 4, 1) := by decide +kernel
theorem dX11_as_14 : decode cX11_as 14 = .ok (.invokestatic 111, 3) := by decide +kernel
theorem dX11_as_17 : decode cX11_as 17 = .ok (.ifCond .ne 6, 3) := by decide +kernel
theorem dX11_as_20 : decode cX11_as 20 = .ok (.bipush (-102), 2) := by decide +kernel
theorem dX11_as_22 : decode cX11_as 22 = .ok (.ireturn, 1) := by decide +kernel
theorem dX11_as_23 : decode cX11_as 23 = .ok (.aload_n 0, 1) := by decide +kernel
theorem dX11_as_24 : decode cX11_as 24 = .ok (.getfield 19, 3) := by decide +kernel
theorem dX11_as_27 : decode cX11_as 27 = .ok (.iload_n 1, 1) := by decide +kernel
theorem dX11_as_28 : decode cX11_as 28 = .ok (.iaload, 1) := by decide +kernel
theorem dX11_as_29 : decode cX11_as 29 = .ok (.istore_n 3, 1) := by decide +kernel
theorem dX11_as_30 : decode cX11_as 30 = .ok (.iload_n 2, 1) := by decide +kernel
theorem dX11_as_31 : decode cX11_as 31 = .ok (.ifCond .eq 18, 3) := by decide +kernel
theorem dX11_as_34 : decode cX11_as 34 = .ok (.iload_n 3, 1) := by decide +kernel
theorem dX11_as_35 : decode cX11_as 35 = .ok (.iload_n 2, 1) := by decide +kernel
theorem dX11_as_36 : decode cX11_as 36 = .ok (.if_icmp .eq 13, 3) := by decide +kernel
theorem dX11_as_39 : decode cX11_as 39 = .ok (.iload_n 2, 1) := by decide +kernel
theorem dX11_as_40 : decode cX11_as 40 = .ok (.iconst 1, 1) := by decide +kernel
theorem dX11_as_41 : decode cX11_as 41 = .ok (.if_icmp .ne 12, 3) := by decide +kernel
theorem dX11_as_44 : decode cX11_as 44 = .ok (.iload_n 3, 1) := by decide +kernel
theorem dX11_as_45 : decode cX11_as 45 = .ok (.iconst 2, 1) := by decide +kernel
theorem dX11_as_46 : decode cX11_as 46 = .ok (.if_icmp .ne 7, 3) := by decide +kernel
theorem dX11_as_49 : decode cX11_as 49 = .ok (.iload_n 1, 1) := by decide +kernel
theorem dX11_as_50 : decode cX11_as 50 = .ok (.goto 4, 3) := by decide +kernel
theorem dX11_as_53 : decode cX11_as 53 = .ok (.iconst (-1), 1) := by decide +kernel
theorem dX11_as_54 : decode cX11_as 54 = .ok (.ireturn, 1) := by decide +kernel
set_option maxHeartbeats 4000000 in
set_option maxRecDepth 100000 in
theorem c_X11_as (l : Launch) (E : zE) (n : Nat) (h : zH) (a0 : Nat) (p0 : Int32) (p1 : Int32) (res : Int32 × zH) (hf : F_X11_as n h a0 p0 p1 = some res) : Met l yX11_as (zw yX11_as cX11_as 4 (some .int)) ({ frames := 2, cells := 0, slots := 0, locals := 43 } : Room) (zPc E h [.ref (zB E + a0), .int p0, .int p1]) (zQc E res.2 (some (.int res.1))) 0 0 (zfr E) := by
  refine zmet (lo := [(0, .ref (zB E + a0)), (1, .int p0), (2, .int p1)]) (by decide +kernel) (Nat.le_of_ble_eq_true rfl) rfl ?_
  intro p e s m args below meth c C hr hin
  unfold F_X11_as at hf
  have J54 : ∀ (h4 : zH) (x3 : Int32), F_X11_as_J54 n h4 x3 = some res → zW p l e (headSpec (zw yX11_as cX11_as 4 (some .int)) ({ frames := 2, cells := 0, slots := 0, locals := 43 } : Room)).room s m args below meth c E 4 (MQ below (zQc E res.2 (some (.int res.1))) args s 0 0 (zfr E)) 0 0 54 [] [.int x3] h4 := by
    intro h4 x3 hf
    unfold F_X11_as_J54 at hf
    exact zr_ireturn C hf hr (Nat.le_of_ble_eq_true rfl) (Nat.le_of_ble_eq_true rfl) dX11_as_54
  have J53 : ∀ (h6 : zH), F_X11_as_J53 n h6 = some res → zW p l e (headSpec (zw yX11_as cX11_as 4 (some .int)) ({ frames := 2, cells := 0, slots := 0, locals := 43 } : Room)).room s m args below meth c E 4 (MQ below (zQc E res.2 (some (.int res.1))) args s 0 0 (zfr E)) 0 0 53 [] [] h6 := by
    intro h6 hf
    unfold F_X11_as_J53 at hf
    refine zr_iconst (v := -1) C dX11_as_53 (by decide) ?_
    exact J54 h6 (-1 : Int32) hf
  have J49 : ∀ (h10 : zH) (x9 : Int32), F_X11_as_J49 n h10 x9 = some res → zW p l e (headSpec (zw yX11_as cX11_as 4 (some .int)) ({ frames := 2, cells := 0, slots := 0, locals := 43 } : Room)).room s m args below meth c E 4 (MQ below (zQc E res.2 (some (.int res.1))) args s 0 0 (zfr E)) 0 0 49 [(1, .int x9)] [] h10 := by
    intro h10 x9 hf
    unfold F_X11_as_J49 at hf
    refine zr_iload_n C dX11_as_49 rfl 0 rfl ?_
    refine zr_goto (tgt := 54) C dX11_as_50 (by decide) ?_
    refine zsub [] rfl ?_
    exact J54 h10 x9 hf
  refine zr_aload_n C dX11_as_0 rfl 0 rfl ?_
  refine zr_iload_n C dX11_as_1 rfl 1 rfl ?_
  refine zr_callVi (As := [.int p0]) (rest := []) C hf (fun x hx => c_X11_isDoing l E n h a0 p0 x hx) kv_X11_164 rfl rfl (Nat.le_of_ble_eq_true rfl) ⟨rfl, rfl⟩ ⟨Nat.le_of_ble_eq_true rfl, Nat.le_of_ble_eq_true rfl⟩ ⟨Nat.le_of_ble_eq_true rfl, Nat.le_of_ble_eq_true rfl⟩ dX11_as_2 (fun x12 h11 hf => ?_)
  refine zr_if_ne (tgt := 11) C hf dX11_as_5 (by decide) (fun hf => ?_) (fun hf => ?_)
  · refine zr_iload_n C dX11_as_11 rfl 2 rfl ?_
    refine zr_iconst (v := 0) C dX11_as_12 (by decide) ?_
    refine zr_iconst (v := 4) C dX11_as_13 (by decide) ?_
    refine zr_callSi (As := [.int p1, .int (0 : Int32), .int (4 : Int32)]) (rest := []) C hf (fun x hx => c_X11_within l E n h11 p1 (0 : Int32) (4 : Int32) x hx) ks_X11_111 rfl rfl (Nat.le_of_ble_eq_true rfl) ⟨rfl, rfl⟩ ⟨Nat.le_of_ble_eq_true rfl, Nat.le_of_ble_eq_true rfl⟩ ⟨Nat.le_of_ble_eq_true rfl, Nat.le_of_ble_eq_true rfl⟩ dX11_as_14 (fun x14 h13 hf => ?_)
    refine zr_if_ne (tgt := 23) C hf dX11_as_17 (by decide) (fun hf => ?_) (fun hf => ?_)
    · refine zr_aload_n C dX11_as_23 rfl 0 rfl ?_
      refine zr_gr C hf kg_X11_19 (fun _ _ _ => rfl) dX11_as_24 (fun w15 hf => ?_)
      refine zr_iload_n C dX11_as_27 rfl 1 rfl ?_
      refine zr_iaload C hf dX11_as_28 (fun x16 hf => ?_)
      refine zr_istore_n (lo2 := [(3, .int x16), (0, .ref (zB E + a0)), (1, .int p0), (2, .int p1)]) C dX11_as_29 rfl (by decide) rfl ?_
      refine zr_iload_n C dX11_as_30 rfl 3 rfl ?_
      refine zr_if_eq (tgt := 49) C hf dX11_as_31 (by decide) (fun hf => ?_) (fun hf => ?_)
      · refine zsub [2] rfl ?_
        exact J49 h13 p0 hf
      · refine zr_iload_n C dX11_as_34 rfl 0 rfl ?_
        refine zr_iload_n C dX11_as_35 rfl 3 rfl ?_
        refine zr_icmp_eq (tgt := 49) C hf dX11_as_36 (by decide) (fun hf => ?_) (fun hf => ?_)
        · refine zsub [2] rfl ?_
          exact J49 h13 p0 hf
        · refine zr_iload_n C dX11_as_39 rfl 3 rfl ?_
          refine zr_iconst (v := 1) C dX11_as_40 (by decide) ?_
          refine zr_icmp_ne (tgt := 53) C hf dX11_as_41 (by decide) (fun hf => ?_) (fun hf => ?_)
          · refine zsub [] rfl ?_
            exact J53 h13 hf
          · refine zr_iload_n C dX11_as_44 rfl 0 rfl ?_
            refine zr_iconst (v := 2) C dX11_as_45 (by decide) ?_
            refine zr_icmp_ne (tgt := 53) C hf dX11_as_46 (by decide) (fun hf => ?_) (fun hf => ?_)
            · refine zsub [] rfl ?_
              exact J53 h13 hf
            · refine zsub [2] rfl ?_
              exact J49 h13 p0 hf
    · refine zr_bipush (v := -102) C dX11_as_20 (by decide) ?_
      exact zr_ireturn C hf hr (Nat.le_of_ble_eq_true rfl) (Nat.le_of_ble_eq_true rfl) dX11_as_22
  · refine zr_bipush (v := -101) C dX11_as_8 (by decide) ?_
    exact zr_ireturn C hf hr (Nat.le_of_ble_eq_true rfl) (Nat.le_of_ble_eq_true rfl) dX11_as_10
theorem dX11_isRing_0 : decode cX11_isRing 0 = .ok (.aload_n 0, 1) := by decide +kernel
theorem dX11_isRing_1 : decode cX11_isRing 1 = .ok (.getfield 149, 3) := by decide +kernel
theorem dX11_isRing_4 : decode cX11_isRing 4 = .ok (.ifCond .eq 23, 3) := by decide +kernel
theorem dX11_isRing_7 : decode cX11_isRing 7 = .ok (.iload_n 1, 1) := by decide +kernel
theorem dX11_isRing_8 : decode cX11_isRing 8 = .ok (.iconst 0, 1) := by decide +kernel
theorem dX11_isRing_9 : decode cX11_isRing 9 = .ok (.aload_n 0, 1) := by decide +kernel
theorem dX11_isRing_10 : decode cX11_isRing 10 = .ok (.getfield 7, 3) := by decide +kernel
theorem dX11_isRing_13 : decode cX11_isRing 13 = .ok (.iconst 0, 1) := by decide +kernel
theorem dX11_isRing_14 : decode cX11_isRing 14 = .ok (.iaload, 1) := by decide +kernel
theorem dX11_isRing_15 : decode cX11_isRing 15 = .ok (.iconst 1, 1) := by decide +kernel
theorem dX11_isRing_16 : decode cX11_isRing 16 = .ok (.isub, 1) := by decide +kernel
theorem dX11_isRing_17 : decode cX11_isRing 17 = .ok (.invokestatic 111, 3) := by decide +kernel
theorem dX11_isRing_20 : decode cX11_isRing 20 = .ok (.ifCond .eq 7, 3) := by decide +kernel
theorem dX11_isRing_23 : decode cX11_isRing 23 = .ok (.iconst 1, 1) := by decide +kernel
theorem dX11_isRing_24 : decode cX11_isRing 24 = .ok (.goto 4, 3) := by decide +kernel
theorem dX11_isRing_27 : decode cX11_isRing 27 = .ok (.iconst 0, 1) := by decide +kernel
theorem dX11_isRing_28 : decode cX11_isRing 28 = .ok (.ireturn, 1) := by decide +kernel
set_option maxHeartbeats 4000000 in
set_option maxRecDepth 100000 in
theorem c_X11_isRing (l : Launch) (E : zE) (n : Nat) (h : zH) (a0 : Nat) (p0 : Int32) (res : Int32 × zH) (hf : F_X11_isRing n h a0 p0 = some res) : Met l yX11_isRing (zw yX11_isRing cX11_isRing 2 (some .boolean)) ({ frames := 1, cells := 0, slots := 0, locals := 22 } : Room) (zPc E h [.ref (zB E + a0), .int p0]) (zQc E res.2 (some (.int res.1))) 0 0 (zfr E) := by
  refine zmet (lo := [(0, .ref (zB E + a0)), (1, .int p0)]) (by decide +kernel) (Nat.le_of_ble_eq_true rfl) rfl ?_
  intro p e s m args below meth c C hr hin
  unfold F_X11_isRing at hf
  have J28 : ∀ (h4 : zH) (x3 : Int32), F_X11_isRing_J28 n h4 x3 = some res → zW p l e (headSpec (zw yX11_isRing cX11_isRing 2 (some .boolean)) ({ frames := 1, cells := 0, slots := 0, locals := 22 } : Room)).room s m args below meth c E 2 (MQ below (zQc E res.2 (some (.int res.1))) args s 0 0 (zfr E)) 0 0 28 [] [.int x3] h4 := by
    intro h4 x3 hf
    unfold F_X11_isRing_J28 at hf
    exact zr_zreturn C hf hr (Nat.le_of_ble_eq_true rfl) (Nat.le_of_ble_eq_true rfl) dX11_isRing_28
  have J27 : ∀ (h6 : zH), F_X11_isRing_J27 n h6 = some res → zW p l e (headSpec (zw yX11_isRing cX11_isRing 2 (some .boolean)) ({ frames := 1, cells := 0, slots := 0, locals := 22 } : Room)).room s m args below meth c E 2 (MQ below (zQc E res.2 (some (.int res.1))) args s 0 0 (zfr E)) 0 0 27 [] [] h6 := by
    intro h6 hf
    unfold F_X11_isRing_J27 at hf
    refine zr_iconst (v := 0) C dX11_isRing_27 (by decide) ?_
    exact J28 h6 (0 : Int32) hf
  refine zr_aload_n C dX11_isRing_0 rfl 0 rfl ?_
  refine zr_gi C hf kg_X11_149 (fun _ _ _ => rfl) dX11_isRing_1 (fun x7 hf => ?_)
  refine zr_if_eq (tgt := 27) C hf dX11_isRing_4 (by decide) (fun hf => ?_) (fun hf => ?_)
  · refine zsub [] rfl ?_
    exact J27 h hf
  · refine zr_iload_n C dX11_isRing_7 rfl 1 rfl ?_
    refine zr_iconst (v := 0) C dX11_isRing_8 (by decide) ?_
    refine zr_aload_n C dX11_isRing_9 rfl 0 rfl ?_
    refine zr_gr C hf kg_X11_7 (fun _ _ _ => rfl) dX11_isRing_10 (fun w8 hf => ?_)
    refine zr_iconst (v := 0) C dX11_isRing_13 (by decide) ?_
    refine zr_iaload C hf dX11_isRing_14 (fun x9 hf => ?_)
    refine zr_iconst (v := 1) C dX11_isRing_15 (by decide) ?_
    refine zr_isub C hf dX11_isRing_16 (fun x10 hf => ?_)
    refine zr_callSi (As := [.int p0, .int (0 : Int32), .int x10]) (rest := []) C hf (fun x hx => c_X11_within l E n h p0 (0 : Int32) x10 x hx) ks_X11_111 rfl rfl (Nat.le_of_ble_eq_true rfl) ⟨rfl, rfl⟩ ⟨Nat.le_of_ble_eq_true rfl, Nat.le_of_ble_eq_true rfl⟩ ⟨Nat.le_of_ble_eq_true rfl, Nat.le_of_ble_eq_true rfl⟩ dX11_isRing_17 (fun x12 h11 hf => ?_)
    refine zr_if_eq (tgt := 27) C hf dX11_isRing_20 (by decide) (fun hf => ?_) (fun hf => ?_)
    · refine zsub [] rfl ?_
      exact J27 h11 hf
    · refine zr_iconst (v := 1) C dX11_isRing_23 (by decide) ?_
      refine zr_goto (tgt := 28) C dX11_isRing_24 (by decide) ?_
      refine zsub [] rfl ?_
      exact J28 h11 (1 : Int32) hf
theorem dX11_isLeaf_0 : decode cX11_isLeaf 0 = .ok (.iload_n 1, 1) := by decide +kernel
theorem dX11_isLeaf_1 : decode cX11_isLeaf 1 = .ok (.iconst 0, 1) := by decide +kernel
theorem dX11_isLeaf_2 : decode cX11_isLeaf 2 = .ok (.aload_n 0, 1) := by decide +kernel
theorem dX11_isLeaf_3 : decode cX11_isLeaf 3 = .ok (.getfield 146, 3) := by decide +kernel
theorem dX11_isLeaf_6 : decode cX11_isLeaf 6 = .ok (.iconst 1, 1) := by decide +kernel
theorem dX11_isLeaf_7 : decode cX11_isLeaf 7 = .ok (.isub, 1) := by decide +kernel
theorem dX11_isLeaf_8 : decode cX11_isLeaf 8 = .ok (.invokestatic 111, 3) := by decide +kernel
theorem dX11_isLeaf_11 : decode cX11_isLeaf 11 = .ok (.ireturn, 1) := by decide +kernel
set_option maxHeartbeats 4000000 in
set_option maxRecDepth 100000 in
theorem c_X11_isLeaf (l : Launch) (E : zE) (n : Nat) (h : zH) (a0 : Nat) (p0 : Int32) (res : Int32 × zH) (hf : F_X11_isLeaf n h a0 p0 = some res) : Met l yX11_isLeaf (zw yX11_isLeaf cX11_isLeaf 2 (some .boolean)) ({ frames := 1, cells := 0, slots := 0, locals := 22 } : Room) (zPc E h [.ref (zB E + a0), .int p0]) (zQc E res.2 (some (.int res.1))) 0 0 (zfr E) := by
  refine zmet (lo := [(0, .ref (zB E + a0)), (1, .int p0)]) (by decide +kernel) (Nat.le_of_ble_eq_true rfl) rfl ?_
  intro p e s m args below meth c C hr hin
  unfold F_X11_isLeaf at hf
  refine zr_iload_n C dX11_isLeaf_0 rfl 1 rfl ?_
  refine zr_iconst (v := 0) C dX11_isLeaf_1 (by decide) ?_
  refine zr_aload_n C dX11_isLeaf_2 rfl 0 rfl ?_
  refine zr_gi C hf kg_X11_146 (fun _ _ _ => rfl) dX11_isLeaf_3 (fun x1 hf => ?_)
  refine zr_iconst (v := 1) C dX11_isLeaf_6 (by decide) ?_
  refine zr_isub C hf dX11_isLeaf_7 (fun x2 hf => ?_)
  refine zr_callSi (As := [.int p0, .int (0 : Int32), .int x2]) (rest := []) C hf (fun x hx => c_X11_within l E n h p0 (0 : Int32) x2 x hx) ks_X11_111 rfl rfl (Nat.le_of_ble_eq_true rfl) ⟨rfl, rfl⟩ ⟨Nat.le_of_ble_eq_true rfl, Nat.le_of_ble_eq_true rfl⟩ ⟨Nat.le_of_ble_eq_true rfl, Nat.le_of_ble_eq_true rfl⟩ dX11_isLeaf_8 (fun x4 h3 hf => ?_)
  exact zr_zreturn C hf hr (Nat.le_of_ble_eq_true rfl) (Nat.le_of_ble_eq_true rfl) dX11_isLeaf_11
theorem dX11_leaf_0 : decode cX11_leaf 0 = .ok (.aload_n 0, 1) := by decide +kernel
theorem dX11_leaf_1 : decode cX11_leaf 1 = .ok (.iload_n 1, 1) := by decide +kernel
theorem dX11_leaf_2 : decode cX11_leaf 2 = .ok (.invokevirtual 167, 3) := by decide +kernel
theorem dX11_leaf_5 : decode cX11_leaf 5 = .ok (.ifCond .ne 6, 3) := by decide +kernel
theorem dX11_leaf_8 : decode cX11_leaf 8 = .ok (.bipush (-101), 2) := by decide +kernel
theorem dX11_leaf_10 : decode cX11_leaf 10 = .ok (.ireturn, 1) := by decide +kernel
theorem dX11_leaf_11 : decode cX11_leaf 11 = .ok (.iload_n 2, 1) := by decide +kernel
theorem dX11_leaf_12 : decode cX11_leaf 12 = .ok (.iconst 0, 1) := by decide +kernel
theorem dX11_leaf_13 : decode cX11_leaf 13 = .ok (.bipush 9, 2) := by decide +kernel
theorem dX11_leaf_15 : decode cX11_leaf 15 = .ok (.invokestatic 111, 3) := by decide +kernel
theorem dX11_leaf_18 : decode cX11_leaf 18 = .ok (.ifCond .eq 13, 3) := by decide +kernel
theorem dX11_leaf_21 : decode cX11_leaf 21 = .ok (.iload_n 3, 1) := by decide +kernel
theorem dX11_leaf_22 : decode cX11_leaf 22 = .ok (.iconst 0, 1) := by decide +kernel
theorem dX11_leaf_23 : decode cX11_leaf 23 = .ok (.bipush 9, 2) := by decide +kernel
theorem dX11_leaf_25 : decode cX11_leaf 25 = .ok (.invokestatic 111, 3) := by decide +kernel
theorem dX11_leaf_28 : decode cX11_leaf 28 = .ok (.ifCond .ne 6, 3) := by decide +kernel
theorem dX11_leaf_31 : decode cX11_leaf 31 = .ok (.bipush (-102), 2) := by decide +kernel
theorem dX11_leaf_33 : decode cX11_leaf 33 = .ok (.ireturn, 1) := by decide +kernel
theorem dX11_leaf_34 : decode cX11_leaf 34 = .ok (.aload_n 0, 1) := by decide +kernel
theorem dX11_leaf_35 : decode cX11_leaf 35 = .ok (.getfield 146, 3) := by decide +kernel
theorem dX11_leaf_38 : decode cX11_leaf 38 = .ok (.bipush 8, 2) := by decide +kernel
theorem dX11_leaf_40 : decode cX11_leaf 40 = .ok (.if_icmp .ne 6, 3) := by decide +kernel
theorem dX11_leaf_43 : decode cX11_leaf 43 = .ok (.bipush (-104), 2) := by decide +kernel
theorem dX11_leaf_45 : decode cX11_leaf 45 = .ok (.ireturn, 1) := by decide +kernel
theorem dX11_leaf_46 : decode cX11_leaf 46 = .ok (.aload_n 0, 1) := by decide +kernel
theorem dX11_leaf_47 : decode cX11_leaf 47 = .ok (.getfield 25, 3) := by decide +kernel
theorem dX11_leaf_50 : decode cX11_leaf 50 = .ok (.aload_n 0, 1) := by decide +kernel
theorem dX11_leaf_51 : decode cX11_leaf 51 = .ok (.getfield 146, 3) := by decide +kernel
theorem dX11_leaf_54 : decode cX11_leaf 54 = .ok (.iload_n 1, 1) := by decide +kernel
theorem dX11_leaf_55 : decode cX11_leaf 55 = .ok (.iastore, 1) := by decide +kernel
theorem dX11_leaf_56 : decode cX11_leaf 56 = .ok (.aload_n 0, 1) := by decide +kernel
theorem dX11_leaf_57 : decode cX11_leaf 57 = .ok (.getfield 28, 3) := by decide +kernel
theorem dX11_leaf_60 : decode cX11_leaf 60 = .ok (.aload_n 0, 1) := by decide +kernel
theorem dX11_leaf_61 : decode cX11_leaf 61 = .ok (.getfield 146, 3) := by decide +kernel
theorem dX11_leaf_64 : decode cX11_leaf 64 = .ok (.iload_n 1, 1) := by decide +kernel
theorem dX11_leaf_65 : decode cX11_leaf 65 = .ok (.iastore, 1) := by decide +kernel
theorem dX11_leaf_66 : decode cX11_leaf 66 = .ok (.aload_n 0, 1) := by decide +kernel
theorem dX11_leaf_67 : decode cX11_leaf 67 = .ok (.getfield 31, 3) := by decide +kernel
theorem dX11_leaf_70 : decode cX11_leaf 70 = .ok (.aload_n 0, 1) := by decide +kernel
theorem dX11_leaf_71 : decode cX11_leaf 71 = .ok (.getfield 146, 3) := by decide +kernel
theorem dX11_leaf_74 : decode cX11_leaf 74 = .ok (.iload_n 2, 1) := by decide +kernel
theorem dX11_leaf_75 : decode cX11_leaf 75 = .ok (.iastore, 1) := by decide +kernel
theorem dX11_leaf_76 : decode cX11_leaf 76 = .ok (.aload_n 0, 1) := by decide +kernel
theorem dX11_leaf_77 : decode cX11_leaf 77 = .ok (.getfield 34, 3) := by decide +kernel
theorem dX11_leaf_80 : decode cX11_leaf 80 = .ok (.aload_n 0, 1) := by decide +kernel
theorem dX11_leaf_81 : decode cX11_leaf 81 = .ok (.getfield 146, 3) := by decide +kernel
theorem dX11_leaf_84 : decode cX11_leaf 84 = .ok (.iload_n 3, 1) := by decide +kernel
theorem dX11_leaf_85 : decode cX11_leaf 85 = .ok (.iastore, 1) := by decide +kernel
theorem dX11_leaf_86 : decode cX11_leaf 86 = .ok (.aload_n 0, 1) := by decide +kernel
theorem dX11_leaf_87 : decode cX11_leaf 87 = .ok (.getfield 37, 3) := by decide +kernel
theorem dX11_leaf_90 : decode cX11_leaf 90 = .ok (.aload_n 0, 1) := by decide +kernel
theorem dX11_leaf_91 : decode cX11_leaf 91 = .ok (.getfield 146, 3) := by decide +kernel
theorem dX11_leaf_94 : decode cX11_leaf 94 = .ok (.iconst (-1), 1) := by decide +kernel
theorem dX11_leaf_95 : decode cX11_leaf 95 = .ok (.iastore, 1) := by decide +kernel
theorem dX11_leaf_96 : decode cX11_leaf 96 = .ok (.aload_n 0, 1) := by decide +kernel
theorem dX11_leaf_97 : decode cX11_leaf 97 = .ok (.dup, 1) := by decide +kernel
theorem dX11_leaf_98 : decode cX11_leaf 98 = .ok (.getfield 146, 3) := by decide +kernel
theorem dX11_leaf_101 : decode cX11_leaf 101 = .ok (.iconst 1, 1) := by decide +kernel
theorem dX11_leaf_102 : decode cX11_leaf 102 = .ok (.iadd, 1) := by decide +kernel
theorem dX11_leaf_103 : decode cX11_leaf 103 = .ok (.putfield 146, 3) := by decide +kernel
theorem dX11_leaf_106 : decode cX11_leaf 106 = .ok (.aload_n 0, 1) := by decide +kernel
theorem dX11_leaf_107 : decode cX11_leaf 107 = .ok (.getfield 146, 3) := by decide +kernel
theorem dX11_leaf_110 : decode cX11_leaf 110 = .ok (.iconst 1, 1) := by decide +kernel
theorem dX11_leaf_111 : decode cX11_leaf 111 = .ok (.isub, 1) := by decide +kernel
theorem dX11_leaf_112 : decode cX11_leaf 112 = .ok (.ireturn, 1) := by decide +kernel
set_option maxHeartbeats 4000000 in
set_option maxRecDepth 100000 in
theorem c_X11_leaf (l : Launch) (E : zE) (n : Nat) (h : zH) (a0 : Nat) (p0 : Int32) (p1 : Int32) (p2 : Int32) (res : Int32 × zH) (hf : F_X11_leaf n h a0 p0 p1 p2 = some res) : Met l yX11_leaf (zw yX11_leaf cX11_leaf 4 (some .int)) ({ frames := 2, cells := 0, slots := 0, locals := 43 } : Room) (zPc E h [.ref (zB E + a0), .int p0, .int p1, .int p2]) (zQc E res.2 (some (.int res.1))) 0 0 (zfr E) := by
  refine zmet (lo := [(0, .ref (zB E + a0)), (1, .int p0), (2, .int p1), (3, .int p2)]) (by decide +kernel) (Nat.le_of_ble_eq_true rfl) rfl ?_
  intro p e s m args below meth c C hr hin
  unfold F_X11_leaf at hf
  have J31 : ∀ (h2 : zH), F_X11_leaf_J31 n h2 = some res → zW p l e (headSpec (zw yX11_leaf cX11_leaf 4 (some .int)) ({ frames := 2, cells := 0, slots := 0, locals := 43 } : Room)).room s m args below meth c E 4 (MQ below (zQc E res.2 (some (.int res.1))) args s 0 0 (zfr E)) 0 0 31 [] [] h2 := by
    intro h2 hf
    unfold F_X11_leaf_J31 at hf
    refine zr_bipush (v := -102) C dX11_leaf_31 (by decide) ?_
    exact zr_ireturn C hf hr (Nat.le_of_ble_eq_true rfl) (Nat.le_of_ble_eq_true rfl) dX11_leaf_33
  refine zr_aload_n C dX11_leaf_0 rfl 0 rfl ?_
  refine zr_iload_n C dX11_leaf_1 rfl 1 rfl ?_
  refine zr_callVi (As := [.int p0]) (rest := []) C hf (fun x hx => c_X11_isRing l E n h a0 p0 x hx) kv_X11_167 rfl rfl (Nat.le_of_ble_eq_true rfl) ⟨rfl, rfl⟩ ⟨Nat.le_of_ble_eq_true rfl, Nat.le_of_ble_eq_true rfl⟩ ⟨Nat.le_of_ble_eq_true rfl, Nat.le_of_ble_eq_true rfl⟩ dX11_leaf_2 (fun x4 h3 hf => ?_)
  refine zr_if_ne (tgt := 11) C hf dX11_leaf_5 (by decide) (fun hf => ?_) (fun hf => ?_)
  · refine zr_iload_n C dX11_leaf_11 rfl 2 rfl ?_
    refine zr_iconst (v := 0) C dX11_leaf_12 (by decide) ?_
    refine zr_bipush (v := 9) C dX11_leaf_13 (by decide) ?_
    refine zr_callSi (As := [.int p1, .int (0 : Int32), .int (9 : Int32)]) (rest := []) C hf (fun x hx => c_X11_within l E n h3 p1 (0 : Int32) (9 : Int32) x hx) ks_X11_111 rfl rfl (Nat.le_of_ble_eq_true rfl) ⟨rfl, rfl⟩ ⟨Nat.le_of_ble_eq_true rfl, Nat.le_of_ble_eq_true rfl⟩ ⟨Nat.le_of_ble_eq_true rfl, Nat.le_of_ble_eq_true rfl⟩ dX11_leaf_15 (fun x6 h5 hf => ?_)
    refine zr_if_eq (tgt := 31) C hf dX11_leaf_18 (by decide) (fun hf => ?_) (fun hf => ?_)
    · refine zsub [] rfl ?_
      exact J31 h5 hf
    · refine zr_iload_n C dX11_leaf_21 rfl 3 rfl ?_
      refine zr_iconst (v := 0) C dX11_leaf_22 (by decide) ?_
      refine zr_bipush (v := 9) C dX11_leaf_23 (by decide) ?_
      refine zr_callSi (As := [.int p2, .int (0 : Int32), .int (9 : Int32)]) (rest := []) C hf (fun x hx => c_X11_within l E n h5 p2 (0 : Int32) (9 : Int32) x hx) ks_X11_111 rfl rfl (Nat.le_of_ble_eq_true rfl) ⟨rfl, rfl⟩ ⟨Nat.le_of_ble_eq_true rfl, Nat.le_of_ble_eq_true rfl⟩ ⟨Nat.le_of_ble_eq_true rfl, Nat.le_of_ble_eq_true rfl⟩ dX11_leaf_25 (fun x8 h7 hf => ?_)
      refine zr_if_ne (tgt := 34) C hf dX11_leaf_28 (by decide) (fun hf => ?_) (fun hf => ?_)
      · refine zr_aload_n C dX11_leaf_34 rfl 0 rfl ?_
        refine zr_gi C hf kg_X11_146 (fun _ _ _ => rfl) dX11_leaf_35 (fun x9 hf => ?_)
        refine zr_bipush (v := 8) C dX11_leaf_38 (by decide) ?_
        refine zr_icmp_ne (tgt := 46) C hf dX11_leaf_40 (by decide) (fun hf => ?_) (fun hf => ?_)
        · refine zr_aload_n C dX11_leaf_46 rfl 0 rfl ?_
          refine zr_gr C hf kg_X11_25 (fun _ _ _ => rfl) dX11_leaf_47 (fun w10 hf => ?_)
          refine zr_aload_n C dX11_leaf_50 rfl 0 rfl ?_
          refine zr_gi C hf kg_X11_146 (fun _ _ _ => rfl) dX11_leaf_51 (fun x11 hf => ?_)
          refine zr_iload_n C dX11_leaf_54 rfl 1 rfl ?_
          refine zr_iastore C hf dX11_leaf_55 (fun h12 hf => ?_)
          refine zr_aload_n C dX11_leaf_56 rfl 0 rfl ?_
          refine zr_gr C hf kg_X11_28 (fun _ _ _ => rfl) dX11_leaf_57 (fun w13 hf => ?_)
          refine zr_aload_n C dX11_leaf_60 rfl 0 rfl ?_
          refine zr_gi C hf kg_X11_146 (fun _ _ _ => rfl) dX11_leaf_61 (fun x14 hf => ?_)
          refine zr_iload_n C dX11_leaf_64 rfl 1 rfl ?_
          refine zr_iastore C hf dX11_leaf_65 (fun h15 hf => ?_)
          refine zr_aload_n C dX11_leaf_66 rfl 0 rfl ?_
          refine zr_gr C hf kg_X11_31 (fun _ _ _ => rfl) dX11_leaf_67 (fun w16 hf => ?_)
          refine zr_aload_n C dX11_leaf_70 rfl 0 rfl ?_
          refine zr_gi C hf kg_X11_146 (fun _ _ _ => rfl) dX11_leaf_71 (fun x17 hf => ?_)
          refine zr_iload_n C dX11_leaf_74 rfl 2 rfl ?_
          refine zr_iastore C hf dX11_leaf_75 (fun h18 hf => ?_)
          refine zr_aload_n C dX11_leaf_76 rfl 0 rfl ?_
          refine zr_gr C hf kg_X11_34 (fun _ _ _ => rfl) dX11_leaf_77 (fun w19 hf => ?_)
          refine zr_aload_n C dX11_leaf_80 rfl 0 rfl ?_
          refine zr_gi C hf kg_X11_146 (fun _ _ _ => rfl) dX11_leaf_81 (fun x20 hf => ?_)
          refine zr_iload_n C dX11_leaf_84 rfl 3 rfl ?_
          refine zr_iastore C hf dX11_leaf_85 (fun h21 hf => ?_)
          refine zr_aload_n C dX11_leaf_86 rfl 0 rfl ?_
          refine zr_gr C hf kg_X11_37 (fun _ _ _ => rfl) dX11_leaf_87 (fun w22 hf => ?_)
          refine zr_aload_n C dX11_leaf_90 rfl 0 rfl ?_
          refine zr_gi C hf kg_X11_146 (fun _ _ _ => rfl) dX11_leaf_91 (fun x23 hf => ?_)
          refine zr_iconst (v := -1) C dX11_leaf_94 (by decide) ?_
          refine zr_iastore C hf dX11_leaf_95 (fun h24 hf => ?_)
          refine zr_aload_n C dX11_leaf_96 rfl 0 rfl ?_
          refine zr_dup C dX11_leaf_97 rfl ?_
          refine zr_gi C hf kg_X11_146 (fun _ _ _ => rfl) dX11_leaf_98 (fun x25 hf => ?_)
          refine zr_iconst (v := 1) C dX11_leaf_101 (by decide) ?_
          refine zr_iadd C hf dX11_leaf_102 (fun x26 hf => ?_)
          refine zr_si C hf kp_X11_146 (fun _ _ _ => rfl) rfl dX11_leaf_103 (fun h27 hf => ?_)
          refine zr_aload_n C dX11_leaf_106 rfl 0 rfl ?_
          refine zr_gi C hf kg_X11_146 (fun _ _ _ => rfl) dX11_leaf_107 (fun x28 hf => ?_)
          refine zr_iconst (v := 1) C dX11_leaf_110 (by decide) ?_
          refine zr_isub C hf dX11_leaf_111 (fun x29 hf => ?_)
          exact zr_ireturn C hf hr (Nat.le_of_ble_eq_true rfl) (Nat.le_of_ble_eq_true rfl) dX11_leaf_112
        · refine zr_bipush (v := -104) C dX11_leaf_43 (by decide) ?_
          exact zr_ireturn C hf hr (Nat.le_of_ble_eq_true rfl) (Nat.le_of_ble_eq_true rfl) dX11_leaf_45
      · refine zsub [] rfl ?_
        exact J31 h7 hf
  · refine zr_bipush (v := -101) C dX11_leaf_8 (by decide) ?_
    exact zr_ireturn C hf hr (Nat.le_of_ble_eq_true rfl) (Nat.le_of_ble_eq_true rfl) dX11_leaf_10
theorem dX11_loadLive_0 : decode cX11_loadLive 0 = .ok (.iconst 0, 1) := by decide +kernel
theorem dX11_loadLive_1 : decode cX11_loadLive 1 = .ok (.istore_n 1, 1) := by decide +kernel
theorem dX11_loadLive_2 : decode cX11_loadLive 2 = .ok (.iload_n 1, 1) := by decide +kernel
theorem dX11_loadLive_3 : decode cX11_loadLive 3 = .ok (.bipush 24, 2) := by decide +kernel
theorem dX11_loadLive_5 : decode cX11_loadLive 5 = .ok (.if_icmp .ge 21, 3) := by decide +kernel
theorem dX11_loadLive_8 : decode cX11_loadLive 8 = .ok (.aload_n 0, 1) := by decide +kernel
theorem dX11_loadLive_9 : decode cX11_loadLive 9 = .ok (.getfield 16, 3) := by decide +kernel
theorem dX11_loadLive_12 : decode cX11_loadLive 12 = .ok (.iload_n 1, 1) := by decide +kernel
theorem dX11_loadLive_13 : decode cX11_loadLive 13 = .ok (.aload_n 0, 1) := by decide +kernel
theorem dX11_loadLive_14 : decode cX11_loadLive 14 = .ok (.getfield 13, 3) := by decide +kernel
theorem dX11_loadLive_17 : decode cX11_loadLive 17 = .ok (.iload_n 1, 1) := by decide +kernel
theorem dX11_loadLive_18 : decode cX11_loadLive 18 = .ok (.iaload, 1) := by decide +kernel
theorem dX11_loadLive_19 : decode cX11_loadLive 19 = .ok (.iastore, 1) := by decide +kernel
theorem dX11_loadLive_20 : decode cX11_loadLive 20 = .ok (.iinc 1 1, 3) := by decide +kernel
theorem dX11_loadLive_23 : decode cX11_loadLive 23 = .ok (.goto (-21), 3) := by decide +kernel
theorem dX11_loadLive_26 : decode cX11_loadLive 26 = .ok (.return_, 1) := by decide +kernel
set_option maxHeartbeats 4000000 in
set_option maxRecDepth 100000 in
theorem c_X11_loadLive (l : Launch) (E : zE) (n : Nat) (h : zH) (a0 : Nat) (res : Unit × zH) (hf : F_X11_loadLive n h a0 = some res) : Met l yX11_loadLive (zw yX11_loadLive cX11_loadLive 2 none) ({ frames := 0, cells := 0, slots := 0, locals := 0 } : Room) (zPc E h [.ref (zB E + a0)]) (zQc E res.2 none) 0 0 (zfr E) := by
  refine zmet (lo := [(0, .ref (zB E + a0))]) (by decide +kernel) (Nat.le_of_ble_eq_true rfl) rfl ?_
  intro p e s m args below meth c C hr hin
  unfold F_X11_loadLive at hf
  refine zr_iconst (v := 0) C dX11_loadLive_0 (by decide) ?_
  refine zr_istore_n (lo2 := [(1, .int (0 : Int32)), (0, .ref (zB E + a0))]) C dX11_loadLive_1 rfl (by decide) rfl ?_
  have L2 : ∀ (fu : Nat) (x : zH × Int32), zloop (fun kc x => F_X11_loadLive_B2 n kc x.1 a0 x.2) fu x = some res → zW p l e (headSpec (zw yX11_loadLive cX11_loadLive 2 none) ({ frames := 0, cells := 0, slots := 0, locals := 0 } : Room)).room s m args below meth c E 2 (MQ below (zQc E res.2 none) args s 0 0 (zfr E)) 0 0 2 [(0, .ref (zB E + a0)), (1, .int x.2)] [] x.1 := by
    refine z_loop _ ?_
    intro kc2 hk2 x hf
    obtain ⟨h10, x9⟩ := x
    dsimp only at hf ⊢
    unfold F_X11_loadLive_B2 at hf
    refine zr_iload_n C dX11_loadLive_2 rfl 1 rfl ?_
    refine zr_bipush (v := 24) C dX11_loadLive_3 (by decide) ?_
    refine zr_icmp_ge (tgt := 26) C hf dX11_loadLive_5 (by decide) (fun hf => ?_) (fun hf => ?_)
    · exact zr_return C hf hr (Nat.le_of_ble_eq_true rfl) (Nat.le_of_ble_eq_true rfl) dX11_loadLive_26
    · refine zr_aload_n C dX11_loadLive_8 rfl 0 rfl ?_
      refine zr_gr C hf kg_X11_16 (fun _ _ _ => rfl) dX11_loadLive_9 (fun w11 hf => ?_)
      refine zr_iload_n C dX11_loadLive_12 rfl 1 rfl ?_
      refine zr_aload_n C dX11_loadLive_13 rfl 0 rfl ?_
      refine zr_gr C hf kg_X11_13 (fun _ _ _ => rfl) dX11_loadLive_14 (fun w12 hf => ?_)
      refine zr_iload_n C dX11_loadLive_17 rfl 1 rfl ?_
      refine zr_iaload C hf dX11_loadLive_18 (fun x13 hf => ?_)
      refine zr_iastore C hf dX11_loadLive_19 (fun h14 hf => ?_)
      refine zr_iinc (v0 := 1) (k := 1) (f := fun v => [(1, .int v), (0, .ref (zB E + a0))]) C hf (by decide) dX11_loadLive_20 rfl (by decide) (fun v => rfl) (fun x15 hf => ?_)
      refine zr_goto (tgt := 2) C dX11_loadLive_23 (by decide) ?_
      refine zsub [1, 0] rfl ?_
      exact hk2 (h14, x15) hf
  refine zsub [1, 0] rfl ?_
  exact L2 n (h, (0 : Int32)) hf
theorem dX11_loadStill_0 : decode cX11_loadStill 0 = .ok (.iconst 0, 1) := by decide +kernel
theorem dX11_loadStill_1 : decode cX11_loadStill 1 = .ok (.istore_n 1, 1) := by decide +kernel
theorem dX11_loadStill_2 : decode cX11_loadStill 2 = .ok (.iload_n 1, 1) := by decide +kernel
theorem dX11_loadStill_3 : decode cX11_loadStill 3 = .ok (.bipush 24, 2) := by decide +kernel
theorem dX11_loadStill_5 : decode cX11_loadStill 5 = .ok (.if_icmp .ge 16, 3) := by decide +kernel
theorem dX11_loadStill_8 : decode cX11_loadStill 8 = .ok (.aload_n 0, 1) := by decide +kernel
theorem dX11_loadStill_9 : decode cX11_loadStill 9 = .ok (.getfield 16, 3) := by decide +kernel
theorem dX11_loadStill_12 : decode cX11_loadStill 12 = .ok (.iload_n 1, 1) := by decide +kernel
theorem dX11_loadStill_13 : decode cX11_loadStill 13 = .ok (.iconst 0, 1) := by decide +kernel
theorem dX11_loadStill_14 : decode cX11_loadStill 14 = .ok (.iastore, 1) := by decide +kernel
theorem dX11_loadStill_15 : decode cX11_loadStill 15 = .ok (.iinc 1 1, 3) := by decide +kernel
theorem dX11_loadStill_18 : decode cX11_loadStill 18 = .ok (.goto (-16), 3) := by decide +kernel
theorem dX11_loadStill_21 : decode cX11_loadStill 21 = .ok (.return_, 1) := by decide +kernel
set_option maxHeartbeats 4000000 in
set_option maxRecDepth 100000 in
theorem c_X11_loadStill (l : Launch) (E : zE) (n : Nat) (h : zH) (a0 : Nat) (res : Unit × zH) (hf : F_X11_loadStill n h a0 = some res) : Met l yX11_loadStill (zw yX11_loadStill cX11_loadStill 2 none) ({ frames := 0, cells := 0, slots := 0, locals := 0 } : Room) (zPc E h [.ref (zB E + a0)]) (zQc E res.2 none) 0 0 (zfr E) := by
  refine zmet (lo := [(0, .ref (zB E + a0))]) (by decide +kernel) (Nat.le_of_ble_eq_true rfl) rfl ?_
  intro p e s m args below meth c C hr hin
  unfold F_X11_loadStill at hf
  refine zr_iconst (v := 0) C dX11_loadStill_0 (by decide) ?_
  refine zr_istore_n (lo2 := [(1, .int (0 : Int32)), (0, .ref (zB E + a0))]) C dX11_loadStill_1 rfl (by decide) rfl ?_
  have L2 : ∀ (fu : Nat) (x : zH × Int32), zloop (fun kc x => F_X11_loadStill_B2 n kc x.1 a0 x.2) fu x = some res → zW p l e (headSpec (zw yX11_loadStill cX11_loadStill 2 none) ({ frames := 0, cells := 0, slots := 0, locals := 0 } : Room)).room s m args below meth c E 2 (MQ below (zQc E res.2 none) args s 0 0 (zfr E)) 0 0 2 [(0, .ref (zB E + a0)), (1, .int x.2)] [] x.1 := by
    refine z_loop _ ?_
    intro kc2 hk2 x hf
    obtain ⟨h8, x7⟩ := x
    dsimp only at hf ⊢
    unfold F_X11_loadStill_B2 at hf
    refine zr_iload_n C dX11_loadStill_2 rfl 1 rfl ?_
    refine zr_bipush (v := 24) C dX11_loadStill_3 (by decide) ?_
    refine zr_icmp_ge (tgt := 21) C hf dX11_loadStill_5 (by decide) (fun hf => ?_) (fun hf => ?_)
    · exact zr_return C hf hr (Nat.le_of_ble_eq_true rfl) (Nat.le_of_ble_eq_true rfl) dX11_loadStill_21
    · refine zr_aload_n C dX11_loadStill_8 rfl 0 rfl ?_
      refine zr_gr C hf kg_X11_16 (fun _ _ _ => rfl) dX11_loadStill_9 (fun w9 hf => ?_)
      refine zr_iload_n C dX11_loadStill_12 rfl 1 rfl ?_
      refine zr_iconst (v := 0) C dX11_loadStill_13 (by decide) ?_
      refine zr_iastore C hf dX11_loadStill_14 (fun h10 hf => ?_)
      refine zr_iinc (v0 := 1) (k := 1) (f := fun v => [(1, .int v), (0, .ref (zB E + a0))]) C hf (by decide) dX11_loadStill_15 rfl (by decide) (fun v => rfl) (fun x11 hf => ?_)
      refine zr_goto (tgt := 2) C dX11_loadStill_18 (by decide) ?_
      refine zsub [1, 0] rfl ?_
      exact hk2 (h10, x11) hf
  refine zsub [1, 0] rfl ?_
  exact L2 n (h, (0 : Int32)) hf
theorem dX11_bounded_0 : decode cX11_bounded 0 = .ok (.iload_n 1, 1) := by decide +kernel
theorem dX11_bounded_1 : decode cX11_bounded 1 = .ok (.bipush 99, 2) := by decide +kernel
theorem dX11_bounded_3 : decode cX11_bounded 3 = .ok (.if_icmp .le 8, 3) := by decide +kernel
theorem dX11_bounded_6 : decode cX11_bounded 6 = .ok (.bipush 99, 2) := by decide +kernel
theorem dX11_bounded_8 : decode cX11_bounded 8 = .ok (.goto 15, 3) := by decide +kernel
theorem dX11_bounded_11 : decode cX11_bounded 11 = .ok (.iload_n 1, 1) := by decide +kernel
theorem dX11_bounded_12 : decode cX11_bounded 12 = .ok (.bipush (-99), 2) := by decide +kernel
theorem dX11_bounded_14 : decode cX11_bounded 14 = .ok (.if_icmp .ge 8, 3) := by decide +kernel
theorem dX11_bounded_17 : decode cX11_bounded 17 = .ok (.bipush (-99), 2) := by decide +kernel
theorem dX11_bounded_19 : decode cX11_bounded 19 = .ok (.goto 4, 3) := by decide +kernel
theorem dX11_bounded_22 : decode cX11_bounded 22 = .ok (.iload_n 1, 1) := by decide +kernel
theorem dX11_bounded_23 : decode cX11_bounded 23 = .ok (.ireturn, 1) := by decide +kernel
set_option maxHeartbeats 4000000 in
set_option maxRecDepth 100000 in
theorem c_X11_bounded (l : Launch) (E : zE) (n : Nat) (h : zH) (a0 : Nat) (p0 : Int32) (res : Int32 × zH) (hf : F_X11_bounded n h a0 p0 = some res) : Met l yX11_bounded (zw yX11_bounded cX11_bounded 2 (some .int)) ({ frames := 0, cells := 0, slots := 0, locals := 0 } : Room) (zPc E h [.ref (zB E + a0), .int p0]) (zQc E res.2 (some (.int res.1))) 0 0 (zfr E) := by
  refine zmet (lo := [(0, .ref (zB E + a0)), (1, .int p0)]) (by decide +kernel) (Nat.le_of_ble_eq_true rfl) rfl ?_
  intro p e s m args below meth c C hr hin
  unfold F_X11_bounded at hf
  have J23 : ∀ (h4 : zH) (x3 : Int32), F_X11_bounded_J23 n h4 x3 = some res → zW p l e (headSpec (zw yX11_bounded cX11_bounded 2 (some .int)) ({ frames := 0, cells := 0, slots := 0, locals := 0 } : Room)).room s m args below meth c E 2 (MQ below (zQc E res.2 (some (.int res.1))) args s 0 0 (zfr E)) 0 0 23 [] [.int x3] h4 := by
    intro h4 x3 hf
    unfold F_X11_bounded_J23 at hf
    exact zr_ireturn C hf hr (Nat.le_of_ble_eq_true rfl) (Nat.le_of_ble_eq_true rfl) dX11_bounded_23
  refine zr_iload_n C dX11_bounded_0 rfl 1 rfl ?_
  refine zr_bipush (v := 99) C dX11_bounded_1 (by decide) ?_
  refine zr_icmp_le (tgt := 11) C hf dX11_bounded_3 (by decide) (fun hf => ?_) (fun hf => ?_)
  · refine zr_iload_n C dX11_bounded_11 rfl 1 rfl ?_
    refine zr_bipush (v := -99) C dX11_bounded_12 (by decide) ?_
    refine zr_icmp_ge (tgt := 22) C hf dX11_bounded_14 (by decide) (fun hf => ?_) (fun hf => ?_)
    · refine zr_iload_n C dX11_bounded_22 rfl 1 rfl ?_
      refine zsub [] rfl ?_
      exact J23 h p0 hf
    · refine zr_bipush (v := -99) C dX11_bounded_17 (by decide) ?_
      refine zr_goto (tgt := 23) C dX11_bounded_19 (by decide) ?_
      refine zsub [] rfl ?_
      exact J23 h (-99 : Int32) hf
  · refine zr_bipush (v := 99) C dX11_bounded_6 (by decide) ?_
    refine zr_goto (tgt := 23) C dX11_bounded_8 (by decide) ?_
    refine zsub [] rfl ?_
    exact J23 h (99 : Int32) hf
theorem dX11_stir_0 : decode cX11_stir 0 = .ok (.iconst 0, 1) := by decide +kernel
theorem dX11_stir_1 : decode cX11_stir 1 = .ok (.istore_n 3, 1) := by decide +kernel
theorem dX11_stir_2 : decode cX11_stir 2 = .ok (.iload_n 3, 1) := by decide +kernel
theorem dX11_stir_3 : decode cX11_stir 3 = .ok (.aload_n 0, 1) := by decide +kernel
theorem dX11_stir_4 : decode cX11_stir 4 = .ok (.getfield 7, 3) := by decide +kernel
theorem dX11_stir_7 : decode cX11_stir 7 = .ok (.iconst 0, 1) := by decide +kernel
theorem dX11_stir_8 : decode cX11_stir 8 = .ok (.iaload, 1) := by decide +kernel
theorem dX11_stir_9 : decode cX11_stir 9 = .ok (.if_icmp .ge 80, 3) := by decide +kernel
theorem dX11_stir_12 : decode cX11_stir 12 = .ok (.iconst 1, 1) := by decide +kernel
theorem dX11_stir_13 : decode cX11_stir 13 = .ok (.istore 4, 2) := by decide +kernel
theorem dX11_stir_15 : decode cX11_stir 15 = .ok (.iload 4, 2) := by decide +kernel
theorem dX11_stir_17 : decode cX11_stir 17 = .ok (.aload_n 0, 1) := by decide +kernel
theorem dX11_stir_18 : decode cX11_stir 18 = .ok (.getfield 7, 3) := by decide +kernel
theorem dX11_stir_21 : decode cX11_stir 21 = .ok (.iconst 1, 1) := by decide +kernel
theorem dX11_stir_22 : decode cX11_stir 22 = .ok (.iaload, 1) := by decide +kernel
theorem dX11_stir_23 : decode cX11_stir 23 = .ok (.if_icmp .ge 60, 3) := by decide +kernel
theorem dX11_stir_26 : decode cX11_stir 26 = .ok (.iload_n 1, 1) := by decide +kernel
theorem dX11_stir_27 : decode cX11_stir 27 = .ok (.iconst 1, 1) := by decide +kernel
theorem dX11_stir_28 : decode cX11_stir 28 = .ok (.if_icmp .ne 7, 3) := by decide +kernel
theorem dX11_stir_31 : decode cX11_stir 31 = .ok (.iload_n 2, 1) := by decide +kernel
theorem dX11_stir_32 : decode cX11_stir 32 = .ok (.goto 14, 3) := by decide +kernel
theorem dX11_stir_35 : decode cX11_stir 35 = .ok (.iload_n 1, 1) := by decide +kernel
theorem dX11_stir_36 : decode cX11_stir 36 = .ok (.iconst 2, 1) := by decide +kernel
theorem dX11_stir_37 : decode cX11_stir 37 = .ok (.if_icmp .ne 8, 3) := by decide +kernel
theorem dX11_stir_40 : decode cX11_stir 40 = .ok (.iload_n 2, 1) := by decide +kernel
theorem dX11_stir_41 : decode cX11_stir 41 = .ok (.ineg, 1) := by decide +kernel
theorem dX11_stir_42 : decode cX11_stir 42 = .ok (.goto 4, 3) := by decide +kernel
theorem dX11_stir_45 : decode cX11_stir 45 = .ok (.iconst 0, 1) := by decide +kernel
theorem dX11_stir_46 : decode cX11_stir 46 = .ok (.istore 5, 2) := by decide +kernel
theorem dX11_stir_48 : decode cX11_stir 48 = .ok (.aload_n 0, 1) := by decide +kernel
theorem dX11_stir_49 : decode cX11_stir 49 = .ok (.getfield 16, 3) := by decide +kernel
theorem dX11_stir_52 : decode cX11_stir 52 = .ok (.iconst 4, 1) := by decide +kernel
theorem dX11_stir_53 : decode cX11_stir 53 = .ok (.iload_n 3, 1) := by decide +kernel
theorem dX11_stir_54 : decode cX11_stir 54 = .ok (.imul, 1) := by decide +kernel
theorem dX11_stir_55 : decode cX11_stir 55 = .ok (.iload 4, 2) := by decide +kernel
theorem dX11_stir_57 : decode cX11_stir 57 = .ok (.iadd, 1) := by decide +kernel
theorem dX11_stir_58 : decode cX11_stir 58 = .ok (.aload_n 0, 1) := by decide +kernel
theorem dX11_stir_59 : decode cX11_stir 59 = .ok (.aload_n 0, 1) := by decide +kernel
theorem dX11_stir_60 : decode cX11_stir 60 = .ok (.getfield 16, 3) := by decide +kernel
theorem dX11_stir_63 : decode cX11_stir 63 = .ok (.iconst 4, 1) := by decide +kernel
theorem dX11_stir_64 : decode cX11_stir 64 = .ok (.iload_n 3, 1) := by decide +kernel
theorem dX11_stir_65 : decode cX11_stir 65 = .ok (.imul, 1) := by decide +kernel
theorem dX11_stir_66 : decode cX11_stir 66 = .ok (.iload 4, 2) := by decide +kernel
theorem dX11_stir_68 : decode cX11_stir 68 = .ok (.iadd, 1) := by decide +kernel
theorem dX11_stir_69 : decode cX11_stir 69 = .ok (.iaload, 1) := by decide +kernel
theorem dX11_stir_70 : decode cX11_stir 70 = .ok (.iload 5, 2) := by decide +kernel
theorem dX11_stir_72 : decode cX11_stir 72 = .ok (.iadd, 1) := by decide +kernel
theorem dX11_stir_73 : decode cX11_stir 73 = .ok (.invokevirtual 170, 3) := by decide +kernel
theorem dX11_stir_76 : decode cX11_stir 76 = .ok (.iastore, 1) := by decide +kernel
theorem dX11_stir_77 : decode cX11_stir 77 = .ok (.iinc 4 1, 3) := by decide +kernel
theorem dX11_stir_80 : decode cX11_stir 80 = .ok (.goto (-65), 3) := by decide +kernel
theorem dX11_stir_83 : decode cX11_stir 83 = .ok (.iinc 3 1, 3) := by decide +kernel
theorem dX11_stir_86 : decode cX11_stir 86 = .ok (.goto (-84), 3) := by decide +kernel
theorem dX11_stir_89 : decode cX11_stir 89 = .ok (.iconst 0, 1) := by decide +kernel
theorem dX11_stir_90 : decode cX11_stir 90 = .ok (.istore_n 3, 1) := by decide +kernel
theorem dX11_stir_91 : decode cX11_stir 91 = .ok (.iload_n 3, 1) := by decide +kernel
theorem dX11_stir_92 : decode cX11_stir 92 = .ok (.aload_n 0, 1) := by decide +kernel
theorem dX11_stir_93 : decode cX11_stir 93 = .ok (.getfield 7, 3) := by decide +kernel
theorem dX11_stir_96 : decode cX11_stir 96 = .ok (.iconst 1, 1) := by decide +kernel
theorem dX11_stir_97 : decode cX11_stir 97 = .ok (.iaload, 1) := by decide +kernel
theorem dX11_stir_98 : decode cX11_stir 98 = .ok (.if_icmp .ge 24, 3) := by decide +kernel
theorem dX11_stir_101 : decode cX11_stir 101 = .ok (.iload_n 1, 1) := by decide +kernel
theorem dX11_stir_102 : decode cX11_stir 102 = .ok (.iconst 4, 1) := by decide +kernel
theorem dX11_stir_103 : decode cX11_stir 103 = .ok (.if_icmp .ne 19, 3) := by decide +kernel
theorem dX11_stir_106 : decode cX11_stir 106 = .ok (.aload_n 0, 1) := by decide +kernel
theorem dX11_stir_107 : decode cX11_stir 107 = .ok (.getfield 16, 3) := by decide +kernel
theorem dX11_stir_110 : decode cX11_stir 110 = .ok (.iload_n 3, 1) := by decide +kernel
theorem dX11_stir_111 : decode cX11_stir 111 = .ok (.dup2, 1) := by decide +kernel
theorem dX11_stir_112 : decode cX11_stir 112 = .ok (.iaload, 1) := by decide +kernel
theorem dX11_stir_113 : decode cX11_stir 113 = .ok (.iconst 2, 1) := by decide +kernel
theorem dX11_stir_114 : decode cX11_stir 114 = .ok (.idiv, 1) := by decide +kernel
theorem dX11_stir_115 : decode cX11_stir 115 = .ok (.iastore, 1) := by decide +kernel
theorem dX11_stir_116 : decode cX11_stir 116 = .ok (.iinc 3 1, 3) := by decide +kernel
theorem dX11_stir_119 : decode cX11_stir 119 = .ok (.goto (-28), 3) := by decide +kernel
theorem dX11_stir_122 : decode cX11_stir 122 = .ok (.return_, 1) := by decide +kernel
set_option maxHeartbeats 4000000 in
set_option maxRecDepth 100000 in
theorem c_X11_stir (l : Launch) (E : zE) (n : Nat) (h : zH) (a0 : Nat) (p0 : Int32) (p1 : Int32) (res : Unit × zH) (hf : F_X11_stir n h a0 p0 p1 = some res) : Met l yX11_stir (zw yX11_stir cX11_stir 6 none) ({ frames := 1, cells := 0, slots := 0, locals := 21 } : Room) (zPc E h [.ref (zB E + a0), .int p0, .int p1]) (zQc E res.2 none) 0 0 (zfr E) := by
  refine zmet (lo := [(0, .ref (zB E + a0)), (1, .int p0), (2, .int p1)]) (by decide +kernel) (Nat.le_of_ble_eq_true rfl) rfl ?_
  intro p e s m args below meth c C hr hin
  unfold F_X11_stir at hf
  have J122 : ∀ (h2 : zH), F_X11_stir_J122 n h2 = some res → zW p l e (headSpec (zw yX11_stir cX11_stir 6 none) ({ frames := 1, cells := 0, slots := 0, locals := 21 } : Room)).room s m args below meth c E 6 (MQ below (zQc E res.2 none) args s 0 0 (zfr E)) 0 0 122 [] [] h2 := by
    intro h2 hf
    unfold F_X11_stir_J122 at hf
    exact zr_return C hf hr (Nat.le_of_ble_eq_true rfl) (Nat.le_of_ble_eq_true rfl) dX11_stir_122
  refine zr_iconst (v := 0) C dX11_stir_0 (by decide) ?_
  refine zr_istore_n (lo2 := [(3, .int (0 : Int32)), (0, .ref (zB E + a0)), (1, .int p0), (2, .int p1)]) C dX11_stir_1 rfl (by decide) rfl ?_
  have L2 : ∀ (fu : Nat) (x : zH × Int32), zloop (fun kc x => F_X11_stir_B2 n kc x.1 a0 p0 p1 x.2) fu x = some res → zW p l e (headSpec (zw yX11_stir cX11_stir 6 none) ({ frames := 1, cells := 0, slots := 0, locals := 21 } : Room)).room s m args below meth c E 6 (MQ below (zQc E res.2 none) args s 0 0 (zfr E)) 0 0 2 [(0, .ref (zB E + a0)), (1, .int p0), (2, .int p1), (3, .int x.2)] [] x.1 := by
    refine z_loop _ ?_
    intro kc2 hk2 x hf
    obtain ⟨h81, x80⟩ := x
    dsimp only at hf ⊢
    unfold F_X11_stir_B2 at hf
    refine zr_iload_n C dX11_stir_2 rfl 3 rfl ?_
    refine zr_aload_n C dX11_stir_3 rfl 0 rfl ?_
    refine zr_gr C hf kg_X11_7 (fun _ _ _ => rfl) dX11_stir_4 (fun w82 hf => ?_)
    refine zr_iconst (v := 0) C dX11_stir_7 (by decide) ?_
    refine zr_iaload C hf dX11_stir_8 (fun x83 hf => ?_)
    refine zr_icmp_ge (tgt := 89) C hf dX11_stir_9 (by decide) (fun hf => ?_) (fun hf => ?_)
    · refine zr_iconst (v := 0) C dX11_stir_89 (by decide) ?_
      refine zr_istore_n (lo2 := [(3, .int (0 : Int32)), (0, .ref (zB E + a0)), (1, .int p0), (2, .int p1)]) C dX11_stir_90 rfl (by decide) rfl ?_
      have L91 : ∀ (fu : Nat) (x : zH × Int32), zloop (fun kc x => F_X11_stir_B91 n kc x.1 a0 p0 x.2) fu x = some res → zW p l e (headSpec (zw yX11_stir cX11_stir 6 none) ({ frames := 1, cells := 0, slots := 0, locals := 21 } : Room)).room s m args below meth c E 6 (MQ below (zQc E res.2 none) args s 0 0 (zfr E)) 0 0 91 [(0, .ref (zB E + a0)), (1, .int p0), (3, .int x.2)] [] x.1 := by
        refine z_loop _ ?_
        intro kc91 hk91 x hf
        obtain ⟨h85, x84⟩ := x
        dsimp only at hf ⊢
        unfold F_X11_stir_B91 at hf
        refine zr_iload_n C dX11_stir_91 rfl 2 rfl ?_
        refine zr_aload_n C dX11_stir_92 rfl 0 rfl ?_
        refine zr_gr C hf kg_X11_7 (fun _ _ _ => rfl) dX11_stir_93 (fun w86 hf => ?_)
        refine zr_iconst (v := 1) C dX11_stir_96 (by decide) ?_
        refine zr_iaload C hf dX11_stir_97 (fun x87 hf => ?_)
        refine zr_icmp_ge (tgt := 122) C hf dX11_stir_98 (by decide) (fun hf => ?_) (fun hf => ?_)
        · refine zsub [] rfl ?_
          exact J122 h85 hf
        · refine zr_iload_n C dX11_stir_101 rfl 1 rfl ?_
          refine zr_iconst (v := 4) C dX11_stir_102 (by decide) ?_
          refine zr_icmp_ne (tgt := 122) C hf dX11_stir_103 (by decide) (fun hf => ?_) (fun hf => ?_)
          · refine zsub [] rfl ?_
            exact J122 h85 hf
          · refine zr_aload_n C dX11_stir_106 rfl 0 rfl ?_
            refine zr_gr C hf kg_X11_16 (fun _ _ _ => rfl) dX11_stir_107 (fun w88 hf => ?_)
            refine zr_iload_n C dX11_stir_110 rfl 2 rfl ?_
            refine zr_dup2 C dX11_stir_111 rfl rfl ?_
            refine zr_iaload C hf dX11_stir_112 (fun x89 hf => ?_)
            refine zr_iconst (v := 2) C dX11_stir_113 (by decide) ?_
            refine zr_idiv C hf dX11_stir_114 (fun x90 hf => ?_)
            refine zr_iastore C hf dX11_stir_115 (fun h91 hf => ?_)
            refine zr_iinc (v0 := 1) (k := 2) (f := fun v => [(3, .int v), (0, .ref (zB E + a0)), (1, .int p0)]) C hf (by decide) dX11_stir_116 rfl (by decide) (fun v => rfl) (fun x92 hf => ?_)
            refine zr_goto (tgt := 91) C dX11_stir_119 (by decide) ?_
            refine zsub [1, 2, 0] rfl ?_
            exact hk91 (h91, x92) hf
      refine zsub [1, 2, 0] rfl ?_
      exact L91 n (h81, (0 : Int32)) hf
    · refine zr_iconst (v := 1) C dX11_stir_12 (by decide) ?_
      refine zr_istore (lo2 := [(4, .int (1 : Int32)), (0, .ref (zB E + a0)), (1, .int p0), (2, .int p1), (3, .int x80)]) C dX11_stir_13 (by decide) rfl ?_
      have L15 : ∀ (fu : Nat) (x : zH × Int32), zloop (fun kc x => F_X11_stir_B15 n kc2 kc x.1 a0 p0 p1 x80 x.2) fu x = some res → zW p l e (headSpec (zw yX11_stir cX11_stir 6 none) ({ frames := 1, cells := 0, slots := 0, locals := 21 } : Room)).room s m args below meth c E 6 (MQ below (zQc E res.2 none) args s 0 0 (zfr E)) 0 0 15 [(0, .ref (zB E + a0)), (1, .int p0), (2, .int p1), (3, .int x80), (4, .int x.2)] [] x.1 := by
        refine z_loop _ ?_
        intro kc15 hk15 x hf
        obtain ⟨h94, x93⟩ := x
        dsimp only at hf ⊢
        unfold F_X11_stir_B15 at hf
        have J46 : ∀ (h97 : zH) (x95 : Int32) (x96 : Int32), F_X11_stir_J46 n kc2 kc15 h97 a0 p0 p1 x80 x95 x96 = some res → zW p l e (headSpec (zw yX11_stir cX11_stir 6 none) ({ frames := 1, cells := 0, slots := 0, locals := 21 } : Room)).room s m args below meth c E 6 (MQ below (zQc E res.2 none) args s 0 0 (zfr E)) 0 0 46 [(0, .ref (zB E + a0)), (1, .int p0), (2, .int p1), (3, .int x80), (4, .int x95)] [.int x96] h97 := by
          intro h97 x95 x96 hf
          unfold F_X11_stir_J46 at hf
          refine zr_istore (lo2 := [(5, .int x96), (0, .ref (zB E + a0)), (1, .int p0), (2, .int p1), (3, .int x80), (4, .int x95)]) C dX11_stir_46 (by decide) rfl ?_
          refine zr_aload_n C dX11_stir_48 rfl 1 rfl ?_
          refine zr_gr C hf kg_X11_16 (fun _ _ _ => rfl) dX11_stir_49 (fun w98 hf => ?_)
          refine zr_iconst (v := 4) C dX11_stir_52 (by decide) ?_
          refine zr_iload_n C dX11_stir_53 rfl 4 rfl ?_
          refine zr_imul C hf dX11_stir_54 (fun x99 hf => ?_)
          refine zr_iload C dX11_stir_55 5 rfl ?_
          refine zr_iadd C hf dX11_stir_57 (fun x100 hf => ?_)
          refine zr_aload_n C dX11_stir_58 rfl 1 rfl ?_
          refine zr_aload_n C dX11_stir_59 rfl 1 rfl ?_
          refine zr_gr C hf kg_X11_16 (fun _ _ _ => rfl) dX11_stir_60 (fun w101 hf => ?_)
          refine zr_iconst (v := 4) C dX11_stir_63 (by decide) ?_
          refine zr_iload_n C dX11_stir_64 rfl 4 rfl ?_
          refine zr_imul C hf dX11_stir_65 (fun x102 hf => ?_)
          refine zr_iload C dX11_stir_66 5 rfl ?_
          refine zr_iadd C hf dX11_stir_68 (fun x103 hf => ?_)
          refine zr_iaload C hf dX11_stir_69 (fun x104 hf => ?_)
          refine zr_iload C dX11_stir_70 0 rfl ?_
          refine zr_iadd C hf dX11_stir_72 (fun x105 hf => ?_)
          refine zr_callVi (As := [.int x105]) (rest := [.int x100, .ref (zB E + w98)]) C hf (fun x hx => c_X11_bounded l E n h97 a0 x105 x hx) kv_X11_170 rfl rfl (Nat.le_of_ble_eq_true rfl) ⟨rfl, rfl⟩ ⟨Nat.le_of_ble_eq_true rfl, Nat.le_of_ble_eq_true rfl⟩ ⟨Nat.le_of_ble_eq_true rfl, Nat.le_of_ble_eq_true rfl⟩ dX11_stir_73 (fun x107 h106 hf => ?_)
          refine zr_iastore C hf dX11_stir_76 (fun h108 hf => ?_)
          refine zr_iinc (v0 := 1) (k := 5) (f := fun v => [(4, .int v), (5, .int x96), (0, .ref (zB E + a0)), (1, .int p0), (2, .int p1), (3, .int x80)]) C hf (by decide) dX11_stir_77 rfl (by decide) (fun v => rfl) (fun x109 hf => ?_)
          refine zr_goto (tgt := 15) C dX11_stir_80 (by decide) ?_
          refine zsub [2, 3, 4, 5, 0] rfl ?_
          exact hk15 (h108, x109) hf
        refine zr_iload C dX11_stir_15 4 rfl ?_
        refine zr_aload_n C dX11_stir_17 rfl 0 rfl ?_
        refine zr_gr C hf kg_X11_7 (fun _ _ _ => rfl) dX11_stir_18 (fun w110 hf => ?_)
        refine zr_iconst (v := 1) C dX11_stir_21 (by decide) ?_
        refine zr_iaload C hf dX11_stir_22 (fun x111 hf => ?_)
        refine zr_icmp_ge (tgt := 83) C hf dX11_stir_23 (by decide) (fun hf => ?_) (fun hf => ?_)
        · refine zr_iinc (v0 := 1) (k := 3) (f := fun v => [(3, .int v), (0, .ref (zB E + a0)), (1, .int p0), (2, .int p1), (4, .int x93)]) C hf (by decide) dX11_stir_83 rfl (by decide) (fun v => rfl) (fun x112 hf => ?_)
          refine zr_goto (tgt := 2) C dX11_stir_86 (by decide) ?_
          refine zsub [1, 2, 3, 0] rfl ?_
          exact hk2 (h94, x112) hf
        · refine zr_iload_n C dX11_stir_26 rfl 1 rfl ?_
          refine zr_iconst (v := 1) C dX11_stir_27 (by decide) ?_
          refine zr_icmp_ne (tgt := 35) C hf dX11_stir_28 (by decide) (fun hf => ?_) (fun hf => ?_)
          · refine zr_iload_n C dX11_stir_35 rfl 1 rfl ?_
            refine zr_iconst (v := 2) C dX11_stir_36 (by decide) ?_
            refine zr_icmp_ne (tgt := 45) C hf dX11_stir_37 (by decide) (fun hf => ?_) (fun hf => ?_)
            · refine zr_iconst (v := 0) C dX11_stir_45 (by decide) ?_
              exact J46 h94 x93 (0 : Int32) hf
            · refine zr_iload_n C dX11_stir_40 rfl 2 rfl ?_
              refine zr_ineg C hf dX11_stir_41 (fun x113 hf => ?_)
              refine zr_goto (tgt := 46) C dX11_stir_42 (by decide) ?_
              exact J46 h94 x93 x113 hf
          · refine zr_iload_n C dX11_stir_31 rfl 2 rfl ?_
            refine zr_goto (tgt := 46) C dX11_stir_32 (by decide) ?_
            exact J46 h94 x93 p1 hf
      refine zsub [1, 2, 3, 4, 0] rfl ?_
      exact L15 n (h81, (1 : Int32)) hf
  refine zsub [1, 2, 3, 0] rfl ?_
  exact L2 n (h, (0 : Int32)) hf
theorem dX11_dragTo_0 : decode cX11_dragTo 0 = .ok (.aload_n 0, 1) := by decide +kernel
theorem dX11_dragTo_1 : decode cX11_dragTo 1 = .ok (.getfield 16, 3) := by decide +kernel
theorem dX11_dragTo_4 : decode cX11_dragTo 4 = .ok (.iload_n 1, 1) := by decide +kernel
theorem dX11_dragTo_5 : decode cX11_dragTo 5 = .ok (.iload_n 2, 1) := by decide +kernel
theorem dX11_dragTo_6 : decode cX11_dragTo 6 = .ok (.aload_n 0, 1) := by decide +kernel
theorem dX11_dragTo_7 : decode cX11_dragTo 7 = .ok (.getfield 16, 3) := by decide +kernel
theorem dX11_dragTo_10 : decode cX11_dragTo 10 = .ok (.iload_n 1, 1) := by decide +kernel
theorem dX11_dragTo_11 : decode cX11_dragTo 11 = .ok (.iaload, 1) := by decide +kernel
theorem dX11_dragTo_12 : decode cX11_dragTo 12 = .ok (.iload_n 2, 1) := by decide +kernel
theorem dX11_dragTo_13 : decode cX11_dragTo 13 = .ok (.isub, 1) := by decide +kernel
theorem dX11_dragTo_14 : decode cX11_dragTo 14 = .ok (.bipush 10, 2) := by decide +kernel
theorem dX11_dragTo_16 : decode cX11_dragTo 16 = .ok (.iload_n 3, 1) := by decide +kernel
theorem dX11_dragTo_17 : decode cX11_dragTo 17 = .ok (.isub, 1) := by decide +kernel
theorem dX11_dragTo_18 : decode cX11_dragTo 18 = .ok (.imul, 1) := by decide +kernel
theorem dX11_dragTo_19 : decode cX11_dragTo 19 = .ok (.bipush 10, 2) := by decide +kernel
theorem dX11_dragTo_21 : decode cX11_dragTo 21 = .ok (.idiv, 1) := by decide +kernel
theorem dX11_dragTo_22 : decode cX11_dragTo 22 = .ok (.iadd, 1) := by decide +kernel
theorem dX11_dragTo_23 : decode cX11_dragTo 23 = .ok (.iastore, 1) := by decide +kernel
theorem dX11_dragTo_24 : decode cX11_dragTo 24 = .ok (.return_, 1) := by decide +kernel
set_option maxHeartbeats 4000000 in
set_option maxRecDepth 100000 in
theorem c_X11_dragTo (l : Launch) (E : zE) (n : Nat) (h : zH) (a0 : Nat) (p0 : Int32) (p1 : Int32) (p2 : Int32) (res : Unit × zH) (hf : F_X11_dragTo n h a0 p0 p1 p2 = some res) : Met l yX11_dragTo (zw yX11_dragTo cX11_dragTo 4 none) ({ frames := 0, cells := 0, slots := 0, locals := 0 } : Room) (zPc E h [.ref (zB E + a0), .int p0, .int p1, .int p2]) (zQc E res.2 none) 0 0 (zfr E) := by
  refine zmet (lo := [(0, .ref (zB E + a0)), (1, .int p0), (2, .int p1), (3, .int p2)]) (by decide +kernel) (Nat.le_of_ble_eq_true rfl) rfl ?_
  intro p e s m args below meth c C hr hin
  unfold F_X11_dragTo at hf
  refine zr_aload_n C dX11_dragTo_0 rfl 0 rfl ?_
  refine zr_gr C hf kg_X11_16 (fun _ _ _ => rfl) dX11_dragTo_1 (fun w1 hf => ?_)
  refine zr_iload_n C dX11_dragTo_4 rfl 1 rfl ?_
  refine zr_iload_n C dX11_dragTo_5 rfl 2 rfl ?_
  refine zr_aload_n C dX11_dragTo_6 rfl 0 rfl ?_
  refine zr_gr C hf kg_X11_16 (fun _ _ _ => rfl) dX11_dragTo_7 (fun w2 hf => ?_)
  refine zr_iload_n C dX11_dragTo_10 rfl 1 rfl ?_
  refine zr_iaload C hf dX11_dragTo_11 (fun x3 hf => ?_)
  refine zr_iload_n C dX11_dragTo_12 rfl 2 rfl ?_
  refine zr_isub C hf dX11_dragTo_13 (fun x4 hf => ?_)
  refine zr_bipush (v := 10) C dX11_dragTo_14 (by decide) ?_
  refine zr_iload_n C dX11_dragTo_16 rfl 3 rfl ?_
  refine zr_isub C hf dX11_dragTo_17 (fun x5 hf => ?_)
  refine zr_imul C hf dX11_dragTo_18 (fun x6 hf => ?_)
  refine zr_bipush (v := 10) C dX11_dragTo_19 (by decide) ?_
  refine zr_idiv C hf dX11_dragTo_21 (fun x7 hf => ?_)
  refine zr_iadd C hf dX11_dragTo_22 (fun x8 hf => ?_)
  refine zr_iastore C hf dX11_dragTo_23 (fun h9 hf => ?_)
  exact zr_return C hf hr (Nat.le_of_ble_eq_true rfl) (Nat.le_of_ble_eq_true rfl) dX11_dragTo_24
theorem dX11_goTick_0 : decode cX11_goTick 0 = .ok (.aload_n 0, 1) := by decide +kernel
theorem dX11_goTick_1 : decode cX11_goTick 1 = .ok (.iload_n 1, 1) := by decide +kernel
theorem dX11_goTick_2 : decode cX11_goTick 2 = .ok (.iload_n 2, 1) := by decide +kernel
theorem dX11_goTick_3 : decode cX11_goTick 3 = .ok (.invokevirtual 174, 3) := by decide +kernel
theorem dX11_goTick_6 : decode cX11_goTick 6 = .ok (.iload_n 1, 1) := by decide +kernel
theorem dX11_goTick_7 : decode cX11_goTick 7 = .ok (.iconst 3, 1) := by decide +kernel
theorem dX11_goTick_8 : decode cX11_goTick 8 = .ok (.if_icmp .ne 7, 3) := by decide +kernel
theorem dX11_goTick_11 : decode cX11_goTick 11 = .ok (.iload_n 2, 1) := by decide +kernel
theorem dX11_goTick_12 : decode cX11_goTick 12 = .ok (.goto 4, 3) := by decide +kernel
theorem dX11_goTick_15 : decode cX11_goTick 15 = .ok (.iconst 0, 1) := by decide +kernel
theorem dX11_goTick_16 : decode cX11_goTick 16 = .ok (.istore_n 3, 1) := by decide +kernel
theorem dX11_goTick_17 : decode cX11_goTick 17 = .ok (.iconst 0, 1) := by decide +kernel
theorem dX11_goTick_18 : decode cX11_goTick 18 = .ok (.istore 4, 2) := by decide +kernel
theorem dX11_goTick_20 : decode cX11_goTick 20 = .ok (.iload 4, 2) := by decide +kernel
theorem dX11_goTick_22 : decode cX11_goTick 22 = .ok (.aload_n 0, 1) := by decide +kernel
theorem dX11_goTick_23 : decode cX11_goTick 23 = .ok (.getfield 7, 3) := by decide +kernel
theorem dX11_goTick_26 : decode cX11_goTick 26 = .ok (.iconst 0, 1) := by decide +kernel
theorem dX11_goTick_27 : decode cX11_goTick 27 = .ok (.iaload, 1) := by decide +kernel
theorem dX11_goTick_28 : decode cX11_goTick 28 = .ok (.if_icmp .ge 24, 3) := by decide +kernel
theorem dX11_goTick_31 : decode cX11_goTick 31 = .ok (.aload_n 0, 1) := by decide +kernel
theorem dX11_goTick_32 : decode cX11_goTick 32 = .ok (.iconst 4, 1) := by decide +kernel
theorem dX11_goTick_33 : decode cX11_goTick 33 = .ok (.iload 4, 2) := by decide +kernel
theorem dX11_goTick_35 : decode cX11_goTick 35 = .ok (.imul, 1) := by decide +kernel
theorem dX11_goTick_36 : decode cX11_goTick 36 = .ok (.iload_n 3, 1) := by decide +kernel
theorem dX11_goTick_37 : decode cX11_goTick 37 = .ok (.aload_n 0, 1) := by decide +kernel
theorem dX11_goTick_38 : decode cX11_goTick 38 = .ok (.getfield 7, 3) := by decide +kernel
theorem dX11_goTick_41 : decode cX11_goTick 41 = .ok (.iconst 2, 1) := by decide +kernel
theorem dX11_goTick_42 : decode cX11_goTick 42 = .ok (.iaload, 1) := by decide +kernel
theorem dX11_goTick_43 : decode cX11_goTick 43 = .ok (.invokevirtual 178, 3) := by decide +kernel
theorem dX11_goTick_46 : decode cX11_goTick 46 = .ok (.iinc 4 1, 3) := by decide +kernel
theorem dX11_goTick_49 : decode cX11_goTick 49 = .ok (.goto (-29), 3) := by decide +kernel
theorem dX11_goTick_52 : decode cX11_goTick 52 = .ok (.aload_n 0, 1) := by decide +kernel
theorem dX11_goTick_53 : decode cX11_goTick 53 = .ok (.getfield 7, 3) := by decide +kernel
theorem dX11_goTick_56 : decode cX11_goTick 56 = .ok (.iconst 5, 1) := by decide +kernel
theorem dX11_goTick_57 : decode cX11_goTick 57 = .ok (.iaload, 1) := by decide +kernel
theorem dX11_goTick_58 : decode cX11_goTick 58 = .ok (.iconst 1, 1) := by decide +kernel
theorem dX11_goTick_59 : decode cX11_goTick 59 = .ok (.if_icmp .ne 14, 3) := by decide +kernel
theorem dX11_goTick_62 : decode cX11_goTick 62 = .ok (.iconst 2, 1) := by decide +kernel
theorem dX11_goTick_63 : decode cX11_goTick 63 = .ok (.aload_n 0, 1) := by decide +kernel
theorem dX11_goTick_64 : decode cX11_goTick 64 = .ok (.getfield 7, 3) := by decide +kernel
theorem dX11_goTick_67 : decode cX11_goTick 67 = .ok (.iconst 3, 1) := by decide +kernel
theorem dX11_goTick_68 : decode cX11_goTick 68 = .ok (.iaload, 1) := by decide +kernel
theorem dX11_goTick_69 : decode cX11_goTick 69 = .ok (.imul, 1) := by decide +kernel
theorem dX11_goTick_70 : decode cX11_goTick 70 = .ok (.goto 9, 3) := by decide +kernel
theorem dX11_goTick_73 : decode cX11_goTick 73 = .ok (.aload_n 0, 1) := by decide +kernel
theorem dX11_goTick_74 : decode cX11_goTick 74 = .ok (.getfield 7, 3) := by decide +kernel
theorem dX11_goTick_77 : decode cX11_goTick 77 = .ok (.iconst 3, 1) := by decide +kernel
theorem dX11_goTick_78 : decode cX11_goTick 78 = .ok (.iaload, 1) := by decide +kernel
theorem dX11_goTick_79 : decode cX11_goTick 79 = .ok (.istore 4, 2) := by decide +kernel
theorem dX11_goTick_81 : decode cX11_goTick 81 = .ok (.iconst 0, 1) := by decide +kernel
theorem dX11_goTick_82 : decode cX11_goTick 82 = .ok (.istore 5, 2) := by decide +kernel
theorem dX11_goTick_84 : decode cX11_goTick 84 = .ok (.iload 5, 2) := by decide +kernel
theorem dX11_goTick_86 : decode cX11_goTick 86 = .ok (.aload_n 0, 1) := by decide +kernel
theorem dX11_goTick_87 : decode cX11_goTick 87 = .ok (.getfield 7, 3) := by decide +kernel
theorem dX11_goTick_90 : decode cX11_goTick 90 = .ok (.iconst 1, 1) := by decide +kernel
theorem dX11_goTick_91 : decode cX11_goTick 91 = .ok (.iaload, 1) := by decide +kernel
theorem dX11_goTick_92 : decode cX11_goTick 92 = .ok (.if_icmp .ge 41, 3) := by decide +kernel
theorem dX11_goTick_95 : decode cX11_goTick 95 = .ok (.aload_n 0, 1) := by decide +kernel
theorem dX11_goTick_96 : decode cX11_goTick 96 = .ok (.iconst 4, 1) := by decide +kernel
theorem dX11_goTick_97 : decode cX11_goTick 97 = .ok (.aload_n 0, 1) := by decide +kernel
theorem dX11_goTick_98 : decode cX11_goTick 98 = .ok (.getfield 7, 3) := by decide +kernel
theorem dX11_goTick_101 : decode cX11_goTick 101 = .ok (.iconst 0, 1) := by decide +kernel
theorem dX11_goTick_102 : decode cX11_goTick 102 = .ok (.iaload, 1) := by decide +kernel
theorem dX11_goTick_103 : decode cX11_goTick 103 = .ok (.iconst 1, 1) := by decide +kernel
theorem dX11_goTick_104 : decode cX11_goTick 104 = .ok (.isub, 1) := by decide +kernel
theorem dX11_goTick_105 : decode cX11_goTick 105 = .ok (.imul, 1) := by decide +kernel
theorem dX11_goTick_106 : decode cX11_goTick 106 = .ok (.iload 5, 2) := by decide +kernel
theorem dX11_goTick_108 : decode cX11_goTick 108 = .ok (.iadd, 1) := by decide +kernel
theorem dX11_goTick_109 : decode cX11_goTick 109 = .ok (.iload_n 3, 1) := by decide +kernel
theorem dX11_goTick_110 : decode cX11_goTick 110 = .ok (.iload 4, 2) := by decide +kernel
theorem dX11_goTick_112 : decode cX11_goTick 112 = .ok (.bipush 10, 2) := by decide +kernel
theorem dX11_goTick_114 : decode cX11_goTick 114 = .ok (.if_icmp .le 8, 3) := by decide +kernel
theorem dX11_goTick_117 : decode cX11_goTick 117 = .ok (.bipush 10, 2) := by decide +kernel
theorem dX11_goTick_119 : decode cX11_goTick 119 = .ok (.goto 5, 3) := by decide +kernel
theorem dX11_goTick_122 : decode cX11_goTick 122 = .ok (.iload 4, 2) := by decide +kernel
theorem dX11_goTick_124 : decode cX11_goTick 124 = .ok (.invokevirtual 178, 3) := by decide +kernel
theorem dX11_goTick_127 : decode cX11_goTick 127 = .ok (.iinc 5 1, 3) := by decide +kernel
theorem dX11_goTick_130 : decode cX11_goTick 130 = .ok (.goto (-46), 3) := by decide +kernel
theorem dX11_goTick_133 : decode cX11_goTick 133 = .ok (.iconst 0, 1) := by decide +kernel
theorem dX11_goTick_134 : decode cX11_goTick 134 = .ok (.istore 5, 2) := by decide +kernel
theorem dX11_goTick_136 : decode cX11_goTick 136 = .ok (.iload 5, 2) := by decide +kernel
theorem dX11_goTick_138 : decode cX11_goTick 138 = .ok (.aload_n 0, 1) := by decide +kernel
theorem dX11_goTick_139 : decode cX11_goTick 139 = .ok (.getfield 7, 3) := by decide +kernel
theorem dX11_goTick_142 : decode cX11_goTick 142 = .ok (.iconst 0, 1) := by decide +kernel
theorem dX11_goTick_143 : decode cX11_goTick 143 = .ok (.iaload, 1) := by decide +kernel
theorem dX11_goTick_144 : decode cX11_goTick 144 = .ok (.if_icmp .ge 106, 3) := by decide +kernel
theorem dX11_goTick_147 : decode cX11_goTick 147 = .ok (.iconst 0, 1) := by decide +kernel
theorem dX11_goTick_148 : decode cX11_goTick 148 = .ok (.istore 6, 2) := by decide +kernel
theorem dX11_goTick_150 : decode cX11_goTick 150 = .ok (.iload 6, 2) := by decide +kernel
theorem dX11_goTick_152 : decode cX11_goTick 152 = .ok (.iconst 1, 1) := by decide +kernel
theorem dX11_goTick_153 : decode cX11_goTick 153 = .ok (.iadd, 1) := by decide +kernel
theorem dX11_goTick_154 : decode cX11_goTick 154 = .ok (.aload_n 0, 1) := by decide +kernel
theorem dX11_goTick_155 : decode cX11_goTick 155 = .ok (.getfield 7, 3) := by decide +kernel
theorem dX11_goTick_158 : decode cX11_goTick 158 = .ok (.iconst 1, 1) := by decide +kernel
theorem dX11_goTick_159 : decode cX11_goTick 159 = .ok (.iaload, 1) := by decide +kernel
theorem dX11_goTick_160 : decode cX11_goTick 160 = .ok (.if_icmp .ge 84, 3) := by decide +kernel
theorem dX11_goTick_163 : decode cX11_goTick 163 = .ok (.aload_n 0, 1) := by decide +kernel
theorem dX11_goTick_164 : decode cX11_goTick 164 = .ok (.getfield 16, 3) := by decide +kernel
theorem dX11_goTick_167 : decode cX11_goTick 167 = .ok (.iconst 4, 1) := by decide +kernel
theorem dX11_goTick_168 : decode cX11_goTick 168 = .ok (.iload 5, 2) := by decide +kernel
theorem dX11_goTick_170 : decode cX11_goTick 170 = .ok (.imul, 1) := by decide +kernel
theorem dX11_goTick_171 : decode cX11_goTick 171 = .ok (.iload 6, 2) := by decide +kernel
theorem dX11_goTick_173 : decode cX11_goTick 173 = .ok (.iadd, 1) := by decide +kernel
theorem dX11_goTick_174 : decode cX11_goTick 174 = .ok (.iconst 1, 1) := by decide +kernel
theorem dX11_goTick_175 : decode cX11_goTick 175 = .ok (.iadd, 1) := by decide +kernel
theorem dX11_goTick_176 : decode cX11_goTick 176 = .ok (.iaload, 1) := by decide +kernel
theorem dX11_goTick_177 : decode cX11_goTick 177 = .ok (.aload_n 0, 1) := by decide +kernel
theorem dX11_goTick_178 : decode cX11_goTick 178 = .ok (.getfield 16, 3) := by decide +kernel
theorem dX11_goTick_181 : decode cX11_goTick 181 = .ok (.iconst 4, 1) := by decide +kernel
theorem dX11_goTick_182 : decode cX11_goTick 182 = .ok (.iload 5, 2) := by decide +kernel
theorem dX11_goTick_184 : decode cX11_goTick 184 = .ok (.imul, 1) := by decide +kernel
theorem dX11_goTick_185 : decode cX11_goTick 185 = .ok (.iload 6, 2) := by decide +kernel
theorem dX11_goTick_187 : decode cX11_goTick 187 = .ok (.iadd, 1) := by decide +kernel
theorem dX11_goTick_188 : decode cX11_goTick 188 = .ok (.iaload, 1) := by decide +kernel
theorem dX11_goTick_189 : decode cX11_goTick 189 = .ok (.isub, 1) := by decide +kernel
theorem dX11_goTick_190 : decode cX11_goTick 190 = .ok (.aload_n 0, 1) := by decide +kernel
theorem dX11_goTick_191 : decode cX11_goTick 191 = .ok (.getfield 7, 3) := by decide +kernel
theorem dX11_goTick_194 : decode cX11_goTick 194 = .ok (.iconst 4, 1) := by decide +kernel
theorem dX11_goTick_195 : decode cX11_goTick 195 = .ok (.iaload, 1) := by decide +kernel
theorem dX11_goTick_196 : decode cX11_goTick 196 = .ok (.imul, 1) := by decide +kernel
theorem dX11_goTick_197 : decode cX11_goTick 197 = .ok (.bipush 20, 2) := by decide +kernel
theorem dX11_goTick_199 : decode cX11_goTick 199 = .ok (.idiv, 1) := by decide +kernel
theorem dX11_goTick_200 : decode cX11_goTick 200 = .ok (.istore 7, 2) := by decide +kernel
theorem dX11_goTick_202 : decode cX11_goTick 202 = .ok (.aload_n 0, 1) := by decide +kernel
theorem dX11_goTick_203 : decode cX11_goTick 203 = .ok (.getfield 16, 3) := by decide +kernel
theorem dX11_goTick_206 : decode cX11_goTick 206 = .ok (.iconst 4, 1) := by decide +kernel
theorem dX11_goTick_207 : decode cX11_goTick 207 = .ok (.iload 5, 2) := by decide +kernel
theorem dX11_goTick_209 : decode cX11_goTick 209 = .ok (.imul, 1) := by decide +kernel
theorem dX11_goTick_210 : decode cX11_goTick 210 = .ok (.iload 6, 2) := by decide +kernel
theorem dX11_goTick_212 : decode cX11_goTick 212 = .ok (.iadd, 1) := by decide +kernel
theorem dX11_goTick_213 : decode cX11_goTick 213 = .ok (.dup2, 1) := by decide +kernel
theorem dX11_goTick_214 : decode cX11_goTick 214 = .ok (.iaload, 1) := by decide +kernel
theorem dX11_goTick_215 : decode cX11_goTick 215 = .ok (.iload 7, 2) := by decide +kernel
theorem dX11_goTick_217 : decode cX11_goTick 217 = .ok (.iadd, 1) := by decide +kernel
theorem dX11_goTick_218 : decode cX11_goTick 218 = .ok (.iastore, 1) := by decide +kernel
theorem dX11_goTick_219 : decode cX11_goTick 219 = .ok (.aload_n 0, 1) := by decide +kernel
theorem dX11_goTick_220 : decode cX11_goTick 220 = .ok (.getfield 16, 3) := by decide +kernel
theorem dX11_goTick_223 : decode cX11_goTick 223 = .ok (.iconst 4, 1) := by decide +kernel
theorem dX11_goTick_224 : decode cX11_goTick 224 = .ok (.iload 5, 2) := by decide +kernel
theorem dX11_goTick_226 : decode cX11_goTick 226 = .ok (.imul, 1) := by decide +kernel
theorem dX11_goTick_227 : decode cX11_goTick 227 = .ok (.iload 6, 2) := by decide +kernel
theorem dX11_goTick_229 : decode cX11_goTick 229 = .ok (.iadd, 1) := by decide +kernel
theorem dX11_goTick_230 : decode cX11_goTick 230 = .ok (.iconst 1, 1) := by decide +kernel
theorem dX11_goTick_231 : decode cX11_goTick 231 = .ok (.iadd, 1) := by decide +kernel
theorem dX11_goTick_232 : decode cX11_goTick 232 = .ok (.dup2, 1) := by decide +kernel
theorem dX11_goTick_233 : decode cX11_goTick 233 = .ok (.iaload, 1) := by decide +kernel
theorem dX11_goTick_234 : decode cX11_goTick 234 = .ok (.iload 7, 2) := by decide +kernel
theorem dX11_goTick_236 : decode cX11_goTick 236 = .ok (.isub, 1) := by decide +kernel
theorem dX11_goTick_237 : decode cX11_goTick 237 = .ok (.iastore, 1) := by decide +kernel
theorem dX11_goTick_238 : decode cX11_goTick 238 = .ok (.iinc 6 1, 3) := by decide +kernel
theorem dX11_goTick_241 : decode cX11_goTick 241 = .ok (.goto (-91), 3) := by decide +kernel
theorem dX11_goTick_244 : decode cX11_goTick 244 = .ok (.iinc 5 1, 3) := by decide +kernel
theorem dX11_goTick_247 : decode cX11_goTick 247 = .ok (.goto (-111), 3) := by decide +kernel
theorem dX11_goTick_250 : decode cX11_goTick 250 = .ok (.return_, 1) := by decide +kernel
set_option maxHeartbeats 4000000 in
set_option maxRecDepth 100000 in
theorem c_X11_goTick (l : Launch) (E : zE) (n : Nat) (h : zH) (a0 : Nat) (p0 : Int32) (p1 : Int32) (res : Unit × zH) (hf : F_X11_goTick n h a0 p0 p1 = some res) : Met l yX11_goTick (zw yX11_goTick cX11_goTick 8 none) ({ frames := 2, cells := 0, slots := 0, locals := 46 } : Room) (zPc E h [.ref (zB E + a0), .int p0, .int p1]) (zQc E res.2 none) 0 0 (zfr E) := by
  refine zmet (lo := [(0, .ref (zB E + a0)), (1, .int p0), (2, .int p1)]) (by decide +kernel) (Nat.le_of_ble_eq_true rfl) rfl ?_
  intro p e s m args below meth c C hr hin
  unfold F_X11_goTick at hf
  have J79 : ∀ (h199 : zH) (w196 : Nat) (x197 : Int32) (x198 : Int32), F_X11_goTick_J79 n h199 w196 x197 x198 = some res → zW p l e (headSpec (zw yX11_goTick cX11_goTick 8 none) ({ frames := 2, cells := 0, slots := 0, locals := 46 } : Room)).room s m args below meth c E 8 (MQ below (zQc E res.2 none) args s 0 0 (zfr E)) 0 0 79 [(0, .ref (zB E + w196)), (3, .int x197)] [.int x198] h199 := by
    intro h199 w196 x197 x198 hf
    unfold F_X11_goTick_J79 at hf
    refine zr_istore (lo2 := [(4, .int x198), (0, .ref (zB E + w196)), (3, .int x197)]) C dX11_goTick_79 (by decide) rfl ?_
    refine zr_iconst (v := 0) C dX11_goTick_81 (by decide) ?_
    refine zr_istore (lo2 := [(5, .int (0 : Int32)), (4, .int x198), (0, .ref (zB E + w196)), (3, .int x197)]) C dX11_goTick_82 (by decide) rfl ?_
    have L84 : ∀ (fu : Nat) (x : zH × Int32), zloop (fun kc x => F_X11_goTick_B84 n kc x.1 w196 x197 x198 x.2) fu x = some res → zW p l e (headSpec (zw yX11_goTick cX11_goTick 8 none) ({ frames := 2, cells := 0, slots := 0, locals := 46 } : Room)).room s m args below meth c E 8 (MQ below (zQc E res.2 none) args s 0 0 (zfr E)) 0 0 84 [(0, .ref (zB E + w196)), (3, .int x197), (4, .int x198), (5, .int x.2)] [] x.1 := by
      refine z_loop _ ?_
      intro kc84 hk84 x hf
      obtain ⟨h201, x200⟩ := x
      dsimp only at hf ⊢
      unfold F_X11_goTick_B84 at hf
      have J124 : ∀ (h207 : zH) (x202 : Int32) (w203 : Nat) (x204 : Int32) (x205 : Int32) (x206 : Int32), F_X11_goTick_J124 n kc84 h207 w196 x197 x198 x202 w203 x204 x205 x206 = some res → zW p l e (headSpec (zw yX11_goTick cX11_goTick 8 none) ({ frames := 2, cells := 0, slots := 0, locals := 46 } : Room)).room s m args below meth c E 8 (MQ below (zQc E res.2 none) args s 0 0 (zfr E)) 0 0 124 [(0, .ref (zB E + w196)), (3, .int x197), (4, .int x198), (5, .int x202)] [.int x206, .int x205, .int x204, .ref (zB E + w203)] h207 := by
        intro h207 x202 w203 x204 x205 x206 hf
        unfold F_X11_goTick_J124 at hf
        refine zr_callVv (As := [.int x204, .int x205, .int x206]) (rest := []) C hf (fun x hx => c_X11_dragTo l E n h207 w203 x204 x205 x206 x hx) kv_X11_178 rfl rfl (Nat.le_of_ble_eq_true rfl) ⟨rfl, rfl⟩ ⟨Nat.le_of_ble_eq_true rfl, Nat.le_of_ble_eq_true rfl⟩ ⟨Nat.le_of_ble_eq_true rfl, Nat.le_of_ble_eq_true rfl⟩ dX11_goTick_124 (fun _ h208 hf => ?_)
        refine zr_iinc (v0 := 1) (k := 3) (f := fun v => [(5, .int v), (0, .ref (zB E + w196)), (3, .int x197), (4, .int x198)]) C hf (by decide) dX11_goTick_127 rfl (by decide) (fun v => rfl) (fun x209 hf => ?_)
        refine zr_goto (tgt := 84) C dX11_goTick_130 (by decide) ?_
        refine zsub [1, 2, 3, 0] rfl ?_
        exact hk84 (h208, x209) hf
      refine zr_iload C dX11_goTick_84 3 rfl ?_
      refine zr_aload_n C dX11_goTick_86 rfl 0 rfl ?_
      refine zr_gr C hf kg_X11_7 (fun _ _ _ => rfl) dX11_goTick_87 (fun w210 hf => ?_)
      refine zr_iconst (v := 1) C dX11_goTick_90 (by decide) ?_
      refine zr_iaload C hf dX11_goTick_91 (fun x211 hf => ?_)
      refine zr_icmp_ge (tgt := 133) C hf dX11_goTick_92 (by decide) (fun hf => ?_) (fun hf => ?_)
      · refine zr_iconst (v := 0) C dX11_goTick_133 (by decide) ?_
        refine zr_istore (lo2 := [(5, .int (0 : Int32)), (0, .ref (zB E + w196)), (3, .int x197), (4, .int x198)]) C dX11_goTick_134 (by decide) rfl ?_
        have L136 : ∀ (fu : Nat) (x : zH × Int32), zloop (fun kc x => F_X11_goTick_B136 n kc x.1 w196 x.2) fu x = some res → zW p l e (headSpec (zw yX11_goTick cX11_goTick 8 none) ({ frames := 2, cells := 0, slots := 0, locals := 46 } : Room)).room s m args below meth c E 8 (MQ below (zQc E res.2 none) args s 0 0 (zfr E)) 0 0 136 [(0, .ref (zB E + w196)), (5, .int x.2)] [] x.1 := by
          refine z_loop _ ?_
          intro kc136 hk136 x hf
          obtain ⟨h213, x212⟩ := x
          dsimp only at hf ⊢
          unfold F_X11_goTick_B136 at hf
          refine zr_iload C dX11_goTick_136 1 rfl ?_
          refine zr_aload_n C dX11_goTick_138 rfl 0 rfl ?_
          refine zr_gr C hf kg_X11_7 (fun _ _ _ => rfl) dX11_goTick_139 (fun w214 hf => ?_)
          refine zr_iconst (v := 0) C dX11_goTick_142 (by decide) ?_
          refine zr_iaload C hf dX11_goTick_143 (fun x215 hf => ?_)
          refine zr_icmp_ge (tgt := 250) C hf dX11_goTick_144 (by decide) (fun hf => ?_) (fun hf => ?_)
          · exact zr_return C hf hr (Nat.le_of_ble_eq_true rfl) (Nat.le_of_ble_eq_true rfl) dX11_goTick_250
          · refine zr_iconst (v := 0) C dX11_goTick_147 (by decide) ?_
            refine zr_istore (lo2 := [(6, .int (0 : Int32)), (0, .ref (zB E + w196)), (5, .int x212)]) C dX11_goTick_148 (by decide) rfl ?_
            have L150 : ∀ (fu : Nat) (x : zH × Int32), zloop (fun kc x => F_X11_goTick_B150 n kc136 kc x.1 w196 x212 x.2) fu x = some res → zW p l e (headSpec (zw yX11_goTick cX11_goTick 8 none) ({ frames := 2, cells := 0, slots := 0, locals := 46 } : Room)).room s m args below meth c E 8 (MQ below (zQc E res.2 none) args s 0 0 (zfr E)) 0 0 150 [(0, .ref (zB E + w196)), (5, .int x212), (6, .int x.2)] [] x.1 := by
              refine z_loop _ ?_
              intro kc150 hk150 x hf
              obtain ⟨h217, x216⟩ := x
              dsimp only at hf ⊢
              unfold F_X11_goTick_B150 at hf
              refine zr_iload C dX11_goTick_150 2 rfl ?_
              refine zr_iconst (v := 1) C dX11_goTick_152 (by decide) ?_
              refine zr_iadd C hf dX11_goTick_153 (fun x218 hf => ?_)
              refine zr_aload_n C dX11_goTick_154 rfl 0 rfl ?_
              refine zr_gr C hf kg_X11_7 (fun _ _ _ => rfl) dX11_goTick_155 (fun w219 hf => ?_)
              refine zr_iconst (v := 1) C dX11_goTick_158 (by decide) ?_
              refine zr_iaload C hf dX11_goTick_159 (fun x220 hf => ?_)
              refine zr_icmp_ge (tgt := 244) C hf dX11_goTick_160 (by decide) (fun hf => ?_) (fun hf => ?_)
              · refine zr_iinc (v0 := 1) (k := 1) (f := fun v => [(5, .int v), (0, .ref (zB E + w196)), (6, .int x216)]) C hf (by decide) dX11_goTick_244 rfl (by decide) (fun v => rfl) (fun x221 hf => ?_)
                refine zr_goto (tgt := 136) C dX11_goTick_247 (by decide) ?_
                refine zsub [1, 0] rfl ?_
                exact hk136 (h217, x221) hf
              · refine zr_aload_n C dX11_goTick_163 rfl 0 rfl ?_
                refine zr_gr C hf kg_X11_16 (fun _ _ _ => rfl) dX11_goTick_164 (fun w222 hf => ?_)
                refine zr_iconst (v := 4) C dX11_goTick_167 (by decide) ?_
                refine zr_iload C dX11_goTick_168 1 rfl ?_
                refine zr_imul C hf dX11_goTick_170 (fun x223 hf => ?_)
                refine zr_iload C dX11_goTick_171 2 rfl ?_
                refine zr_iadd C hf dX11_goTick_173 (fun x224 hf => ?_)
                refine zr_iconst (v := 1) C dX11_goTick_174 (by decide) ?_
                refine zr_iadd C hf dX11_goTick_175 (fun x225 hf => ?_)
                refine zr_iaload C hf dX11_goTick_176 (fun x226 hf => ?_)
                refine zr_aload_n C dX11_goTick_177 rfl 0 rfl ?_
                refine zr_gr C hf kg_X11_16 (fun _ _ _ => rfl) dX11_goTick_178 (fun w227 hf => ?_)
                refine zr_iconst (v := 4) C dX11_goTick_181 (by decide) ?_
                refine zr_iload C dX11_goTick_182 1 rfl ?_
                refine zr_imul C hf dX11_goTick_184 (fun x228 hf => ?_)
                refine zr_iload C dX11_goTick_185 2 rfl ?_
                refine zr_iadd C hf dX11_goTick_187 (fun x229 hf => ?_)
                refine zr_iaload C hf dX11_goTick_188 (fun x230 hf => ?_)
                refine zr_isub C hf dX11_goTick_189 (fun x231 hf => ?_)
                refine zr_aload_n C dX11_goTick_190 rfl 0 rfl ?_
                refine zr_gr C hf kg_X11_7 (fun _ _ _ => rfl) dX11_goTick_191 (fun w232 hf => ?_)
                refine zr_iconst (v := 4) C dX11_goTick_194 (by decide) ?_
                refine zr_iaload C hf dX11_goTick_195 (fun x233 hf => ?_)
                refine zr_imul C hf dX11_goTick_196 (fun x234 hf => ?_)
                refine zr_bipush (v := 20) C dX11_goTick_197 (by decide) ?_
                refine zr_idiv C hf dX11_goTick_199 (fun x235 hf => ?_)
                refine zr_istore (lo2 := [(7, .int x235), (0, .ref (zB E + w196)), (5, .int x212), (6, .int x216)]) C dX11_goTick_200 (by decide) rfl ?_
                refine zr_aload_n C dX11_goTick_202 rfl 1 rfl ?_
                refine zr_gr C hf kg_X11_16 (fun _ _ _ => rfl) dX11_goTick_203 (fun w236 hf => ?_)
                refine zr_iconst (v := 4) C dX11_goTick_206 (by decide) ?_
                refine zr_iload C dX11_goTick_207 2 rfl ?_
                refine zr_imul C hf dX11_goTick_209 (fun x237 hf => ?_)
                refine zr_iload C dX11_goTick_210 3 rfl ?_
                refine zr_iadd C hf dX11_goTick_212 (fun x238 hf => ?_)
                refine zr_dup2 C dX11_goTick_213 rfl rfl ?_
                refine zr_iaload C hf dX11_goTick_214 (fun x239 hf => ?_)
                refine zr_iload C dX11_goTick_215 0 rfl ?_
                refine zr_iadd C hf dX11_goTick_217 (fun x240 hf => ?_)
                refine zr_iastore C hf dX11_goTick_218 (fun h241 hf => ?_)
                refine zr_aload_n C dX11_goTick_219 rfl 1 rfl ?_
                refine zr_gr C hf kg_X11_16 (fun _ _ _ => rfl) dX11_goTick_220 (fun w242 hf => ?_)
                refine zr_iconst (v := 4) C dX11_goTick_223 (by decide) ?_
                refine zr_iload C dX11_goTick_224 2 rfl ?_
                refine zr_imul C hf dX11_goTick_226 (fun x243 hf => ?_)
                refine zr_iload C dX11_goTick_227 3 rfl ?_
                refine zr_iadd C hf dX11_goTick_229 (fun x244 hf => ?_)
                refine zr_iconst (v := 1) C dX11_goTick_230 (by decide) ?_
                refine zr_iadd C hf dX11_goTick_231 (fun x245 hf => ?_)
                refine zr_dup2 C dX11_goTick_232 rfl rfl ?_
                refine zr_iaload C hf dX11_goTick_233 (fun x246 hf => ?_)
                refine zr_iload C dX11_goTick_234 0 rfl ?_
                refine zr_isub C hf dX11_goTick_236 (fun x247 hf => ?_)
                refine zr_iastore C hf dX11_goTick_237 (fun h248 hf => ?_)
                refine zr_iinc (v0 := 1) (k := 3) (f := fun v => [(6, .int v), (7, .int x235), (0, .ref (zB E + w196)), (5, .int x212)]) C hf (by decide) dX11_goTick_238 rfl (by decide) (fun v => rfl) (fun x249 hf => ?_)
                refine zr_goto (tgt := 150) C dX11_goTick_241 (by decide) ?_
                refine zsub [2, 3, 0] rfl ?_
                exact hk150 (h248, x249) hf
            refine zsub [1, 2, 0] rfl ?_
            exact L150 n (h213, (0 : Int32)) hf
        refine zsub [1, 0] rfl ?_
        exact L136 n (h201, (0 : Int32)) hf
      · refine zr_aload_n C dX11_goTick_95 rfl 0 rfl ?_
        refine zr_iconst (v := 4) C dX11_goTick_96 (by decide) ?_
        refine zr_aload_n C dX11_goTick_97 rfl 0 rfl ?_
        refine zr_gr C hf kg_X11_7 (fun _ _ _ => rfl) dX11_goTick_98 (fun w250 hf => ?_)
        refine zr_iconst (v := 0) C dX11_goTick_101 (by decide) ?_
        refine zr_iaload C hf dX11_goTick_102 (fun x251 hf => ?_)
        refine zr_iconst (v := 1) C dX11_goTick_103 (by decide) ?_
        refine zr_isub C hf dX11_goTick_104 (fun x252 hf => ?_)
        refine zr_imul C hf dX11_goTick_105 (fun x253 hf => ?_)
        refine zr_iload C dX11_goTick_106 3 rfl ?_
        refine zr_iadd C hf dX11_goTick_108 (fun x254 hf => ?_)
        refine zr_iload_n C dX11_goTick_109 rfl 1 rfl ?_
        refine zr_iload C dX11_goTick_110 2 rfl ?_
        refine zr_bipush (v := 10) C dX11_goTick_112 (by decide) ?_
        refine zr_icmp_le (tgt := 122) C hf dX11_goTick_114 (by decide) (fun hf => ?_) (fun hf => ?_)
        · refine zr_iload C dX11_goTick_122 2 rfl ?_
          exact J124 h201 x200 w196 x254 x197 x198 hf
        · refine zr_bipush (v := 10) C dX11_goTick_117 (by decide) ?_
          refine zr_goto (tgt := 124) C dX11_goTick_119 (by decide) ?_
          exact J124 h201 x200 w196 x254 x197 (10 : Int32) hf
    refine zsub [2, 3, 1, 0] rfl ?_
    exact L84 n (h199, (0 : Int32)) hf
  have J16 : ∀ (h294 : zH) (w292 : Nat) (x293 : Int32), F_X11_goTick_J16 n h294 w292 x293 = some res → zW p l e (headSpec (zw yX11_goTick cX11_goTick 8 none) ({ frames := 2, cells := 0, slots := 0, locals := 46 } : Room)).room s m args below meth c E 8 (MQ below (zQc E res.2 none) args s 0 0 (zfr E)) 0 0 16 [(0, .ref (zB E + w292))] [.int x293] h294 := by
    intro h294 w292 x293 hf
    unfold F_X11_goTick_J16 at hf
    refine zr_istore_n (lo2 := [(3, .int x293), (0, .ref (zB E + w292))]) C dX11_goTick_16 rfl (by decide) rfl ?_
    refine zr_iconst (v := 0) C dX11_goTick_17 (by decide) ?_
    refine zr_istore (lo2 := [(4, .int (0 : Int32)), (3, .int x293), (0, .ref (zB E + w292))]) C dX11_goTick_18 (by decide) rfl ?_
    have L20 : ∀ (fu : Nat) (x : zH × Int32), zloop (fun kc x => F_X11_goTick_B20 n kc x.1 w292 x293 x.2) fu x = some res → zW p l e (headSpec (zw yX11_goTick cX11_goTick 8 none) ({ frames := 2, cells := 0, slots := 0, locals := 46 } : Room)).room s m args below meth c E 8 (MQ below (zQc E res.2 none) args s 0 0 (zfr E)) 0 0 20 [(0, .ref (zB E + w292)), (3, .int x293), (4, .int x.2)] [] x.1 := by
      refine z_loop _ ?_
      intro kc20 hk20 x hf
      obtain ⟨h296, x295⟩ := x
      dsimp only at hf ⊢
      unfold F_X11_goTick_B20 at hf
      refine zr_iload C dX11_goTick_20 2 rfl ?_
      refine zr_aload_n C dX11_goTick_22 rfl 0 rfl ?_
      refine zr_gr C hf kg_X11_7 (fun _ _ _ => rfl) dX11_goTick_23 (fun w297 hf => ?_)
      refine zr_iconst (v := 0) C dX11_goTick_26 (by decide) ?_
      refine zr_iaload C hf dX11_goTick_27 (fun x298 hf => ?_)
      refine zr_icmp_ge (tgt := 52) C hf dX11_goTick_28 (by decide) (fun hf => ?_) (fun hf => ?_)
      · refine zr_aload_n C dX11_goTick_52 rfl 0 rfl ?_
        refine zr_gr C hf kg_X11_7 (fun _ _ _ => rfl) dX11_goTick_53 (fun w299 hf => ?_)
        refine zr_iconst (v := 5) C dX11_goTick_56 (by decide) ?_
        refine zr_iaload C hf dX11_goTick_57 (fun x300 hf => ?_)
        refine zr_iconst (v := 1) C dX11_goTick_58 (by decide) ?_
        refine zr_icmp_ne (tgt := 73) C hf dX11_goTick_59 (by decide) (fun hf => ?_) (fun hf => ?_)
        · refine zr_aload_n C dX11_goTick_73 rfl 0 rfl ?_
          refine zr_gr C hf kg_X11_7 (fun _ _ _ => rfl) dX11_goTick_74 (fun w301 hf => ?_)
          refine zr_iconst (v := 3) C dX11_goTick_77 (by decide) ?_
          refine zr_iaload C hf dX11_goTick_78 (fun x302 hf => ?_)
          refine zsub [0, 1] rfl ?_
          exact J79 h296 w292 x293 x302 hf
        · refine zr_iconst (v := 2) C dX11_goTick_62 (by decide) ?_
          refine zr_aload_n C dX11_goTick_63 rfl 0 rfl ?_
          refine zr_gr C hf kg_X11_7 (fun _ _ _ => rfl) dX11_goTick_64 (fun w303 hf => ?_)
          refine zr_iconst (v := 3) C dX11_goTick_67 (by decide) ?_
          refine zr_iaload C hf dX11_goTick_68 (fun x304 hf => ?_)
          refine zr_imul C hf dX11_goTick_69 (fun x305 hf => ?_)
          refine zr_goto (tgt := 79) C dX11_goTick_70 (by decide) ?_
          refine zsub [0, 1] rfl ?_
          exact J79 h296 w292 x293 x305 hf
      · refine zr_aload_n C dX11_goTick_31 rfl 0 rfl ?_
        refine zr_iconst (v := 4) C dX11_goTick_32 (by decide) ?_
        refine zr_iload C dX11_goTick_33 2 rfl ?_
        refine zr_imul C hf dX11_goTick_35 (fun x306 hf => ?_)
        refine zr_iload_n C dX11_goTick_36 rfl 1 rfl ?_
        refine zr_aload_n C dX11_goTick_37 rfl 0 rfl ?_
        refine zr_gr C hf kg_X11_7 (fun _ _ _ => rfl) dX11_goTick_38 (fun w307 hf => ?_)
        refine zr_iconst (v := 2) C dX11_goTick_41 (by decide) ?_
        refine zr_iaload C hf dX11_goTick_42 (fun x308 hf => ?_)
        refine zr_callVv (As := [.int x306, .int x293, .int x308]) (rest := []) C hf (fun x hx => c_X11_dragTo l E n h296 w292 x306 x293 x308 x hx) kv_X11_178 rfl rfl (Nat.le_of_ble_eq_true rfl) ⟨rfl, rfl⟩ ⟨Nat.le_of_ble_eq_true rfl, Nat.le_of_ble_eq_true rfl⟩ ⟨Nat.le_of_ble_eq_true rfl, Nat.le_of_ble_eq_true rfl⟩ dX11_goTick_43 (fun _ h309 hf => ?_)
        refine zr_iinc (v0 := 1) (k := 2) (f := fun v => [(4, .int v), (0, .ref (zB E + w292)), (3, .int x293)]) C hf (by decide) dX11_goTick_46 rfl (by decide) (fun v => rfl) (fun x310 hf => ?_)
        refine zr_goto (tgt := 20) C dX11_goTick_49 (by decide) ?_
        refine zsub [1, 2, 0] rfl ?_
        exact hk20 (h309, x310) hf
    refine zsub [2, 1, 0] rfl ?_
    exact L20 n (h294, (0 : Int32)) hf
  refine zr_aload_n C dX11_goTick_0 rfl 0 rfl ?_
  refine zr_iload_n C dX11_goTick_1 rfl 1 rfl ?_
  refine zr_iload_n C dX11_goTick_2 rfl 2 rfl ?_
  refine zr_callVv (As := [.int p0, .int p1]) (rest := []) C hf (fun x hx => c_X11_stir l E n h a0 p0 p1 x hx) kv_X11_174 rfl rfl (Nat.le_of_ble_eq_true rfl) ⟨rfl, rfl⟩ ⟨Nat.le_of_ble_eq_true rfl, Nat.le_of_ble_eq_true rfl⟩ ⟨Nat.le_of_ble_eq_true rfl, Nat.le_of_ble_eq_true rfl⟩ dX11_goTick_3 (fun _ h311 hf => ?_)
  refine zr_iload_n C dX11_goTick_6 rfl 1 rfl ?_
  refine zr_iconst (v := 3) C dX11_goTick_7 (by decide) ?_
  refine zr_icmp_ne (tgt := 15) C hf dX11_goTick_8 (by decide) (fun hf => ?_) (fun hf => ?_)
  · refine zr_iconst (v := 0) C dX11_goTick_15 (by decide) ?_
    refine zsub [0] rfl ?_
    exact J16 h311 a0 (0 : Int32) hf
  · refine zr_iload_n C dX11_goTick_11 rfl 2 rfl ?_
    refine zr_goto (tgt := 16) C dX11_goTick_12 (by decide) ?_
    refine zsub [0] rfl ?_
    exact J16 h311 a0 p1 hf
theorem dX11_secondNow_0 : decode cX11_secondNow 0 = .ok (.iconst 0, 1) := by decide +kernel
theorem dX11_secondNow_1 : decode cX11_secondNow 1 = .ok (.istore_n 2, 1) := by decide +kernel
theorem dX11_secondNow_2 : decode cX11_secondNow 2 = .ok (.iconst 1, 1) := by decide +kernel
theorem dX11_secondNow_3 : decode cX11_secondNow 3 = .ok (.istore_n 3, 1) := by decide +kernel
theorem dX11_secondNow_4 : decode cX11_secondNow 4 = .ok (.iload_n 3, 1) := by decide +kernel
theorem dX11_secondNow_5 : decode cX11_secondNow 5 = .ok (.aload_n 0, 1) := by decide +kernel
theorem dX11_secondNow_6 : decode cX11_secondNow 6 = .ok (.getfield 7, 3) := by decide +kernel
theorem dX11_secondNow_9 : decode cX11_secondNow 9 = .ok (.iconst 1, 1) := by decide +kernel
theorem dX11_secondNow_10 : decode cX11_secondNow 10 = .ok (.iaload, 1) := by decide +kernel
theorem dX11_secondNow_11 : decode cX11_secondNow 11 = .ok (.if_icmp .ge 33, 3) := by decide +kernel
theorem dX11_secondNow_14 : decode cX11_secondNow 14 = .ok (.iload_n 2, 1) := by decide +kernel
theorem dX11_secondNow_15 : decode cX11_secondNow 15 = .ok (.aload_n 0, 1) := by decide +kernel
theorem dX11_secondNow_16 : decode cX11_secondNow 16 = .ok (.getfield 16, 3) := by decide +kernel
theorem dX11_secondNow_19 : decode cX11_secondNow 19 = .ok (.iconst 4, 1) := by decide +kernel
theorem dX11_secondNow_20 : decode cX11_secondNow 20 = .ok (.iload_n 1, 1) := by decide +kernel
theorem dX11_secondNow_21 : decode cX11_secondNow 21 = .ok (.imul, 1) := by decide +kernel
theorem dX11_secondNow_22 : decode cX11_secondNow 22 = .ok (.iload_n 3, 1) := by decide +kernel
theorem dX11_secondNow_23 : decode cX11_secondNow 23 = .ok (.iadd, 1) := by decide +kernel
theorem dX11_secondNow_24 : decode cX11_secondNow 24 = .ok (.iaload, 1) := by decide +kernel
theorem dX11_secondNow_25 : decode cX11_secondNow 25 = .ok (.aload_n 0, 1) := by decide +kernel
theorem dX11_secondNow_26 : decode cX11_secondNow 26 = .ok (.getfield 16, 3) := by decide +kernel
theorem dX11_secondNow_29 : decode cX11_secondNow 29 = .ok (.iconst 4, 1) := by decide +kernel
theorem dX11_secondNow_30 : decode cX11_secondNow 30 = .ok (.iload_n 1, 1) := by decide +kernel
theorem dX11_secondNow_31 : decode cX11_secondNow 31 = .ok (.imul, 1) := by decide +kernel
theorem dX11_secondNow_32 : decode cX11_secondNow 32 = .ok (.iload_n 3, 1) := by decide +kernel
theorem dX11_secondNow_33 : decode cX11_secondNow 33 = .ok (.iadd, 1) := by decide +kernel
theorem dX11_secondNow_34 : decode cX11_secondNow 34 = .ok (.iaload, 1) := by decide +kernel
theorem dX11_secondNow_35 : decode cX11_secondNow 35 = .ok (.imul, 1) := by decide +kernel
theorem dX11_secondNow_36 : decode cX11_secondNow 36 = .ok (.iadd, 1) := by decide +kernel
theorem dX11_secondNow_37 : decode cX11_secondNow 37 = .ok (.istore_n 2, 1) := by decide +kernel
theorem dX11_secondNow_38 : decode cX11_secondNow 38 = .ok (.iinc 3 1, 3) := by decide +kernel
theorem dX11_secondNow_41 : decode cX11_secondNow 41 = .ok (.goto (-37), 3) := by decide +kernel
theorem dX11_secondNow_44 : decode cX11_secondNow 44 = .ok (.iload_n 2, 1) := by decide +kernel
theorem dX11_secondNow_45 : decode cX11_secondNow 45 = .ok (.aload_n 0, 1) := by decide +kernel
theorem dX11_secondNow_46 : decode cX11_secondNow 46 = .ok (.getfield 7, 3) := by decide +kernel
theorem dX11_secondNow_49 : decode cX11_secondNow 49 = .ok (.iconst 1, 1) := by decide +kernel
theorem dX11_secondNow_50 : decode cX11_secondNow 50 = .ok (.iaload, 1) := by decide +kernel
theorem dX11_secondNow_51 : decode cX11_secondNow 51 = .ok (.iconst 1, 1) := by decide +kernel
theorem dX11_secondNow_52 : decode cX11_secondNow 52 = .ok (.isub, 1) := by decide +kernel
theorem dX11_secondNow_53 : decode cX11_secondNow 53 = .ok (.idiv, 1) := by decide +kernel
theorem dX11_secondNow_54 : decode cX11_secondNow 54 = .ok (.aload_n 0, 1) := by decide +kernel
theorem dX11_secondNow_55 : decode cX11_secondNow 55 = .ok (.getfield 16, 3) := by decide +kernel
theorem dX11_secondNow_58 : decode cX11_secondNow 58 = .ok (.iconst 4, 1) := by decide +kernel
theorem dX11_secondNow_59 : decode cX11_secondNow 59 = .ok (.iload_n 1, 1) := by decide +kernel
theorem dX11_secondNow_60 : decode cX11_secondNow 60 = .ok (.imul, 1) := by decide +kernel
theorem dX11_secondNow_61 : decode cX11_secondNow 61 = .ok (.iaload, 1) := by decide +kernel
theorem dX11_secondNow_62 : decode cX11_secondNow 62 = .ok (.aload_n 0, 1) := by decide +kernel
theorem dX11_secondNow_63 : decode cX11_secondNow 63 = .ok (.getfield 16, 3) := by decide +kernel
theorem dX11_secondNow_66 : decode cX11_secondNow 66 = .ok (.iconst 4, 1) := by decide +kernel
theorem dX11_secondNow_67 : decode cX11_secondNow 67 = .ok (.iload_n 1, 1) := by decide +kernel
theorem dX11_secondNow_68 : decode cX11_secondNow 68 = .ok (.imul, 1) := by decide +kernel
theorem dX11_secondNow_69 : decode cX11_secondNow 69 = .ok (.iaload, 1) := by decide +kernel
theorem dX11_secondNow_70 : decode cX11_secondNow 70 = .ok (.imul, 1) := by decide +kernel
theorem dX11_secondNow_71 : decode cX11_secondNow 71 = .ok (.isub, 1) := by decide +kernel
theorem dX11_secondNow_72 : decode cX11_secondNow 72 = .ok (.bipush 100, 2) := by decide +kernel
theorem dX11_secondNow_74 : decode cX11_secondNow 74 = .ok (.idiv, 1) := by decide +kernel
theorem dX11_secondNow_75 : decode cX11_secondNow 75 = .ok (.ireturn, 1) := by decide +kernel
set_option maxHeartbeats 4000000 in
set_option maxRecDepth 100000 in
theorem c_X11_secondNow (l : Launch) (E : zE) (n : Nat) (h : zH) (a0 : Nat) (p0 : Int32) (res : Int32 × zH) (hf : F_X11_secondNow n h a0 p0 = some res) : Met l yX11_secondNow (zw yX11_secondNow cX11_secondNow 4 (some .int)) ({ frames := 0, cells := 0, slots := 0, locals := 0 } : Room) (zPc E h [.ref (zB E + a0), .int p0]) (zQc E res.2 (some (.int res.1))) 0 0 (zfr E) := by
  refine zmet (lo := [(0, .ref (zB E + a0)), (1, .int p0)]) (by decide +kernel) (Nat.le_of_ble_eq_true rfl) rfl ?_
  intro p e s m args below meth c C hr hin
  unfold F_X11_secondNow at hf
  refine zr_iconst (v := 0) C dX11_secondNow_0 (by decide) ?_
  refine zr_istore_n (lo2 := [(2, .int (0 : Int32)), (0, .ref (zB E + a0)), (1, .int p0)]) C dX11_secondNow_1 rfl (by decide) rfl ?_
  refine zr_iconst (v := 1) C dX11_secondNow_2 (by decide) ?_
  refine zr_istore_n (lo2 := [(3, .int (1 : Int32)), (2, .int (0 : Int32)), (0, .ref (zB E + a0)), (1, .int p0)]) C dX11_secondNow_3 rfl (by decide) rfl ?_
  have L4 : ∀ (fu : Nat) (x : zH × Int32 × Int32), zloop (fun kc x => F_X11_secondNow_B4 n kc x.1 a0 p0 x.2.1 x.2.2) fu x = some res → zW p l e (headSpec (zw yX11_secondNow cX11_secondNow 4 (some .int)) ({ frames := 0, cells := 0, slots := 0, locals := 0 } : Room)).room s m args below meth c E 4 (MQ below (zQc E res.2 (some (.int res.1))) args s 0 0 (zfr E)) 0 0 4 [(0, .ref (zB E + a0)), (1, .int p0), (2, .int x.2.1), (3, .int x.2.2)] [] x.1 := by
    refine z_loop _ ?_
    intro kc4 hk4 x hf
    obtain ⟨h34, x32, x33⟩ := x
    dsimp only at hf ⊢
    unfold F_X11_secondNow_B4 at hf
    refine zr_iload_n C dX11_secondNow_4 rfl 3 rfl ?_
    refine zr_aload_n C dX11_secondNow_5 rfl 0 rfl ?_
    refine zr_gr C hf kg_X11_7 (fun _ _ _ => rfl) dX11_secondNow_6 (fun w35 hf => ?_)
    refine zr_iconst (v := 1) C dX11_secondNow_9 (by decide) ?_
    refine zr_iaload C hf dX11_secondNow_10 (fun x36 hf => ?_)
    refine zr_icmp_ge (tgt := 44) C hf dX11_secondNow_11 (by decide) (fun hf => ?_) (fun hf => ?_)
    · refine zr_iload_n C dX11_secondNow_44 rfl 2 rfl ?_
      refine zr_aload_n C dX11_secondNow_45 rfl 0 rfl ?_
      refine zr_gr C hf kg_X11_7 (fun _ _ _ => rfl) dX11_secondNow_46 (fun w37 hf => ?_)
      refine zr_iconst (v := 1) C dX11_secondNow_49 (by decide) ?_
      refine zr_iaload C hf dX11_secondNow_50 (fun x38 hf => ?_)
      refine zr_iconst (v := 1) C dX11_secondNow_51 (by decide) ?_
      refine zr_isub C hf dX11_secondNow_52 (fun x39 hf => ?_)
      refine zr_idiv C hf dX11_secondNow_53 (fun x40 hf => ?_)
      refine zr_aload_n C dX11_secondNow_54 rfl 0 rfl ?_
      refine zr_gr C hf kg_X11_16 (fun _ _ _ => rfl) dX11_secondNow_55 (fun w41 hf => ?_)
      refine zr_iconst (v := 4) C dX11_secondNow_58 (by decide) ?_
      refine zr_iload_n C dX11_secondNow_59 rfl 1 rfl ?_
      refine zr_imul C hf dX11_secondNow_60 (fun x42 hf => ?_)
      refine zr_iaload C hf dX11_secondNow_61 (fun x43 hf => ?_)
      refine zr_aload_n C dX11_secondNow_62 rfl 0 rfl ?_
      refine zr_gr C hf kg_X11_16 (fun _ _ _ => rfl) dX11_secondNow_63 (fun w44 hf => ?_)
      refine zr_iconst (v := 4) C dX11_secondNow_66 (by decide) ?_
      refine zr_iload_n C dX11_secondNow_67 rfl 1 rfl ?_
      refine zr_imul C hf dX11_secondNow_68 (fun x45 hf => ?_)
      refine zr_iaload C hf dX11_secondNow_69 (fun x46 hf => ?_)
      refine zr_imul C hf dX11_secondNow_70 (fun x47 hf => ?_)
      refine zr_isub C hf dX11_secondNow_71 (fun x48 hf => ?_)
      refine zr_bipush (v := 100) C dX11_secondNow_72 (by decide) ?_
      refine zr_idiv C hf dX11_secondNow_74 (fun x49 hf => ?_)
      exact zr_ireturn C hf hr (Nat.le_of_ble_eq_true rfl) (Nat.le_of_ble_eq_true rfl) dX11_secondNow_75
    · refine zr_iload_n C dX11_secondNow_14 rfl 2 rfl ?_
      refine zr_aload_n C dX11_secondNow_15 rfl 0 rfl ?_
      refine zr_gr C hf kg_X11_16 (fun _ _ _ => rfl) dX11_secondNow_16 (fun w50 hf => ?_)
      refine zr_iconst (v := 4) C dX11_secondNow_19 (by decide) ?_
      refine zr_iload_n C dX11_secondNow_20 rfl 1 rfl ?_
      refine zr_imul C hf dX11_secondNow_21 (fun x51 hf => ?_)
      refine zr_iload_n C dX11_secondNow_22 rfl 3 rfl ?_
      refine zr_iadd C hf dX11_secondNow_23 (fun x52 hf => ?_)
      refine zr_iaload C hf dX11_secondNow_24 (fun x53 hf => ?_)
      refine zr_aload_n C dX11_secondNow_25 rfl 0 rfl ?_
      refine zr_gr C hf kg_X11_16 (fun _ _ _ => rfl) dX11_secondNow_26 (fun w54 hf => ?_)
      refine zr_iconst (v := 4) C dX11_secondNow_29 (by decide) ?_
      refine zr_iload_n C dX11_secondNow_30 rfl 1 rfl ?_
      refine zr_imul C hf dX11_secondNow_31 (fun x55 hf => ?_)
      refine zr_iload_n C dX11_secondNow_32 rfl 3 rfl ?_
      refine zr_iadd C hf dX11_secondNow_33 (fun x56 hf => ?_)
      refine zr_iaload C hf dX11_secondNow_34 (fun x57 hf => ?_)
      refine zr_imul C hf dX11_secondNow_35 (fun x58 hf => ?_)
      refine zr_iadd C hf dX11_secondNow_36 (fun x59 hf => ?_)
      refine zr_istore_n (lo2 := [(2, .int x59), (0, .ref (zB E + a0)), (1, .int p0), (3, .int x33)]) C dX11_secondNow_37 rfl (by decide) rfl ?_
      refine zr_iinc (v0 := 1) (k := 3) (f := fun v => [(3, .int v), (2, .int x59), (0, .ref (zB E + a0)), (1, .int p0)]) C hf (by decide) dX11_secondNow_38 rfl (by decide) (fun v => rfl) (fun x60 hf => ?_)
      refine zr_goto (tgt := 4) C dX11_secondNow_41 (by decide) ?_
      refine zsub [2, 3, 1, 0] rfl ?_
      exact hk4 (h34, x59, x60) hf
  refine zsub [2, 3, 1, 0] rfl ?_
  exact L4 n (h, (0 : Int32), (1 : Int32)) hf
theorem dX11_pullNow_0 : decode cX11_pullNow 0 = .ok (.aload_n 0, 1) := by decide +kernel
theorem dX11_pullNow_1 : decode cX11_pullNow 1 = .ok (.iload_n 1, 1) := by decide +kernel
theorem dX11_pullNow_2 : decode cX11_pullNow 2 = .ok (.invokevirtual 182, 3) := by decide +kernel
theorem dX11_pullNow_5 : decode cX11_pullNow 5 = .ok (.iload_n 2, 1) := by decide +kernel
theorem dX11_pullNow_6 : decode cX11_pullNow 6 = .ok (.aload_n 0, 1) := by decide +kernel
theorem dX11_pullNow_7 : decode cX11_pullNow 7 = .ok (.getfield 16, 3) := by decide +kernel
theorem dX11_pullNow_10 : decode cX11_pullNow 10 = .ok (.iconst 4, 1) := by decide +kernel
theorem dX11_pullNow_11 : decode cX11_pullNow 11 = .ok (.iload_n 1, 1) := by decide +kernel
theorem dX11_pullNow_12 : decode cX11_pullNow 12 = .ok (.imul, 1) := by decide +kernel
theorem dX11_pullNow_13 : decode cX11_pullNow 13 = .ok (.iaload, 1) := by decide +kernel
theorem dX11_pullNow_14 : decode cX11_pullNow 14 = .ok (.imul, 1) := by decide +kernel
theorem dX11_pullNow_15 : decode cX11_pullNow 15 = .ok (.aload_n 0, 1) := by decide +kernel
theorem dX11_pullNow_16 : decode cX11_pullNow 16 = .ok (.getfield 16, 3) := by decide +kernel
theorem dX11_pullNow_19 : decode cX11_pullNow 19 = .ok (.iconst 4, 1) := by decide +kernel
theorem dX11_pullNow_20 : decode cX11_pullNow 20 = .ok (.iload_n 1, 1) := by decide +kernel
theorem dX11_pullNow_21 : decode cX11_pullNow 21 = .ok (.imul, 1) := by decide +kernel
theorem dX11_pullNow_22 : decode cX11_pullNow 22 = .ok (.iaload, 1) := by decide +kernel
theorem dX11_pullNow_23 : decode cX11_pullNow 23 = .ok (.imul, 1) := by decide +kernel
theorem dX11_pullNow_24 : decode cX11_pullNow 24 = .ok (.sipush 1000, 3) := by decide +kernel
theorem dX11_pullNow_27 : decode cX11_pullNow 27 = .ok (.idiv, 1) := by decide +kernel
theorem dX11_pullNow_28 : decode cX11_pullNow 28 = .ok (.isub, 1) := by decide +kernel
theorem dX11_pullNow_29 : decode cX11_pullNow 29 = .ok (.ireturn, 1) := by decide +kernel
set_option maxHeartbeats 4000000 in
set_option maxRecDepth 100000 in
theorem c_X11_pullNow (l : Launch) (E : zE) (n : Nat) (h : zH) (a0 : Nat) (p0 : Int32) (p1 : Int32) (res : Int32 × zH) (hf : F_X11_pullNow n h a0 p0 p1 = some res) : Met l yX11_pullNow (zw yX11_pullNow cX11_pullNow 3 (some .int)) ({ frames := 1, cells := 0, slots := 0, locals := 23 } : Room) (zPc E h [.ref (zB E + a0), .int p0, .int p1]) (zQc E res.2 (some (.int res.1))) 0 0 (zfr E) := by
  refine zmet (lo := [(0, .ref (zB E + a0)), (1, .int p0), (2, .int p1)]) (by decide +kernel) (Nat.le_of_ble_eq_true rfl) rfl ?_
  intro p e s m args below meth c C hr hin
  unfold F_X11_pullNow at hf
  refine zr_aload_n C dX11_pullNow_0 rfl 0 rfl ?_
  refine zr_iload_n C dX11_pullNow_1 rfl 1 rfl ?_
  refine zr_callVi (As := [.int p0]) (rest := []) C hf (fun x hx => c_X11_secondNow l E n h a0 p0 x hx) kv_X11_182 rfl rfl (Nat.le_of_ble_eq_true rfl) ⟨rfl, rfl⟩ ⟨Nat.le_of_ble_eq_true rfl, Nat.le_of_ble_eq_true rfl⟩ ⟨Nat.le_of_ble_eq_true rfl, Nat.le_of_ble_eq_true rfl⟩ dX11_pullNow_2 (fun x2 h1 hf => ?_)
  refine zr_iload_n C dX11_pullNow_5 rfl 2 rfl ?_
  refine zr_aload_n C dX11_pullNow_6 rfl 0 rfl ?_
  refine zr_gr C hf kg_X11_16 (fun _ _ _ => rfl) dX11_pullNow_7 (fun w3 hf => ?_)
  refine zr_iconst (v := 4) C dX11_pullNow_10 (by decide) ?_
  refine zr_iload_n C dX11_pullNow_11 rfl 1 rfl ?_
  refine zr_imul C hf dX11_pullNow_12 (fun x4 hf => ?_)
  refine zr_iaload C hf dX11_pullNow_13 (fun x5 hf => ?_)
  refine zr_imul C hf dX11_pullNow_14 (fun x6 hf => ?_)
  refine zr_aload_n C dX11_pullNow_15 rfl 0 rfl ?_
  refine zr_gr C hf kg_X11_16 (fun _ _ _ => rfl) dX11_pullNow_16 (fun w7 hf => ?_)
  refine zr_iconst (v := 4) C dX11_pullNow_19 (by decide) ?_
  refine zr_iload_n C dX11_pullNow_20 rfl 1 rfl ?_
  refine zr_imul C hf dX11_pullNow_21 (fun x8 hf => ?_)
  refine zr_iaload C hf dX11_pullNow_22 (fun x9 hf => ?_)
  refine zr_imul C hf dX11_pullNow_23 (fun x10 hf => ?_)
  refine zr_sipush (v := 1000) C dX11_pullNow_24 (by decide) ?_
  refine zr_idiv C hf dX11_pullNow_27 (fun x11 hf => ?_)
  refine zr_isub C hf dX11_pullNow_28 (fun x12 hf => ?_)
  exact zr_ireturn C hf hr (Nat.le_of_ble_eq_true rfl) (Nat.le_of_ble_eq_true rfl) dX11_pullNow_29
theorem dX11_moved_0 : decode cX11_moved 0 = .ok (.aload_n 0, 1) := by decide +kernel
theorem dX11_moved_1 : decode cX11_moved 1 = .ok (.iload_n 1, 1) := by decide +kernel
theorem dX11_moved_2 : decode cX11_moved 2 = .ok (.iload_n 2, 1) := by decide +kernel
theorem dX11_moved_3 : decode cX11_moved 3 = .ok (.invokevirtual 185, 3) := by decide +kernel
theorem dX11_moved_6 : decode cX11_moved 6 = .ok (.istore 4, 2) := by decide +kernel
theorem dX11_moved_8 : decode cX11_moved 8 = .ok (.iload 4, 2) := by decide +kernel
theorem dX11_moved_10 : decode cX11_moved 10 = .ok (.iload_n 3, 1) := by decide +kernel
theorem dX11_moved_11 : decode cX11_moved 11 = .ok (.if_icmp .le 11, 3) := by decide +kernel
theorem dX11_moved_14 : decode cX11_moved 14 = .ok (.iload_n 1, 1) := by decide +kernel
theorem dX11_moved_15 : decode cX11_moved 15 = .ok (.ifCond .le 7, 3) := by decide +kernel
theorem dX11_moved_18 : decode cX11_moved 18 = .ok (.iload_n 1, 1) := by decide +kernel
theorem dX11_moved_19 : decode cX11_moved 19 = .ok (.iconst 1, 1) := by decide +kernel
theorem dX11_moved_20 : decode cX11_moved 20 = .ok (.isub, 1) := by decide +kernel
theorem dX11_moved_21 : decode cX11_moved 21 = .ok (.ireturn, 1) := by decide +kernel
theorem dX11_moved_22 : decode cX11_moved 22 = .ok (.iload 4, 2) := by decide +kernel
theorem dX11_moved_24 : decode cX11_moved 24 = .ok (.iload_n 3, 1) := by decide +kernel
theorem dX11_moved_25 : decode cX11_moved 25 = .ok (.ineg, 1) := by decide +kernel
theorem dX11_moved_26 : decode cX11_moved 26 = .ok (.if_icmp .ge 21, 3) := by decide +kernel
theorem dX11_moved_29 : decode cX11_moved 29 = .ok (.iload_n 1, 1) := by decide +kernel
theorem dX11_moved_30 : decode cX11_moved 30 = .ok (.aload_n 0, 1) := by decide +kernel
theorem dX11_moved_31 : decode cX11_moved 31 = .ok (.getfield 7, 3) := by decide +kernel
theorem dX11_moved_34 : decode cX11_moved 34 = .ok (.iconst 0, 1) := by decide +kernel
theorem dX11_moved_35 : decode cX11_moved 35 = .ok (.iaload, 1) := by decide +kernel
theorem dX11_moved_36 : decode cX11_moved 36 = .ok (.iconst 1, 1) := by decide +kernel
theorem dX11_moved_37 : decode cX11_moved 37 = .ok (.isub, 1) := by decide +kernel
theorem dX11_moved_38 : decode cX11_moved 38 = .ok (.if_icmp .ge 9, 3) := by decide +kernel
theorem dX11_moved_41 : decode cX11_moved 41 = .ok (.iload_n 1, 1) := by decide +kernel
theorem dX11_moved_42 : decode cX11_moved 42 = .ok (.iconst 1, 1) := by decide +kernel
theorem dX11_moved_43 : decode cX11_moved 43 = .ok (.iadd, 1) := by decide +kernel
theorem dX11_moved_44 : decode cX11_moved 44 = .ok (.goto 4, 3) := by decide +kernel
theorem dX11_moved_47 : decode cX11_moved 47 = .ok (.iload_n 1, 1) := by decide +kernel
theorem dX11_moved_48 : decode cX11_moved 48 = .ok (.ireturn, 1) := by decide +kernel
set_option maxHeartbeats 4000000 in
set_option maxRecDepth 100000 in
theorem c_X11_moved (l : Launch) (E : zE) (n : Nat) (h : zH) (a0 : Nat) (p0 : Int32) (p1 : Int32) (p2 : Int32) (res : Int32 × zH) (hf : F_X11_moved n h a0 p0 p1 p2 = some res) : Met l yX11_moved (zw yX11_moved cX11_moved 5 (some .int)) ({ frames := 2, cells := 0, slots := 0, locals := 45 } : Room) (zPc E h [.ref (zB E + a0), .int p0, .int p1, .int p2]) (zQc E res.2 (some (.int res.1))) 0 0 (zfr E) := by
  refine zmet (lo := [(0, .ref (zB E + a0)), (1, .int p0), (2, .int p1), (3, .int p2)]) (by decide +kernel) (Nat.le_of_ble_eq_true rfl) rfl ?_
  intro p e s m args below meth c C hr hin
  unfold F_X11_moved at hf
  have J48 : ∀ (h4 : zH) (x3 : Int32), F_X11_moved_J48 n h4 x3 = some res → zW p l e (headSpec (zw yX11_moved cX11_moved 5 (some .int)) ({ frames := 2, cells := 0, slots := 0, locals := 45 } : Room)).room s m args below meth c E 5 (MQ below (zQc E res.2 (some (.int res.1))) args s 0 0 (zfr E)) 0 0 48 [] [.int x3] h4 := by
    intro h4 x3 hf
    unfold F_X11_moved_J48 at hf
    exact zr_ireturn C hf hr (Nat.le_of_ble_eq_true rfl) (Nat.le_of_ble_eq_true rfl) dX11_moved_48
  have J47 : ∀ (h8 : zH) (x7 : Int32), F_X11_moved_J47 n h8 x7 = some res → zW p l e (headSpec (zw yX11_moved cX11_moved 5 (some .int)) ({ frames := 2, cells := 0, slots := 0, locals := 45 } : Room)).room s m args below meth c E 5 (MQ below (zQc E res.2 (some (.int res.1))) args s 0 0 (zfr E)) 0 0 47 [(1, .int x7)] [] h8 := by
    intro h8 x7 hf
    unfold F_X11_moved_J47 at hf
    refine zr_iload_n C dX11_moved_47 rfl 0 rfl ?_
    refine zsub [] rfl ?_
    exact J48 h8 x7 hf
  have J22 : ∀ (h23 : zH) (w19 : Nat) (x20 : Int32) (x21 : Int32) (x22 : Int32), F_X11_moved_J22 n h23 w19 x20 x21 x22 = some res → zW p l e (headSpec (zw yX11_moved cX11_moved 5 (some .int)) ({ frames := 2, cells := 0, slots := 0, locals := 45 } : Room)).room s m args below meth c E 5 (MQ below (zQc E res.2 (some (.int res.1))) args s 0 0 (zfr E)) 0 0 22 [(0, .ref (zB E + w19)), (1, .int x20), (3, .int x21), (4, .int x22)] [] h23 := by
    intro h23 w19 x20 x21 x22 hf
    unfold F_X11_moved_J22 at hf
    refine zr_iload C dX11_moved_22 3 rfl ?_
    refine zr_iload_n C dX11_moved_24 rfl 2 rfl ?_
    refine zr_ineg C hf dX11_moved_25 (fun x24 hf => ?_)
    refine zr_icmp_ge (tgt := 47) C hf dX11_moved_26 (by decide) (fun hf => ?_) (fun hf => ?_)
    · refine zsub [1] rfl ?_
      exact J47 h23 x20 hf
    · refine zr_iload_n C dX11_moved_29 rfl 1 rfl ?_
      refine zr_aload_n C dX11_moved_30 rfl 0 rfl ?_
      refine zr_gr C hf kg_X11_7 (fun _ _ _ => rfl) dX11_moved_31 (fun w25 hf => ?_)
      refine zr_iconst (v := 0) C dX11_moved_34 (by decide) ?_
      refine zr_iaload C hf dX11_moved_35 (fun x26 hf => ?_)
      refine zr_iconst (v := 1) C dX11_moved_36 (by decide) ?_
      refine zr_isub C hf dX11_moved_37 (fun x27 hf => ?_)
      refine zr_icmp_ge (tgt := 47) C hf dX11_moved_38 (by decide) (fun hf => ?_) (fun hf => ?_)
      · refine zsub [1] rfl ?_
        exact J47 h23 x20 hf
      · refine zr_iload_n C dX11_moved_41 rfl 1 rfl ?_
        refine zr_iconst (v := 1) C dX11_moved_42 (by decide) ?_
        refine zr_iadd C hf dX11_moved_43 (fun x28 hf => ?_)
        refine zr_goto (tgt := 48) C dX11_moved_44 (by decide) ?_
        refine zsub [] rfl ?_
        exact J48 h23 x28 hf
  refine zr_aload_n C dX11_moved_0 rfl 0 rfl ?_
  refine zr_iload_n C dX11_moved_1 rfl 1 rfl ?_
  refine zr_iload_n C dX11_moved_2 rfl 2 rfl ?_
  refine zr_callVi (As := [.int p0, .int p1]) (rest := []) C hf (fun x hx => c_X11_pullNow l E n h a0 p0 p1 x hx) kv_X11_185 rfl rfl (Nat.le_of_ble_eq_true rfl) ⟨rfl, rfl⟩ ⟨Nat.le_of_ble_eq_true rfl, Nat.le_of_ble_eq_true rfl⟩ ⟨Nat.le_of_ble_eq_true rfl, Nat.le_of_ble_eq_true rfl⟩ dX11_moved_3 (fun x30 h29 hf => ?_)
  refine zr_istore (lo2 := [(4, .int x30), (0, .ref (zB E + a0)), (1, .int p0), (2, .int p1), (3, .int p2)]) C dX11_moved_6 (by decide) rfl ?_
  refine zr_iload C dX11_moved_8 0 rfl ?_
  refine zr_iload_n C dX11_moved_10 rfl 4 rfl ?_
  refine zr_icmp_le (tgt := 22) C hf dX11_moved_11 (by decide) (fun hf => ?_) (fun hf => ?_)
  · refine zsub [1, 2, 4, 0] rfl ?_
    exact J22 h29 a0 p0 p2 x30 hf
  · refine zr_iload_n C dX11_moved_14 rfl 2 rfl ?_
    refine zr_if_le (tgt := 22) C hf dX11_moved_15 (by decide) (fun hf => ?_) (fun hf => ?_)
    · refine zsub [1, 2, 4, 0] rfl ?_
      exact J22 h29 a0 p0 p2 x30 hf
    · refine zr_iload_n C dX11_moved_18 rfl 2 rfl ?_
      refine zr_iconst (v := 1) C dX11_moved_19 (by decide) ?_
      refine zr_isub C hf dX11_moved_20 (fun x31 hf => ?_)
      exact zr_ireturn C hf hr (Nat.le_of_ble_eq_true rfl) (Nat.le_of_ble_eq_true rfl) dX11_moved_21
