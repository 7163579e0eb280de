theorem dX11_goAll_0 : decode cX11_goAll 0 = .ok (.iconst 0, 1) := by decide +kernel
theorem dX11_goAll_1 : decode cX11_goAll 1 = .ok (.istore 4, 2) := by decide +kernel
theorem dX11_goAll_3 : decode cX11_goAll 3 = .ok (.iload 4, 2) := by decide +kernel
theorem dX11_goAll_5 : decode cX11_goAll 5 = .ok (.iload_n 3, 1) := by decide +kernel
theorem dX11_goAll_6 : decode cX11_goAll 6 = .ok (.if_icmp .ge 65, 3) := by decide +kernel
theorem dX11_goAll_9 : decode cX11_goAll 9 = .ok (.aload_n 0, 1) := by decide +kernel
theorem dX11_goAll_10 : decode cX11_goAll 10 = .ok (.iload_n 1, 1) := by decide +kernel
theorem dX11_goAll_11 : decode cX11_goAll 11 = .ok (.iload_n 2, 1) := by decide +kernel
theorem dX11_goAll_12 : decode cX11_goAll 12 = .ok (.invokevirtual 188, 3) := by decide +kernel
theorem dX11_goAll_15 : decode cX11_goAll 15 = .ok (.iconst 0, 1) := by decide +kernel
theorem dX11_goAll_16 : decode cX11_goAll 16 = .ok (.istore 5, 2) := by decide +kernel
theorem dX11_goAll_18 : decode cX11_goAll 18 = .ok (.iload 5, 2) := by decide +kernel
theorem dX11_goAll_20 : decode cX11_goAll 20 = .ok (.aload_n 0, 1) := by decide +kernel
theorem dX11_goAll_21 : decode cX11_goAll 21 = .ok (.getfield 146, 3) := by decide +kernel
theorem dX11_goAll_24 : decode cX11_goAll 24 = .ok (.if_icmp .ge 41, 3) := by decide +kernel
theorem dX11_goAll_27 : decode cX11_goAll 27 = .ok (.aload_n 0, 1) := by decide +kernel
theorem dX11_goAll_28 : decode cX11_goAll 28 = .ok (.getfield 40, 3) := by decide +kernel
theorem dX11_goAll_31 : decode cX11_goAll 31 = .ok (.iload 5, 2) := by decide +kernel
theorem dX11_goAll_33 : decode cX11_goAll 33 = .ok (.aload_n 0, 1) := by decide +kernel
theorem dX11_goAll_34 : decode cX11_goAll 34 = .ok (.aload_n 0, 1) := by decide +kernel
theorem dX11_goAll_35 : decode cX11_goAll 35 = .ok (.getfield 40, 3) := by decide +kernel
theorem dX11_goAll_38 : decode cX11_goAll 38 = .ok (.iload 5, 2) := by decide +kernel
theorem dX11_goAll_40 : decode cX11_goAll 40 = .ok (.iaload, 1) := by decide +kernel
theorem dX11_goAll_41 : decode cX11_goAll 41 = .ok (.aload_n 0, 1) := by decide +kernel
theorem dX11_goAll_42 : decode cX11_goAll 42 = .ok (.getfield 31, 3) := by decide +kernel
theorem dX11_goAll_45 : decode cX11_goAll 45 = .ok (.iload 5, 2) := by decide +kernel
theorem dX11_goAll_47 : decode cX11_goAll 47 = .ok (.iaload, 1) := by decide +kernel
theorem dX11_goAll_48 : decode cX11_goAll 48 = .ok (.aload_n 0, 1) := by decide +kernel
theorem dX11_goAll_49 : decode cX11_goAll 49 = .ok (.getfield 34, 3) := by decide +kernel
theorem dX11_goAll_52 : decode cX11_goAll 52 = .ok (.iload 5, 2) := by decide +kernel
theorem dX11_goAll_54 : decode cX11_goAll 54 = .ok (.iaload, 1) := by decide +kernel
theorem dX11_goAll_55 : decode cX11_goAll 55 = .ok (.invokevirtual 191, 3) := by decide +kernel
theorem dX11_goAll_58 : decode cX11_goAll 58 = .ok (.iastore, 1) := by decide +kernel
theorem dX11_goAll_59 : decode cX11_goAll 59 = .ok (.iinc 5 1, 3) := by decide +kernel
theorem dX11_goAll_62 : decode cX11_goAll 62 = .ok (.goto (-44), 3) := by decide +kernel
theorem dX11_goAll_65 : decode cX11_goAll 65 = .ok (.iinc 4 1, 3) := by decide +kernel
theorem dX11_goAll_68 : decode cX11_goAll 68 = .ok (.goto (-65), 3) := by decide +kernel
theorem dX11_goAll_71 : decode cX11_goAll 71 = .ok (.return_, 1) := by decide +kernel
set_option maxHeartbeats 4000000 in
set_option maxRecDepth 100000 in
theorem c_X11_goAll (l : Launch) (E : zE) (n : Nat) (h : zH) (a0 : Nat) (p0 : Int32) (p1 : Int32) (p2 : Int32) (res : Unit × zH) (hf : F_X11_goAll n h a0 p0 p1 p2 = some res) : Met l yX11_goAll (zw yX11_goAll cX11_goAll 6 none) ({ frames := 3, cells := 0, slots := 0, locals := 73 } : Room) (zPc E h [.ref (zB E + a0), .int p0, .int p1, .int p2]) (zQc E res.2 none) 0 0 (zfr E) := by
  refine zmet (lo := [(0, .ref (zB E + a0)), (1, .int p0), (2, .int p1), (3, .int p2)]) (by decide +kernel) (Nat.le_of_ble_eq_true rfl) rfl ?_
  intro p e s m args below meth c C hr hin
  unfold F_X11_goAll at hf
  refine zr_iconst (v := 0) C dX11_goAll_0 (by decide) ?_
  refine zr_istore (lo2 := [(4, .int (0 : Int32)), (0, .ref (zB E + a0)), (1, .int p0), (2, .int p1), (3, .int p2)]) C dX11_goAll_1 (by decide) rfl ?_
  have L3 : ∀ (fu : Nat) (x : zH × Int32), zloop (fun kc x => F_X11_goAll_B3 n kc x.1 a0 p0 p1 p2 x.2) fu x = some res → zW p l e (headSpec (zw yX11_goAll cX11_goAll 6 none) ({ frames := 3, cells := 0, slots := 0, locals := 73 } : Room)).room s m args below meth c E 6 (MQ below (zQc E res.2 none) args s 0 0 (zfr E)) 0 0 3 [(0, .ref (zB E + a0)), (1, .int p0), (2, .int p1), (3, .int p2), (4, .int x.2)] [] x.1 := by
    refine z_loop _ ?_
    intro kc3 hk3 x hf
    obtain ⟨h44, x43⟩ := x
    dsimp only at hf ⊢
    unfold F_X11_goAll_B3 at hf
    refine zr_iload C dX11_goAll_3 4 rfl ?_
    refine zr_iload_n C dX11_goAll_5 rfl 3 rfl ?_
    refine zr_icmp_ge (tgt := 71) C hf dX11_goAll_6 (by decide) (fun hf => ?_) (fun hf => ?_)
    · exact zr_return C hf hr (Nat.le_of_ble_eq_true rfl) (Nat.le_of_ble_eq_true rfl) dX11_goAll_71
    · refine zr_aload_n C dX11_goAll_9 rfl 0 rfl ?_
      refine zr_iload_n C dX11_goAll_10 rfl 1 rfl ?_
      refine zr_iload_n C dX11_goAll_11 rfl 2 rfl ?_
      refine zr_callVv (As := [.int p0, .int p1]) (rest := []) C hf (fun x hx => c_X11_goTick l E n h44 a0 p0 p1 x hx) kv_X11_188 rfl rfl (Nat.le_of_ble_eq_true rfl) ⟨rfl, rfl⟩ ⟨Nat.le_of_ble_eq_true rfl, Nat.le_of_ble_eq_true rfl⟩ ⟨Nat.le_of_ble_eq_true rfl, Nat.le_of_ble_eq_true rfl⟩ dX11_goAll_12 (fun _ h45 hf => ?_)
      refine zr_iconst (v := 0) C dX11_goAll_15 (by decide) ?_
      refine zr_istore (lo2 := [(5, .int (0 : Int32)), (0, .ref (zB E + a0)), (1, .int p0), (2, .int p1), (3, .int p2), (4, .int x43)]) C dX11_goAll_16 (by decide) rfl ?_
      have L18 : ∀ (fu : Nat) (x : zH × Int32), zloop (fun kc x => F_X11_goAll_B18 n kc3 kc x.1 a0 p0 p1 p2 x43 x.2) fu x = some res → zW p l e (headSpec (zw yX11_goAll cX11_goAll 6 none) ({ frames := 3, cells := 0, slots := 0, locals := 73 } : Room)).room s m args below meth c E 6 (MQ below (zQc E res.2 none) args s 0 0 (zfr E)) 0 0 18 [(0, .ref (zB E + a0)), (1, .int p0), (2, .int p1), (3, .int p2), (4, .int x43), (5, .int x.2)] [] x.1 := by
        refine z_loop _ ?_
        intro kc18 hk18 x hf
        obtain ⟨h47, x46⟩ := x
        dsimp only at hf ⊢
        unfold F_X11_goAll_B18 at hf
        refine zr_iload C dX11_goAll_18 5 rfl ?_
        refine zr_aload_n C dX11_goAll_20 rfl 0 rfl ?_
        refine zr_gi C hf kg_X11_146 (fun _ _ _ => rfl) dX11_goAll_21 (fun x48 hf => ?_)
        refine zr_icmp_ge (tgt := 65) C hf dX11_goAll_24 (by decide) (fun hf => ?_) (fun hf => ?_)
        · refine zr_iinc (v0 := 1) (k := 4) (f := fun v => [(4, .int v), (0, .ref (zB E + a0)), (1, .int p0), (2, .int p1), (3, .int p2), (5, .int x46)]) C hf (by decide) dX11_goAll_65 rfl (by decide) (fun v => rfl) (fun x49 hf => ?_)
          refine zr_goto (tgt := 3) C dX11_goAll_68 (by decide) ?_
          refine zsub [1, 2, 3, 4, 0] rfl ?_
          exact hk3 (h47, x49) hf
        · refine zr_aload_n C dX11_goAll_27 rfl 0 rfl ?_
          refine zr_gr C hf kg_X11_40 (fun _ _ _ => rfl) dX11_goAll_28 (fun w50 hf => ?_)
          refine zr_iload C dX11_goAll_31 5 rfl ?_
          refine zr_aload_n C dX11_goAll_33 rfl 0 rfl ?_
          refine zr_aload_n C dX11_goAll_34 rfl 0 rfl ?_
          refine zr_gr C hf kg_X11_40 (fun _ _ _ => rfl) dX11_goAll_35 (fun w51 hf => ?_)
          refine zr_iload C dX11_goAll_38 5 rfl ?_
          refine zr_iaload C hf dX11_goAll_40 (fun x52 hf => ?_)
          refine zr_aload_n C dX11_goAll_41 rfl 0 rfl ?_
          refine zr_gr C hf kg_X11_31 (fun _ _ _ => rfl) dX11_goAll_42 (fun w53 hf => ?_)
          refine zr_iload C dX11_goAll_45 5 rfl ?_
          refine zr_iaload C hf dX11_goAll_47 (fun x54 hf => ?_)
          refine zr_aload_n C dX11_goAll_48 rfl 0 rfl ?_
          refine zr_gr C hf kg_X11_34 (fun _ _ _ => rfl) dX11_goAll_49 (fun w55 hf => ?_)
          refine zr_iload C dX11_goAll_52 5 rfl ?_
          refine zr_iaload C hf dX11_goAll_54 (fun x56 hf => ?_)
          refine zr_callVi (As := [.int x52, .int x54, .int x56]) (rest := [.int x46, .ref (zB E + w50)]) C hf (fun x hx => c_X11_moved l E n h47 a0 x52 x54 x56 x hx) kv_X11_191 rfl rfl (Nat.le_of_ble_eq_true rfl) ⟨rfl, rfl⟩ ⟨Nat.le_of_ble_eq_true rfl, Nat.le_of_ble_eq_true rfl⟩ ⟨Nat.le_of_ble_eq_true rfl, Nat.le_of_ble_eq_true rfl⟩ dX11_goAll_55 (fun x58 h57 hf => ?_)
          refine zr_iastore C hf dX11_goAll_58 (fun h59 hf => ?_)
          refine zr_iinc (v0 := 1) (k := 5) (f := fun v => [(5, .int v), (0, .ref (zB E + a0)), (1, .int p0), (2, .int p1), (3, .int p2), (4, .int x43)]) C hf (by decide) dX11_goAll_59 rfl (by decide) (fun v => rfl) (fun x60 hf => ?_)
          refine zr_goto (tgt := 18) C dX11_goAll_62 (by decide) ?_
          refine zsub [1, 2, 3, 4, 5, 0] rfl ?_
          exact hk18 (h59, x60) hf
      refine zsub [1, 2, 3, 4, 5, 0] rfl ?_
      exact L18 n (h45, (0 : Int32)) hf
  refine zsub [1, 2, 3, 4, 0] rfl ?_
  exact L3 n (h, (0 : Int32)) hf
theorem dX11_leafTold_0 : decode cX11_leafTold 0 = .ok (.iload_n 2, 1) := by decide +kernel
theorem dX11_leafTold_1 : decode cX11_leafTold 1 = .ok (.tableswitch 84 0 4 #[35, 42, 49, 56, 63], 35) := by decide +kernel
theorem dX11_leafTold_36 : decode cX11_leafTold 36 = .ok (.aload_n 0, 1) := by decide +kernel
theorem dX11_leafTold_37 : decode cX11_leafTold 37 = .ok (.getfield 25, 3) := by decide +kernel
theorem dX11_leafTold_40 : decode cX11_leafTold 40 = .ok (.iload_n 1, 1) := by decide +kernel
theorem dX11_leafTold_41 : decode cX11_leafTold 41 = .ok (.iaload, 1) := by decide +kernel
theorem dX11_leafTold_42 : decode cX11_leafTold 42 = .ok (.ireturn, 1) := by decide +kernel
theorem dX11_leafTold_43 : decode cX11_leafTold 43 = .ok (.aload_n 0, 1) := by decide +kernel
theorem dX11_leafTold_44 : decode cX11_leafTold 44 = .ok (.getfield 28, 3) := by decide +kernel
theorem dX11_leafTold_47 : decode cX11_leafTold 47 = .ok (.iload_n 1, 1) := by decide +kernel
theorem dX11_leafTold_48 : decode cX11_leafTold 48 = .ok (.iaload, 1) := by decide +kernel
theorem dX11_leafTold_49 : decode cX11_leafTold 49 = .ok (.ireturn, 1) := by decide +kernel
theorem dX11_leafTold_50 : decode cX11_leafTold 50 = .ok (.aload_n 0, 1) := by decide +kernel
theorem dX11_leafTold_51 : decode cX11_leafTold 51 = .ok (.getfield 31, 3) := by decide +kernel
theorem dX11_leafTold_54 : decode cX11_leafTold 54 = .ok (.iload_n 1, 1) := by decide +kernel
theorem dX11_leafTold_55 : decode cX11_leafTold 55 = .ok (.iaload, 1) := by decide +kernel
theorem dX11_leafTold_56 : decode cX11_leafTold 56 = .ok (.ireturn, 1) := by decide +kernel
theorem dX11_leafTold_57 : decode cX11_leafTold 57 = .ok (.aload_n 0, 1) := by decide +kernel
theorem dX11_leafTold_58 : decode cX11_leafTold 58 = .ok (.getfield 34, 3) := by decide +kernel
theorem dX11_leafTold_61 : decode cX11_leafTold 61 = .ok (.iload_n 1, 1) := by decide +kernel
theorem dX11_leafTold_62 : decode cX11_leafTold 62 = .ok (.iaload, 1) := by decide +kernel
theorem dX11_leafTold_63 : decode cX11_leafTold 63 = .ok (.ireturn, 1) := by decide +kernel
theorem dX11_leafTold_64 : decode cX11_leafTold 64 = .ok (.aload_n 0, 1) := by decide +kernel
theorem dX11_leafTold_65 : decode cX11_leafTold 65 = .ok (.invokevirtual 201, 3) := by decide +kernel
theorem dX11_leafTold_68 : decode cX11_leafTold 68 = .ok (.aload_n 0, 1) := by decide +kernel
theorem dX11_leafTold_69 : decode cX11_leafTold 69 = .ok (.aload_n 0, 1) := by decide +kernel
theorem dX11_leafTold_70 : decode cX11_leafTold 70 = .ok (.getfield 25, 3) := by decide +kernel
theorem dX11_leafTold_73 : decode cX11_leafTold 73 = .ok (.iload_n 1, 1) := by decide +kernel
theorem dX11_leafTold_74 : decode cX11_leafTold 74 = .ok (.iaload, 1) := by decide +kernel
theorem dX11_leafTold_75 : decode cX11_leafTold 75 = .ok (.aload_n 0, 1) := by decide +kernel
theorem dX11_leafTold_76 : decode cX11_leafTold 76 = .ok (.getfield 31, 3) := by decide +kernel
theorem dX11_leafTold_79 : decode cX11_leafTold 79 = .ok (.iload_n 1, 1) := by decide +kernel
theorem dX11_leafTold_80 : decode cX11_leafTold 80 = .ok (.iaload, 1) := by decide +kernel
theorem dX11_leafTold_81 : decode cX11_leafTold 81 = .ok (.invokevirtual 185, 3) := by decide +kernel
theorem dX11_leafTold_84 : decode cX11_leafTold 84 = .ok (.ireturn, 1) := by decide +kernel
theorem dX11_leafTold_85 : decode cX11_leafTold 85 = .ok (.aload_n 0, 1) := by decide +kernel
theorem dX11_leafTold_86 : decode cX11_leafTold 86 = .ok (.getfield 37, 3) := by decide +kernel
theorem dX11_leafTold_89 : decode cX11_leafTold 89 = .ok (.iload_n 1, 1) := by decide +kernel
theorem dX11_leafTold_90 : decode cX11_leafTold 90 = .ok (.iaload, 1) := by decide +kernel
theorem dX11_leafTold_91 : decode cX11_leafTold 91 = .ok (.ireturn, 1) := by decide +kernel
set_option maxHeartbeats 4000000 in
set_option maxRecDepth 100000 in
theorem c_X11_leafTold (l : Launch) (E : zE) (n : Nat) (h : zH) (a0 : Nat) (p0 : Int32) (p1 : Int32) (res : Int32 × zH) (hf : F_X11_leafTold n h a0 p0 p1 = some res) : Met l yX11_leafTold (zw yX11_leafTold cX11_leafTold 3 (some .int)) ({ frames := 2, cells := 0, slots := 0, locals := 45 } : Room) (zPc E h [.ref (zB E + a0), .int p0, .int p1]) (zQc E res.2 (some (.int res.1))) 0 0 (zfr E) := by
  refine zmet (lo := [(0, .ref (zB E + a0)), (1, .int p0), (2, .int p1)]) (by decide +kernel) (Nat.le_of_ble_eq_true rfl) rfl ?_
  intro p e s m args below meth c C hr hin
  unfold F_X11_leafTold at hf
  refine zr_iload_n C dX11_leafTold_0 rfl 2 rfl ?_
  refine zr_ite hf (fun hx hf => zr_tableOut (tgt := 85) C dX11_leafTold_1 hx (by decide) ?_) (fun hx hf => ?_)
  · refine zr_aload_n C dX11_leafTold_85 rfl 0 rfl ?_
    refine zr_gr C hf kg_X11_37 (fun _ _ _ => rfl) dX11_leafTold_86 (fun w1 hf => ?_)
    refine zr_iload_n C dX11_leafTold_89 rfl 1 rfl ?_
    refine zr_iaload C hf dX11_leafTold_90 (fun x2 hf => ?_)
    exact zr_ireturn C hf hr (Nat.le_of_ble_eq_true rfl) (Nat.le_of_ble_eq_true rfl) dX11_leafTold_91
  · refine zr_ite hf (fun he hf => zr_tableIn (off := 35) (tgt := 36) C dX11_leafTold_1 (by rw [he]; decide) (by rw [he]; decide) (by rw [he]; decide +kernel) (by decide) ?_) (fun _ hf => ?_)
    · refine zr_aload_n C dX11_leafTold_36 rfl 0 rfl ?_
      refine zr_gr C hf kg_X11_25 (fun _ _ _ => rfl) dX11_leafTold_37 (fun w3 hf => ?_)
      refine zr_iload_n C dX11_leafTold_40 rfl 1 rfl ?_
      refine zr_iaload C hf dX11_leafTold_41 (fun x4 hf => ?_)
      exact zr_ireturn C hf hr (Nat.le_of_ble_eq_true rfl) (Nat.le_of_ble_eq_true rfl) dX11_leafTold_42
    refine zr_ite hf (fun he hf => zr_tableIn (off := 42) (tgt := 43) C dX11_leafTold_1 (by rw [he]; decide) (by rw [he]; decide) (by rw [he]; decide +kernel) (by decide) ?_) (fun _ hf => ?_)
    · refine zr_aload_n C dX11_leafTold_43 rfl 0 rfl ?_
      refine zr_gr C hf kg_X11_28 (fun _ _ _ => rfl) dX11_leafTold_44 (fun w5 hf => ?_)
      refine zr_iload_n C dX11_leafTold_47 rfl 1 rfl ?_
      refine zr_iaload C hf dX11_leafTold_48 (fun x6 hf => ?_)
      exact zr_ireturn C hf hr (Nat.le_of_ble_eq_true rfl) (Nat.le_of_ble_eq_true rfl) dX11_leafTold_49
    refine zr_ite hf (fun he hf => zr_tableIn (off := 49) (tgt := 50) C dX11_leafTold_1 (by rw [he]; decide) (by rw [he]; decide) (by rw [he]; decide +kernel) (by decide) ?_) (fun _ hf => ?_)
    · refine zr_aload_n C dX11_leafTold_50 rfl 0 rfl ?_
      refine zr_gr C hf kg_X11_31 (fun _ _ _ => rfl) dX11_leafTold_51 (fun w7 hf => ?_)
      refine zr_iload_n C dX11_leafTold_54 rfl 1 rfl ?_
      refine zr_iaload C hf dX11_leafTold_55 (fun x8 hf => ?_)
      exact zr_ireturn C hf hr (Nat.le_of_ble_eq_true rfl) (Nat.le_of_ble_eq_true rfl) dX11_leafTold_56
    refine zr_ite hf (fun he hf => zr_tableIn (off := 56) (tgt := 57) C dX11_leafTold_1 (by rw [he]; decide) (by rw [he]; decide) (by rw [he]; decide +kernel) (by decide) ?_) (fun _ hf => ?_)
    · refine zr_aload_n C dX11_leafTold_57 rfl 0 rfl ?_
      refine zr_gr C hf kg_X11_34 (fun _ _ _ => rfl) dX11_leafTold_58 (fun w9 hf => ?_)
      refine zr_iload_n C dX11_leafTold_61 rfl 1 rfl ?_
      refine zr_iaload C hf dX11_leafTold_62 (fun x10 hf => ?_)
      exact zr_ireturn C hf hr (Nat.le_of_ble_eq_true rfl) (Nat.le_of_ble_eq_true rfl) dX11_leafTold_63
    refine zr_ite hf (fun he hf => zr_tableIn (off := 63) (tgt := 64) C dX11_leafTold_1 (by rw [he]; decide) (by rw [he]; decide) (by rw [he]; decide +kernel) (by decide) ?_) (fun _ hf => ?_)
    · refine zr_aload_n C dX11_leafTold_64 rfl 0 rfl ?_
      refine zr_callVv (As := []) (rest := []) C hf (fun x hx => c_X11_loadLive l E n h a0 x hx) kv_X11_201 rfl rfl (Nat.le_of_ble_eq_true rfl) ⟨rfl, rfl⟩ ⟨Nat.le_of_ble_eq_true rfl, Nat.le_of_ble_eq_true rfl⟩ ⟨Nat.le_of_ble_eq_true rfl, Nat.le_of_ble_eq_true rfl⟩ dX11_leafTold_65 (fun _ h11 hf => ?_)
      refine zr_aload_n C dX11_leafTold_68 rfl 0 rfl ?_
      refine zr_aload_n C dX11_leafTold_69 rfl 0 rfl ?_
      refine zr_gr C hf kg_X11_25 (fun _ _ _ => rfl) dX11_leafTold_70 (fun w12 hf => ?_)
      refine zr_iload_n C dX11_leafTold_73 rfl 1 rfl ?_
      refine zr_iaload C hf dX11_leafTold_74 (fun x13 hf => ?_)
      refine zr_aload_n C dX11_leafTold_75 rfl 0 rfl ?_
      refine zr_gr C hf kg_X11_31 (fun _ _ _ => rfl) dX11_leafTold_76 (fun w14 hf => ?_)
      refine zr_iload_n C dX11_leafTold_79 rfl 1 rfl ?_
      refine zr_iaload C hf dX11_leafTold_80 (fun x15 hf => ?_)
      refine zr_callVi (As := [.int x13, .int x15]) (rest := []) C hf (fun x hx => c_X11_pullNow l E n h11 a0 x13 x15 x hx) kv_X11_185 rfl rfl (Nat.le_of_ble_eq_true rfl) ⟨rfl, rfl⟩ ⟨Nat.le_of_ble_eq_true rfl, Nat.le_of_ble_eq_true rfl⟩ ⟨Nat.le_of_ble_eq_true rfl, Nat.le_of_ble_eq_true rfl⟩ dX11_leafTold_81 (fun x17 h16 hf => ?_)
      exact zr_ireturn C hf hr (Nat.le_of_ble_eq_true rfl) (Nat.le_of_ble_eq_true rfl) dX11_leafTold_84
    cases hf
theorem dX11_about_0 : decode cX11_about 0 = .ok (.aload_n 0, 1) := by decide +kernel
theorem dX11_about_1 : decode cX11_about 1 = .ok (.iload_n 1, 1) := by decide +kernel
theorem dX11_about_2 : decode cX11_about 2 = .ok (.invokevirtual 195, 3) := by decide +kernel
theorem dX11_about_5 : decode cX11_about 5 = .ok (.ifCond .ne 6, 3) := by decide +kernel
theorem dX11_about_8 : decode cX11_about 8 = .ok (.bipush (-101), 2) := by decide +kernel
theorem dX11_about_10 : decode cX11_about 10 = .ok (.ireturn, 1) := by decide +kernel
theorem dX11_about_11 : decode cX11_about 11 = .ok (.iload_n 2, 1) := by decide +kernel
theorem dX11_about_12 : decode cX11_about 12 = .ok (.iconst 0, 1) := by decide +kernel
theorem dX11_about_13 : decode cX11_about 13 = .ok (.iconst 5, 1) := by decide +kernel
theorem dX11_about_14 : decode cX11_about 14 = .ok (.invokestatic 111, 3) := by decide +kernel
theorem dX11_about_17 : decode cX11_about 17 = .ok (.ifCond .eq 12, 3) := by decide +kernel
theorem dX11_about_20 : decode cX11_about 20 = .ok (.aload_n 0, 1) := by decide +kernel
theorem dX11_about_21 : decode cX11_about 21 = .ok (.iload_n 1, 1) := by decide +kernel
theorem dX11_about_22 : decode cX11_about 22 = .ok (.iload_n 2, 1) := by decide +kernel
theorem dX11_about_23 : decode cX11_about 23 = .ok (.invokevirtual 198, 3) := by decide +kernel
theorem dX11_about_26 : decode cX11_about 26 = .ok (.goto 5, 3) := by decide +kernel
theorem dX11_about_29 : decode cX11_about 29 = .ok (.bipush (-102), 2) := by decide +kernel
theorem dX11_about_31 : decode cX11_about 31 = .ok (.ireturn, 1) := by decide +kernel
set_option maxHeartbeats 4000000 in
set_option maxRecDepth 100000 in
theorem c_X11_about (l : Launch) (E : zE) (n : Nat) (h : zH) (a0 : Nat) (p0 : Int32) (p1 : Int32) (res : Int32 × zH) (hf : F_X11_about n h a0 p0 p1 = some res) : Met l yX11_about (zw yX11_about cX11_about 3 (some .int)) ({ frames := 3, cells := 0, slots := 0, locals := 67 } : Room) (zPc E h [.ref (zB E + a0), .int p0, .int p1]) (zQc E res.2 (some (.int res.1))) 0 0 (zfr E) := by
  refine zmet (lo := [(0, .ref (zB E + a0)), (1, .int p0), (2, .int p1)]) (by decide +kernel) (Nat.le_of_ble_eq_true rfl) rfl ?_
  intro p e s m args below meth c C hr hin
  unfold F_X11_about at hf
  have J31 : ∀ (h4 : zH) (x3 : Int32), F_X11_about_J31 n h4 x3 = some res → zW p l e (headSpec (zw yX11_about cX11_about 3 (some .int)) ({ frames := 3, cells := 0, slots := 0, locals := 67 } : Room)).room s m args below meth c E 3 (MQ below (zQc E res.2 (some (.int res.1))) args s 0 0 (zfr E)) 0 0 31 [] [.int x3] h4 := by
    intro h4 x3 hf
    unfold F_X11_about_J31 at hf
    exact zr_ireturn C hf hr (Nat.le_of_ble_eq_true rfl) (Nat.le_of_ble_eq_true rfl) dX11_about_31
  refine zr_aload_n C dX11_about_0 rfl 0 rfl ?_
  refine zr_iload_n C dX11_about_1 rfl 1 rfl ?_
  refine zr_callVi (As := [.int p0]) (rest := []) C hf (fun x hx => c_X11_isLeaf l E n h a0 p0 x hx) kv_X11_195 rfl rfl (Nat.le_of_ble_eq_true rfl) ⟨rfl, rfl⟩ ⟨Nat.le_of_ble_eq_true rfl, Nat.le_of_ble_eq_true rfl⟩ ⟨Nat.le_of_ble_eq_true rfl, Nat.le_of_ble_eq_true rfl⟩ dX11_about_2 (fun x6 h5 hf => ?_)
  refine zr_if_ne (tgt := 11) C hf dX11_about_5 (by decide) (fun hf => ?_) (fun hf => ?_)
  · refine zr_iload_n C dX11_about_11 rfl 2 rfl ?_
    refine zr_iconst (v := 0) C dX11_about_12 (by decide) ?_
    refine zr_iconst (v := 5) C dX11_about_13 (by decide) ?_
    refine zr_callSi (As := [.int p1, .int (0 : Int32), .int (5 : Int32)]) (rest := []) C hf (fun x hx => c_X11_within l E n h5 p1 (0 : Int32) (5 : Int32) x hx) ks_X11_111 rfl rfl (Nat.le_of_ble_eq_true rfl) ⟨rfl, rfl⟩ ⟨Nat.le_of_ble_eq_true rfl, Nat.le_of_ble_eq_true rfl⟩ ⟨Nat.le_of_ble_eq_true rfl, Nat.le_of_ble_eq_true rfl⟩ dX11_about_14 (fun x8 h7 hf => ?_)
    refine zr_if_eq (tgt := 29) C hf dX11_about_17 (by decide) (fun hf => ?_) (fun hf => ?_)
    · refine zr_bipush (v := -102) C dX11_about_29 (by decide) ?_
      refine zsub [] rfl ?_
      exact J31 h7 (-102 : Int32) hf
    · refine zr_aload_n C dX11_about_20 rfl 0 rfl ?_
      refine zr_iload_n C dX11_about_21 rfl 1 rfl ?_
      refine zr_iload_n C dX11_about_22 rfl 2 rfl ?_
      refine zr_callVi (As := [.int p0, .int p1]) (rest := []) C hf (fun x hx => c_X11_leafTold l E n h7 a0 p0 p1 x hx) kv_X11_198 rfl rfl (Nat.le_of_ble_eq_true rfl) ⟨rfl, rfl⟩ ⟨Nat.le_of_ble_eq_true rfl, Nat.le_of_ble_eq_true rfl⟩ ⟨Nat.le_of_ble_eq_true rfl, Nat.le_of_ble_eq_true rfl⟩ dX11_about_23 (fun x10 h9 hf => ?_)
      refine zr_goto (tgt := 31) C dX11_about_26 (by decide) ?_
      refine zsub [] rfl ?_
      exact J31 h9 x10 hf
  · refine zr_bipush (v := -101) C dX11_about_8 (by decide) ?_
    exact zr_ireturn C hf hr (Nat.le_of_ble_eq_true rfl) (Nat.le_of_ble_eq_true rfl) dX11_about_10
theorem dX11_ticks_0 : decode cX11_ticks 0 = .ok (.iload_n 1, 1) := by decide +kernel
theorem dX11_ticks_1 : decode cX11_ticks 1 = .ok (.iconst (-1), 1) := by decide +kernel
theorem dX11_ticks_2 : decode cX11_ticks 2 = .ok (.if_icmp .eq 14, 3) := by decide +kernel
theorem dX11_ticks_5 : decode cX11_ticks 5 = .ok (.aload_n 0, 1) := by decide +kernel
theorem dX11_ticks_6 : decode cX11_ticks 6 = .ok (.iload_n 1, 1) := by decide +kernel
theorem dX11_ticks_7 : decode cX11_ticks 7 = .ok (.invokevirtual 164, 3) := by decide +kernel
theorem dX11_ticks_10 : decode cX11_ticks 10 = .ok (.ifCond .ne 6, 3) := by decide +kernel
theorem dX11_ticks_13 : decode cX11_ticks 13 = .ok (.bipush (-101), 2) := by decide +kernel
theorem dX11_ticks_15 : decode cX11_ticks 15 = .ok (.ireturn, 1) := by decide +kernel
theorem dX11_ticks_16 : decode cX11_ticks 16 = .ok (.aload_n 0, 1) := by decide +kernel
theorem dX11_ticks_17 : decode cX11_ticks 17 = .ok (.getfield 149, 3) := by decide +kernel
theorem dX11_ticks_20 : decode cX11_ticks 20 = .ok (.ifCond .ne 6, 3) := by decide +kernel
theorem dX11_ticks_23 : decode cX11_ticks 23 = .ok (.bipush (-103), 2) := by decide +kernel
theorem dX11_ticks_25 : decode cX11_ticks 25 = .ok (.ireturn, 1) := by decide +kernel
theorem dX11_ticks_26 : decode cX11_ticks 26 = .ok (.iload_n 2, 1) := by decide +kernel
theorem dX11_ticks_27 : decode cX11_ticks 27 = .ok (.iconst 1, 1) := by decide +kernel
theorem dX11_ticks_28 : decode cX11_ticks 28 = .ok (.bipush 100, 2) := by decide +kernel
theorem dX11_ticks_30 : decode cX11_ticks 30 = .ok (.invokestatic 111, 3) := by decide +kernel
theorem dX11_ticks_33 : decode cX11_ticks 33 = .ok (.ifCond .ne 6, 3) := by decide +kernel
theorem dX11_ticks_36 : decode cX11_ticks 36 = .ok (.bipush (-102), 2) := by decide +kernel
theorem dX11_ticks_38 : decode cX11_ticks 38 = .ok (.ireturn, 1) := by decide +kernel
theorem dX11_ticks_39 : decode cX11_ticks 39 = .ok (.aload_n 0, 1) := by decide +kernel
theorem dX11_ticks_40 : decode cX11_ticks 40 = .ok (.invokevirtual 201, 3) := by decide +kernel
theorem dX11_ticks_43 : decode cX11_ticks 43 = .ok (.iconst 0, 1) := by decide +kernel
theorem dX11_ticks_44 : decode cX11_ticks 44 = .ok (.istore_n 3, 1) := by decide +kernel
theorem dX11_ticks_45 : decode cX11_ticks 45 = .ok (.iload_n 3, 1) := by decide +kernel
theorem dX11_ticks_46 : decode cX11_ticks 46 = .ok (.aload_n 0, 1) := by decide +kernel
theorem dX11_ticks_47 : decode cX11_ticks 47 = .ok (.getfield 146, 3) := by decide +kernel
theorem dX11_ticks_50 : decode cX11_ticks 50 = .ok (.if_icmp .ge 21, 3) := by decide +kernel
theorem dX11_ticks_53 : decode cX11_ticks 53 = .ok (.aload_n 0, 1) := by decide +kernel
theorem dX11_ticks_54 : decode cX11_ticks 54 = .ok (.getfield 40, 3) := by decide +kernel
theorem dX11_ticks_57 : decode cX11_ticks 57 = .ok (.iload_n 3, 1) := by decide +kernel
theorem dX11_ticks_58 : decode cX11_ticks 58 = .ok (.aload_n 0, 1) := by decide +kernel
theorem dX11_ticks_59 : decode cX11_ticks 59 = .ok (.getfield 25, 3) := by decide +kernel
theorem dX11_ticks_62 : decode cX11_ticks 62 = .ok (.iload_n 3, 1) := by decide +kernel
theorem dX11_ticks_63 : decode cX11_ticks 63 = .ok (.iaload, 1) := by decide +kernel
theorem dX11_ticks_64 : decode cX11_ticks 64 = .ok (.iastore, 1) := by decide +kernel
theorem dX11_ticks_65 : decode cX11_ticks 65 = .ok (.iinc 3 1, 3) := by decide +kernel
theorem dX11_ticks_68 : decode cX11_ticks 68 = .ok (.goto (-23), 3) := by decide +kernel
theorem dX11_ticks_71 : decode cX11_ticks 71 = .ok (.aload_n 0, 1) := by decide +kernel
theorem dX11_ticks_72 : decode cX11_ticks 72 = .ok (.iload_n 1, 1) := by decide +kernel
theorem dX11_ticks_73 : decode cX11_ticks 73 = .ok (.iconst (-1), 1) := by decide +kernel
theorem dX11_ticks_74 : decode cX11_ticks 74 = .ok (.if_icmp .ne 7, 3) := by decide +kernel
theorem dX11_ticks_77 : decode cX11_ticks 77 = .ok (.iconst 0, 1) := by decide +kernel
theorem dX11_ticks_78 : decode cX11_ticks 78 = .ok (.goto 9, 3) := by decide +kernel
theorem dX11_ticks_81 : decode cX11_ticks 81 = .ok (.aload_n 0, 1) := by decide +kernel
theorem dX11_ticks_82 : decode cX11_ticks 82 = .ok (.getfield 19, 3) := by decide +kernel
theorem dX11_ticks_85 : decode cX11_ticks 85 = .ok (.iload_n 1, 1) := by decide +kernel
theorem dX11_ticks_86 : decode cX11_ticks 86 = .ok (.iaload, 1) := by decide +kernel
theorem dX11_ticks_87 : decode cX11_ticks 87 = .ok (.iload_n 1, 1) := by decide +kernel
theorem dX11_ticks_88 : decode cX11_ticks 88 = .ok (.iconst (-1), 1) := by decide +kernel
theorem dX11_ticks_89 : decode cX11_ticks 89 = .ok (.if_icmp .ne 7, 3) := by decide +kernel
theorem dX11_ticks_92 : decode cX11_ticks 92 = .ok (.iconst 0, 1) := by decide +kernel
theorem dX11_ticks_93 : decode cX11_ticks 93 = .ok (.goto 9, 3) := by decide +kernel
theorem dX11_ticks_96 : decode cX11_ticks 96 = .ok (.aload_n 0, 1) := by decide +kernel
theorem dX11_ticks_97 : decode cX11_ticks 97 = .ok (.getfield 22, 3) := by decide +kernel
theorem dX11_ticks_100 : decode cX11_ticks 100 = .ok (.iload_n 1, 1) := by decide +kernel
theorem dX11_ticks_101 : decode cX11_ticks 101 = .ok (.iaload, 1) := by decide +kernel
theorem dX11_ticks_102 : decode cX11_ticks 102 = .ok (.iload_n 2, 1) := by decide +kernel
theorem dX11_ticks_103 : decode cX11_ticks 103 = .ok (.invokevirtual 204, 3) := by decide +kernel
theorem dX11_ticks_106 : decode cX11_ticks 106 = .ok (.iconst 0, 1) := by decide +kernel
theorem dX11_ticks_107 : decode cX11_ticks 107 = .ok (.istore_n 3, 1) := by decide +kernel
theorem dX11_ticks_108 : decode cX11_ticks 108 = .ok (.iload_n 3, 1) := by decide +kernel
theorem dX11_ticks_109 : decode cX11_ticks 109 = .ok (.bipush 24, 2) := by decide +kernel
theorem dX11_ticks_111 : decode cX11_ticks 111 = .ok (.if_icmp .ge 21, 3) := by decide +kernel
theorem dX11_ticks_114 : decode cX11_ticks 114 = .ok (.aload_n 0, 1) := by decide +kernel
theorem dX11_ticks_115 : decode cX11_ticks 115 = .ok (.getfield 13, 3) := by decide +kernel
theorem dX11_ticks_118 : decode cX11_ticks 118 = .ok (.iload_n 3, 1) := by decide +kernel
theorem dX11_ticks_119 : decode cX11_ticks 119 = .ok (.aload_n 0, 1) := by decide +kernel
theorem dX11_ticks_120 : decode cX11_ticks 120 = .ok (.getfield 16, 3) := by decide +kernel
theorem dX11_ticks_123 : decode cX11_ticks 123 = .ok (.iload_n 3, 1) := by decide +kernel
theorem dX11_ticks_124 : decode cX11_ticks 124 = .ok (.iaload, 1) := by decide +kernel
theorem dX11_ticks_125 : decode cX11_ticks 125 = .ok (.iastore, 1) := by decide +kernel
theorem dX11_ticks_126 : decode cX11_ticks 126 = .ok (.iinc 3 1, 3) := by decide +kernel
theorem dX11_ticks_129 : decode cX11_ticks 129 = .ok (.goto (-21), 3) := by decide +kernel
theorem dX11_ticks_132 : decode cX11_ticks 132 = .ok (.iconst 0, 1) := by decide +kernel
theorem dX11_ticks_133 : decode cX11_ticks 133 = .ok (.istore_n 3, 1) := by decide +kernel
theorem dX11_ticks_134 : decode cX11_ticks 134 = .ok (.iconst 0, 1) := by decide +kernel
theorem dX11_ticks_135 : decode cX11_ticks 135 = .ok (.istore 4, 2) := by decide +kernel
theorem dX11_ticks_137 : decode cX11_ticks 137 = .ok (.iload 4, 2) := by decide +kernel
theorem dX11_ticks_139 : decode cX11_ticks 139 = .ok (.aload_n 0, 1) := by decide +kernel
theorem dX11_ticks_140 : decode cX11_ticks 140 = .ok (.getfield 146, 3) := by decide +kernel
theorem dX11_ticks_143 : decode cX11_ticks 143 = .ok (.if_icmp .ge 48, 3) := by decide +kernel
theorem dX11_ticks_146 : decode cX11_ticks 146 = .ok (.iload_n 3, 1) := by decide +kernel
theorem dX11_ticks_147 : decode cX11_ticks 147 = .ok (.aload_n 0, 1) := by decide +kernel
theorem dX11_ticks_148 : decode cX11_ticks 148 = .ok (.getfield 40, 3) := by decide +kernel
theorem dX11_ticks_151 : decode cX11_ticks 151 = .ok (.iload 4, 2) := by decide +kernel
theorem dX11_ticks_153 : decode cX11_ticks 153 = .ok (.iaload, 1) := by decide +kernel
theorem dX11_ticks_154 : decode cX11_ticks 154 = .ok (.aload_n 0, 1) := by decide +kernel
theorem dX11_ticks_155 : decode cX11_ticks 155 = .ok (.getfield 25, 3) := by decide +kernel
theorem dX11_ticks_158 : decode cX11_ticks 158 = .ok (.iload 4, 2) := by decide +kernel
theorem dX11_ticks_160 : decode cX11_ticks 160 = .ok (.iaload, 1) := by decide +kernel
theorem dX11_ticks_161 : decode cX11_ticks 161 = .ok (.if_icmp .ne 7, 3) := by decide +kernel
theorem dX11_ticks_164 : decode cX11_ticks 164 = .ok (.iconst 0, 1) := by decide +kernel
theorem dX11_ticks_165 : decode cX11_ticks 165 = .ok (.goto 4, 3) := by decide +kernel
theorem dX11_ticks_168 : decode cX11_ticks 168 = .ok (.iconst 1, 1) := by decide +kernel
theorem dX11_ticks_169 : decode cX11_ticks 169 = .ok (.iadd, 1) := by decide +kernel
theorem dX11_ticks_170 : decode cX11_ticks 170 = .ok (.istore_n 3, 1) := by decide +kernel
theorem dX11_ticks_171 : decode cX11_ticks 171 = .ok (.aload_n 0, 1) := by decide +kernel
theorem dX11_ticks_172 : decode cX11_ticks 172 = .ok (.getfield 25, 3) := by decide +kernel
theorem dX11_ticks_175 : decode cX11_ticks 175 = .ok (.iload 4, 2) := by decide +kernel
theorem dX11_ticks_177 : decode cX11_ticks 177 = .ok (.aload_n 0, 1) := by decide +kernel
theorem dX11_ticks_178 : decode cX11_ticks 178 = .ok (.getfield 40, 3) := by decide +kernel
theorem dX11_ticks_181 : decode cX11_ticks 181 = .ok (.iload 4, 2) := by decide +kernel
theorem dX11_ticks_183 : decode cX11_ticks 183 = .ok (.iaload, 1) := by decide +kernel
theorem dX11_ticks_184 : decode cX11_ticks 184 = .ok (.iastore, 1) := by decide +kernel
theorem dX11_ticks_185 : decode cX11_ticks 185 = .ok (.iinc 4 1, 3) := by decide +kernel
theorem dX11_ticks_188 : decode cX11_ticks 188 = .ok (.goto (-51), 3) := by decide +kernel
theorem dX11_ticks_191 : decode cX11_ticks 191 = .ok (.iload_n 3, 1) := by decide +kernel
theorem dX11_ticks_192 : decode cX11_ticks 192 = .ok (.ireturn, 1) := by decide +kernel
set_option maxHeartbeats 4000000 in
set_option maxRecDepth 100000 in
theorem c_X11_ticks (l : Launch) (E : zE) (n : Nat) (h : zH) (a0 : Nat) (p0 : Int32) (p1 : Int32) (res : Int32 × zH) (hf : F_X11_ticks n h a0 p0 p1 = some res) : Met l yX11_ticks (zw yX11_ticks cX11_ticks 5 (some .int)) ({ frames := 4, cells := 0, slots := 0, locals := 98 } : Room) (zPc E h [.ref (zB E + a0), .int p0, .int p1]) (zQc E res.2 (some (.int res.1))) 0 0 (zfr E) := by
  refine zmet (lo := [(0, .ref (zB E + a0)), (1, .int p0), (2, .int p1)]) (by decide +kernel) (Nat.le_of_ble_eq_true rfl) rfl ?_
  intro p e s m args below meth c C hr hin
  unfold F_X11_ticks at hf
  have J102 : ∀ (h84 : zH) (w79 : Nat) (x80 : Int32) (w81 : Nat) (x82 : Int32) (x83 : Int32), F_X11_ticks_J102 n h84 w79 x80 w81 x82 x83 = some res → zW p l e (headSpec (zw yX11_ticks cX11_ticks 5 (some .int)) ({ frames := 4, cells := 0, slots := 0, locals := 98 } : Room)).room s m args below meth c E 5 (MQ below (zQc E res.2 (some (.int res.1))) args s 0 0 (zfr E)) 0 0 102 [(0, .ref (zB E + w79)), (2, .int x80)] [.int x83, .int x82, .ref (zB E + w81)] h84 := by
    intro h84 w79 x80 w81 x82 x83 hf
    unfold F_X11_ticks_J102 at hf
    refine zr_iload_n C dX11_ticks_102 rfl 1 rfl ?_
    refine zr_callVv (As := [.int x82, .int x83, .int x80]) (rest := []) C hf (fun x hx => c_X11_goAll l E n h84 w81 x82 x83 x80 x hx) kv_X11_204 rfl rfl (Nat.le_of_ble_eq_true rfl) ⟨rfl, rfl⟩ ⟨Nat.le_of_ble_eq_true rfl, Nat.le_of_ble_eq_true rfl⟩ ⟨Nat.le_of_ble_eq_true rfl, Nat.le_of_ble_eq_true rfl⟩ dX11_ticks_103 (fun _ h85 hf => ?_)
    refine zr_iconst (v := 0) C dX11_ticks_106 (by decide) ?_
    refine zr_istore_n (lo2 := [(3, .int (0 : Int32)), (0, .ref (zB E + w79)), (2, .int x80)]) C dX11_ticks_107 rfl (by decide) rfl ?_
    have L108 : ∀ (fu : Nat) (x : zH × Int32), zloop (fun kc x => F_X11_ticks_B108 n kc x.1 w79 x.2) fu x = some res → zW p l e (headSpec (zw yX11_ticks cX11_ticks 5 (some .int)) ({ frames := 4, cells := 0, slots := 0, locals := 98 } : Room)).room s m args below meth c E 5 (MQ below (zQc E res.2 (some (.int res.1))) args s 0 0 (zfr E)) 0 0 108 [(0, .ref (zB E + w79)), (3, .int x.2)] [] x.1 := by
      refine z_loop _ ?_
      intro kc108 hk108 x hf
      obtain ⟨h87, x86⟩ := x
      dsimp only at hf ⊢
      unfold F_X11_ticks_B108 at hf
      refine zr_iload_n C dX11_ticks_108 rfl 1 rfl ?_
      refine zr_bipush (v := 24) C dX11_ticks_109 (by decide) ?_
      refine zr_icmp_ge (tgt := 132) C hf dX11_ticks_111 (by decide) (fun hf => ?_) (fun hf => ?_)
      · refine zr_iconst (v := 0) C dX11_ticks_132 (by decide) ?_
        refine zr_istore_n (lo2 := [(3, .int (0 : Int32)), (0, .ref (zB E + w79))]) C dX11_ticks_133 rfl (by decide) rfl ?_
        refine zr_iconst (v := 0) C dX11_ticks_134 (by decide) ?_
        refine zr_istore (lo2 := [(4, .int (0 : Int32)), (3, .int (0 : Int32)), (0, .ref (zB E + w79))]) C dX11_ticks_135 (by decide) rfl ?_
        have L137 : ∀ (fu : Nat) (x : zH × Int32 × Int32), zloop (fun kc x => F_X11_ticks_B137 n kc x.1 w79 x.2.1 x.2.2) fu x = some res → zW p l e (headSpec (zw yX11_ticks cX11_ticks 5 (some .int)) ({ frames := 4, cells := 0, slots := 0, locals := 98 } : Room)).room s m args below meth c E 5 (MQ below (zQc E res.2 (some (.int res.1))) args s 0 0 (zfr E)) 0 0 137 [(0, .ref (zB E + w79)), (3, .int x.2.1), (4, .int x.2.2)] [] x.1 := by
          refine z_loop _ ?_
          intro kc137 hk137 x hf
          obtain ⟨h90, x88, x89⟩ := x
          dsimp only at hf ⊢
          unfold F_X11_ticks_B137 at hf
          have J169 : ∀ (h94 : zH) (x91 : Int32) (x92 : Int32) (x93 : Int32), F_X11_ticks_J169 n kc137 h94 w79 x91 x92 x93 = some res → zW p l e (headSpec (zw yX11_ticks cX11_ticks 5 (some .int)) ({ frames := 4, cells := 0, slots := 0, locals := 98 } : Room)).room s m args below meth c E 5 (MQ below (zQc E res.2 (some (.int res.1))) args s 0 0 (zfr E)) 0 0 169 [(0, .ref (zB E + w79)), (4, .int x91)] [.int x93, .int x92] h94 := by
            intro h94 x91 x92 x93 hf
            unfold F_X11_ticks_J169 at hf
            refine zr_iadd C hf dX11_ticks_169 (fun x95 hf => ?_)
            refine zr_istore_n (lo2 := [(3, .int x95), (0, .ref (zB E + w79)), (4, .int x91)]) C dX11_ticks_170 rfl (by decide) rfl ?_
            refine zr_aload_n C dX11_ticks_171 rfl 1 rfl ?_
            refine zr_gr C hf kg_X11_25 (fun _ _ _ => rfl) dX11_ticks_172 (fun w96 hf => ?_)
            refine zr_iload C dX11_ticks_175 2 rfl ?_
            refine zr_aload_n C dX11_ticks_177 rfl 1 rfl ?_
            refine zr_gr C hf kg_X11_40 (fun _ _ _ => rfl) dX11_ticks_178 (fun w97 hf => ?_)
            refine zr_iload C dX11_ticks_181 2 rfl ?_
            refine zr_iaload C hf dX11_ticks_183 (fun x98 hf => ?_)
            refine zr_iastore C hf dX11_ticks_184 (fun h99 hf => ?_)
            refine zr_iinc (v0 := 1) (k := 2) (f := fun v => [(4, .int v), (3, .int x95), (0, .ref (zB E + w79))]) C hf (by decide) dX11_ticks_185 rfl (by decide) (fun v => rfl) (fun x100 hf => ?_)
            refine zr_goto (tgt := 137) C dX11_ticks_188 (by decide) ?_
            refine zsub [2, 1, 0] rfl ?_
            exact hk137 (h99, x95, x100) hf
          refine zr_iload C dX11_ticks_137 2 rfl ?_
          refine zr_aload_n C dX11_ticks_139 rfl 0 rfl ?_
          refine zr_gi C hf kg_X11_146 (fun _ _ _ => rfl) dX11_ticks_140 (fun x101 hf => ?_)
          refine zr_icmp_ge (tgt := 191) C hf dX11_ticks_143 (by decide) (fun hf => ?_) (fun hf => ?_)
          · refine zr_iload_n C dX11_ticks_191 rfl 1 rfl ?_
            exact zr_ireturn C hf hr (Nat.le_of_ble_eq_true rfl) (Nat.le_of_ble_eq_true rfl) dX11_ticks_192
          · refine zr_iload_n C dX11_ticks_146 rfl 1 rfl ?_
            refine zr_aload_n C dX11_ticks_147 rfl 0 rfl ?_
            refine zr_gr C hf kg_X11_40 (fun _ _ _ => rfl) dX11_ticks_148 (fun w102 hf => ?_)
            refine zr_iload C dX11_ticks_151 2 rfl ?_
            refine zr_iaload C hf dX11_ticks_153 (fun x103 hf => ?_)
            refine zr_aload_n C dX11_ticks_154 rfl 0 rfl ?_
            refine zr_gr C hf kg_X11_25 (fun _ _ _ => rfl) dX11_ticks_155 (fun w104 hf => ?_)
            refine zr_iload C dX11_ticks_158 2 rfl ?_
            refine zr_iaload C hf dX11_ticks_160 (fun x105 hf => ?_)
            refine zr_icmp_ne (tgt := 168) C hf dX11_ticks_161 (by decide) (fun hf => ?_) (fun hf => ?_)
            · refine zr_iconst (v := 1) C dX11_ticks_168 (by decide) ?_
              refine zsub [0, 2] rfl ?_
              exact J169 h90 x89 x88 (1 : Int32) hf
            · refine zr_iconst (v := 0) C dX11_ticks_164 (by decide) ?_
              refine zr_goto (tgt := 169) C dX11_ticks_165 (by decide) ?_
              refine zsub [0, 2] rfl ?_
              exact J169 h90 x89 x88 (0 : Int32) hf
        refine zsub [2, 1, 0] rfl ?_
        exact L137 n (h87, (0 : Int32), (0 : Int32)) hf
      · refine zr_aload_n C dX11_ticks_114 rfl 0 rfl ?_
        refine zr_gr C hf kg_X11_13 (fun _ _ _ => rfl) dX11_ticks_115 (fun w106 hf => ?_)
        refine zr_iload_n C dX11_ticks_118 rfl 1 rfl ?_
        refine zr_aload_n C dX11_ticks_119 rfl 0 rfl ?_
        refine zr_gr C hf kg_X11_16 (fun _ _ _ => rfl) dX11_ticks_120 (fun w107 hf => ?_)
        refine zr_iload_n C dX11_ticks_123 rfl 1 rfl ?_
        refine zr_iaload C hf dX11_ticks_124 (fun x108 hf => ?_)
        refine zr_iastore C hf dX11_ticks_125 (fun h109 hf => ?_)
        refine zr_iinc (v0 := 1) (k := 1) (f := fun v => [(3, .int v), (0, .ref (zB E + w79))]) C hf (by decide) dX11_ticks_126 rfl (by decide) (fun v => rfl) (fun x110 hf => ?_)
        refine zr_goto (tgt := 108) C dX11_ticks_129 (by decide) ?_
        refine zsub [1, 0] rfl ?_
        exact hk108 (h109, x110) hf
    refine zsub [1, 0] rfl ?_
    exact L108 n (h85, (0 : Int32)) hf
  have J87 : ∀ (h124 : zH) (w119 : Nat) (x120 : Int32) (x121 : Int32) (w122 : Nat) (x123 : Int32), F_X11_ticks_J87 n h124 w119 x120 x121 w122 x123 = some res → zW p l e (headSpec (zw yX11_ticks cX11_ticks 5 (some .int)) ({ frames := 4, cells := 0, slots := 0, locals := 98 } : Room)).room s m args below meth c E 5 (MQ below (zQc E res.2 (some (.int res.1))) args s 0 0 (zfr E)) 0 0 87 [(0, .ref (zB E + w119)), (1, .int x120), (2, .int x121)] [.int x123, .ref (zB E + w122)] h124 := by
    intro h124 w119 x120 x121 w122 x123 hf
    unfold F_X11_ticks_J87 at hf
    refine zr_iload_n C dX11_ticks_87 rfl 1 rfl ?_
    refine zr_iconst (v := -1) C dX11_ticks_88 (by decide) ?_
    refine zr_icmp_ne (tgt := 96) C hf dX11_ticks_89 (by decide) (fun hf => ?_) (fun hf => ?_)
    · refine zr_aload_n C dX11_ticks_96 rfl 0 rfl ?_
      refine zr_gr C hf kg_X11_22 (fun _ _ _ => rfl) dX11_ticks_97 (fun w125 hf => ?_)
      refine zr_iload_n C dX11_ticks_100 rfl 1 rfl ?_
      refine zr_iaload C hf dX11_ticks_101 (fun x126 hf => ?_)
      refine zsub [0, 2] rfl ?_
      exact J102 h124 w119 x121 w122 x123 x126 hf
    · refine zr_iconst (v := 0) C dX11_ticks_92 (by decide) ?_
      refine zr_goto (tgt := 102) C dX11_ticks_93 (by decide) ?_
      refine zsub [0, 2] rfl ?_
      exact J102 h124 w119 x121 w122 x123 (0 : Int32) hf
  have J16 : ∀ (h161 : zH) (w158 : Nat) (x159 : Int32) (x160 : Int32), F_X11_ticks_J16 n h161 w158 x159 x160 = some res → zW p l e (headSpec (zw yX11_ticks cX11_ticks 5 (some .int)) ({ frames := 4, cells := 0, slots := 0, locals := 98 } : Room)).room s m args below meth c E 5 (MQ below (zQc E res.2 (some (.int res.1))) args s 0 0 (zfr E)) 0 0 16 [(0, .ref (zB E + w158)), (1, .int x159), (2, .int x160)] [] h161 := by
    intro h161 w158 x159 x160 hf
    unfold F_X11_ticks_J16 at hf
    refine zr_aload_n C dX11_ticks_16 rfl 0 rfl ?_
    refine zr_gi C hf kg_X11_149 (fun _ _ _ => rfl) dX11_ticks_17 (fun x162 hf => ?_)
    refine zr_if_ne (tgt := 26) C hf dX11_ticks_20 (by decide) (fun hf => ?_) (fun hf => ?_)
    · refine zr_iload_n C dX11_ticks_26 rfl 2 rfl ?_
      refine zr_iconst (v := 1) C dX11_ticks_27 (by decide) ?_
      refine zr_bipush (v := 100) C dX11_ticks_28 (by decide) ?_
      refine zr_callSi (As := [.int x160, .int (1 : Int32), .int (100 : Int32)]) (rest := []) C hf (fun x hx => c_X11_within l E n h161 x160 (1 : Int32) (100 : Int32) x hx) ks_X11_111 rfl rfl (Nat.le_of_ble_eq_true rfl) ⟨rfl, rfl⟩ ⟨Nat.le_of_ble_eq_true rfl, Nat.le_of_ble_eq_true rfl⟩ ⟨Nat.le_of_ble_eq_true rfl, Nat.le_of_ble_eq_true rfl⟩ dX11_ticks_30 (fun x164 h163 hf => ?_)
      refine zr_if_ne (tgt := 39) C hf dX11_ticks_33 (by decide) (fun hf => ?_) (fun hf => ?_)
      · refine zr_aload_n C dX11_ticks_39 rfl 0 rfl ?_
        refine zr_callVv (As := []) (rest := []) C hf (fun x hx => c_X11_loadLive l E n h163 w158 x hx) kv_X11_201 rfl rfl (Nat.le_of_ble_eq_true rfl) ⟨rfl, rfl⟩ ⟨Nat.le_of_ble_eq_true rfl, Nat.le_of_ble_eq_true rfl⟩ ⟨Nat.le_of_ble_eq_true rfl, Nat.le_of_ble_eq_true rfl⟩ dX11_ticks_40 (fun _ h165 hf => ?_)
        refine zr_iconst (v := 0) C dX11_ticks_43 (by decide) ?_
        refine zr_istore_n (lo2 := [(3, .int (0 : Int32)), (0, .ref (zB E + w158)), (1, .int x159), (2, .int x160)]) C dX11_ticks_44 rfl (by decide) rfl ?_
        have L45 : ∀ (fu : Nat) (x : zH × Int32), zloop (fun kc x => F_X11_ticks_B45 n kc x.1 w158 x159 x160 x.2) fu x = some res → zW p l e (headSpec (zw yX11_ticks cX11_ticks 5 (some .int)) ({ frames := 4, cells := 0, slots := 0, locals := 98 } : Room)).room s m args below meth c E 5 (MQ below (zQc E res.2 (some (.int res.1))) args s 0 0 (zfr E)) 0 0 45 [(0, .ref (zB E + w158)), (1, .int x159), (2, .int x160), (3, .int x.2)] [] x.1 := by
          refine z_loop _ ?_
          intro kc45 hk45 x hf
          obtain ⟨h167, x166⟩ := x
          dsimp only at hf ⊢
          unfold F_X11_ticks_B45 at hf
          refine zr_iload_n C dX11_ticks_45 rfl 3 rfl ?_
          refine zr_aload_n C dX11_ticks_46 rfl 0 rfl ?_
          refine zr_gi C hf kg_X11_146 (fun _ _ _ => rfl) dX11_ticks_47 (fun x168 hf => ?_)
          refine zr_icmp_ge (tgt := 71) C hf dX11_ticks_50 (by decide) (fun hf => ?_) (fun hf => ?_)
          · refine zr_aload_n C dX11_ticks_71 rfl 0 rfl ?_
            refine zr_iload_n C dX11_ticks_72 rfl 1 rfl ?_
            refine zr_iconst (v := -1) C dX11_ticks_73 (by decide) ?_
            refine zr_icmp_ne (tgt := 81) C hf dX11_ticks_74 (by decide) (fun hf => ?_) (fun hf => ?_)
            · refine zr_aload_n C dX11_ticks_81 rfl 0 rfl ?_
              refine zr_gr C hf kg_X11_19 (fun _ _ _ => rfl) dX11_ticks_82 (fun w169 hf => ?_)
              refine zr_iload_n C dX11_ticks_85 rfl 1 rfl ?_
              refine zr_iaload C hf dX11_ticks_86 (fun x170 hf => ?_)
              refine zsub [0, 1, 2] rfl ?_
              exact J87 h167 w158 x159 x160 w158 x170 hf
            · refine zr_iconst (v := 0) C dX11_ticks_77 (by decide) ?_
              refine zr_goto (tgt := 87) C dX11_ticks_78 (by decide) ?_
              refine zsub [0, 1, 2] rfl ?_
              exact J87 h167 w158 x159 x160 w158 (0 : Int32) hf
          · refine zr_aload_n C dX11_ticks_53 rfl 0 rfl ?_
            refine zr_gr C hf kg_X11_40 (fun _ _ _ => rfl) dX11_ticks_54 (fun w171 hf => ?_)
            refine zr_iload_n C dX11_ticks_57 rfl 3 rfl ?_
            refine zr_aload_n C dX11_ticks_58 rfl 0 rfl ?_
            refine zr_gr C hf kg_X11_25 (fun _ _ _ => rfl) dX11_ticks_59 (fun w172 hf => ?_)
            refine zr_iload_n C dX11_ticks_62 rfl 3 rfl ?_
            refine zr_iaload C hf dX11_ticks_63 (fun x173 hf => ?_)
            refine zr_iastore C hf dX11_ticks_64 (fun h174 hf => ?_)
            refine zr_iinc (v0 := 1) (k := 3) (f := fun v => [(3, .int v), (0, .ref (zB E + w158)), (1, .int x159), (2, .int x160)]) C hf (by decide) dX11_ticks_65 rfl (by decide) (fun v => rfl) (fun x175 hf => ?_)
            refine zr_goto (tgt := 45) C dX11_ticks_68 (by decide) ?_
            refine zsub [1, 2, 3, 0] rfl ?_
            exact hk45 (h174, x175) hf
        refine zsub [1, 2, 3, 0] rfl ?_
        exact L45 n (h165, (0 : Int32)) hf
      · refine zr_bipush (v := -102) C dX11_ticks_36 (by decide) ?_
        exact zr_ireturn C hf hr (Nat.le_of_ble_eq_true rfl) (Nat.le_of_ble_eq_true rfl) dX11_ticks_38
    · refine zr_bipush (v := -103) C dX11_ticks_23 (by decide) ?_
      exact zr_ireturn C hf hr (Nat.le_of_ble_eq_true rfl) (Nat.le_of_ble_eq_true rfl) dX11_ticks_25
  refine zr_iload_n C dX11_ticks_0 rfl 1 rfl ?_
  refine zr_iconst (v := -1) C dX11_ticks_1 (by decide) ?_
  refine zr_icmp_eq (tgt := 16) C hf dX11_ticks_2 (by decide) (fun hf => ?_) (fun hf => ?_)
  · exact J16 h a0 p0 p1 hf
  · refine zr_aload_n C dX11_ticks_5 rfl 0 rfl ?_
    refine zr_iload_n C dX11_ticks_6 rfl 1 rfl ?_
    refine zr_callVi (As := [.int p0]) (rest := []) C hf (fun x hx => c_X11_isDoing l E n h a0 p0 x hx) kv_X11_164 rfl rfl (Nat.le_of_ble_eq_true rfl) ⟨rfl, rfl⟩ ⟨Nat.le_of_ble_eq_true rfl, Nat.le_of_ble_eq_true rfl⟩ ⟨Nat.le_of_ble_eq_true rfl, Nat.le_of_ble_eq_true rfl⟩ dX11_ticks_7 (fun x177 h176 hf => ?_)
    refine zr_if_ne (tgt := 16) C hf dX11_ticks_10 (by decide) (fun hf => ?_) (fun hf => ?_)
    · exact J16 h176 a0 p0 p1 hf
    · refine zr_bipush (v := -101) C dX11_ticks_13 (by decide) ?_
      exact zr_ireturn C hf hr (Nat.le_of_ble_eq_true rfl) (Nat.le_of_ble_eq_true rfl) dX11_ticks_15
theorem dX11_still_0 : decode cX11_still 0 = .ok (.aload_n 0, 1) := by decide +kernel
theorem dX11_still_1 : decode cX11_still 1 = .ok (.getfield 149, 3) := by decide +kernel
theorem dX11_still_4 : decode cX11_still 4 = .ok (.ifCond .ne 6, 3) := by decide +kernel
theorem dX11_still_7 : decode cX11_still 7 = .ok (.bipush (-103), 2) := by decide +kernel
theorem dX11_still_9 : decode cX11_still 9 = .ok (.ireturn, 1) := by decide +kernel
theorem dX11_still_10 : decode cX11_still 10 = .ok (.iconst 0, 1) := by decide +kernel
theorem dX11_still_11 : decode cX11_still 11 = .ok (.istore_n 1, 1) := by decide +kernel
theorem dX11_still_12 : decode cX11_still 12 = .ok (.iload_n 1, 1) := by decide +kernel
theorem dX11_still_13 : decode cX11_still 13 = .ok (.bipush 24, 2) := by decide +kernel
theorem dX11_still_15 : decode cX11_still 15 = .ok (.if_icmp .ge 16, 3) := by decide +kernel
theorem dX11_still_18 : decode cX11_still 18 = .ok (.aload_n 0, 1) := by decide +kernel
theorem dX11_still_19 : decode cX11_still 19 = .ok (.getfield 13, 3) := by decide +kernel
theorem dX11_still_22 : decode cX11_still 22 = .ok (.iload_n 1, 1) := by decide +kernel
theorem dX11_still_23 : decode cX11_still 23 = .ok (.iconst 0, 1) := by decide +kernel
theorem dX11_still_24 : decode cX11_still 24 = .ok (.iastore, 1) := by decide +kernel
theorem dX11_still_25 : decode cX11_still 25 = .ok (.iinc 1 1, 3) := by decide +kernel
theorem dX11_still_28 : decode cX11_still 28 = .ok (.goto (-16), 3) := by decide +kernel
theorem dX11_still_31 : decode cX11_still 31 = .ok (.iconst 0, 1) := by decide +kernel
theorem dX11_still_32 : decode cX11_still 32 = .ok (.istore_n 1, 1) := by decide +kernel
theorem dX11_still_33 : decode cX11_still 33 = .ok (.iload_n 1, 1) := by decide +kernel
theorem dX11_still_34 : decode cX11_still 34 = .ok (.aload_n 0, 1) := by decide +kernel
theorem dX11_still_35 : decode cX11_still 35 = .ok (.getfield 146, 3) := by decide +kernel
theorem dX11_still_38 : decode cX11_still 38 = .ok (.if_icmp .ge 21, 3) := by decide +kernel
theorem dX11_still_41 : decode cX11_still 41 = .ok (.aload_n 0, 1) := by decide +kernel
theorem dX11_still_42 : decode cX11_still 42 = .ok (.getfield 25, 3) := by decide +kernel
theorem dX11_still_45 : decode cX11_still 45 = .ok (.iload_n 1, 1) := by decide +kernel
theorem dX11_still_46 : decode cX11_still 46 = .ok (.aload_n 0, 1) := by decide +kernel
theorem dX11_still_47 : decode cX11_still 47 = .ok (.getfield 28, 3) := by decide +kernel
theorem dX11_still_50 : decode cX11_still 50 = .ok (.iload_n 1, 1) := by decide +kernel
theorem dX11_still_51 : decode cX11_still 51 = .ok (.iaload, 1) := by decide +kernel
theorem dX11_still_52 : decode cX11_still 52 = .ok (.iastore, 1) := by decide +kernel
theorem dX11_still_53 : decode cX11_still 53 = .ok (.iinc 1 1, 3) := by decide +kernel
theorem dX11_still_56 : decode cX11_still 56 = .ok (.goto (-23), 3) := by decide +kernel
theorem dX11_still_59 : decode cX11_still 59 = .ok (.iconst 1, 1) := by decide +kernel
theorem dX11_still_60 : decode cX11_still 60 = .ok (.ireturn, 1) := by decide +kernel
set_option maxHeartbeats 4000000 in
set_option maxRecDepth 100000 in
theorem c_X11_still (l : Launch) (E : zE) (n : Nat) (h : zH) (a0 : Nat) (res : Int32 × zH) (hf : F_X11_still n h a0 = some res) : Met l yX11_still (zw yX11_still cX11_still 2 (some .int)) ({ frames := 0, cells := 0, slots := 0, locals := 0 } : Room) (zPc E h [.ref (zB E + a0)]) (zQc E res.2 (some (.int res.1))) 0 0 (zfr E) := by
  refine zmet (lo := [(0, .ref (zB E + a0))]) (by decide +kernel) (Nat.le_of_ble_eq_true rfl) rfl ?_
  intro p e s m args below meth c C hr hin
  unfold F_X11_still at hf
  refine zr_aload_n C dX11_still_0 rfl 0 rfl ?_
  refine zr_gi C hf kg_X11_149 (fun _ _ _ => rfl) dX11_still_1 (fun x1 hf => ?_)
  refine zr_if_ne (tgt := 10) C hf dX11_still_4 (by decide) (fun hf => ?_) (fun hf => ?_)
  · refine zr_iconst (v := 0) C dX11_still_10 (by decide) ?_
    refine zr_istore_n (lo2 := [(1, .int (0 : Int32)), (0, .ref (zB E + a0))]) C dX11_still_11 rfl (by decide) rfl ?_
    have L12 : ∀ (fu : Nat) (x : zH × Int32), zloop (fun kc x => F_X11_still_B12 n kc x.1 a0 x.2) fu x = some res → zW p l e (headSpec (zw yX11_still cX11_still 2 (some .int)) ({ frames := 0, cells := 0, slots := 0, locals := 0 } : Room)).room s m args below meth c E 2 (MQ below (zQc E res.2 (some (.int res.1))) args s 0 0 (zfr E)) 0 0 12 [(0, .ref (zB E + a0)), (1, .int x.2)] [] x.1 := by
      refine z_loop _ ?_
      intro kc12 hk12 x hf
      obtain ⟨h26, x25⟩ := x
      dsimp only at hf ⊢
      unfold F_X11_still_B12 at hf
      refine zr_iload_n C dX11_still_12 rfl 1 rfl ?_
      refine zr_bipush (v := 24) C dX11_still_13 (by decide) ?_
      refine zr_icmp_ge (tgt := 31) C hf dX11_still_15 (by decide) (fun hf => ?_) (fun hf => ?_)
      · refine zr_iconst (v := 0) C dX11_still_31 (by decide) ?_
        refine zr_istore_n (lo2 := [(1, .int (0 : Int32)), (0, .ref (zB E + a0))]) C dX11_still_32 rfl (by decide) rfl ?_
        have L33 : ∀ (fu : Nat) (x : zH × Int32), zloop (fun kc x => F_X11_still_B33 n kc x.1 a0 x.2) fu x = some res → zW p l e (headSpec (zw yX11_still cX11_still 2 (some .int)) ({ frames := 0, cells := 0, slots := 0, locals := 0 } : Room)).room s m args below meth c E 2 (MQ below (zQc E res.2 (some (.int res.1))) args s 0 0 (zfr E)) 0 0 33 [(0, .ref (zB E + a0)), (1, .int x.2)] [] x.1 := by
          refine z_loop _ ?_
          intro kc33 hk33 x hf
          obtain ⟨h28, x27⟩ := x
          dsimp only at hf ⊢
          unfold F_X11_still_B33 at hf
          refine zr_iload_n C dX11_still_33 rfl 1 rfl ?_
          refine zr_aload_n C dX11_still_34 rfl 0 rfl ?_
          refine zr_gi C hf kg_X11_146 (fun _ _ _ => rfl) dX11_still_35 (fun x29 hf => ?_)
          refine zr_icmp_ge (tgt := 59) C hf dX11_still_38 (by decide) (fun hf => ?_) (fun hf => ?_)
          · refine zr_iconst (v := 1) C dX11_still_59 (by decide) ?_
            exact zr_ireturn C hf hr (Nat.le_of_ble_eq_true rfl) (Nat.le_of_ble_eq_true rfl) dX11_still_60
          · refine zr_aload_n C dX11_still_41 rfl 0 rfl ?_
            refine zr_gr C hf kg_X11_25 (fun _ _ _ => rfl) dX11_still_42 (fun w30 hf => ?_)
            refine zr_iload_n C dX11_still_45 rfl 1 rfl ?_
            refine zr_aload_n C dX11_still_46 rfl 0 rfl ?_
            refine zr_gr C hf kg_X11_28 (fun _ _ _ => rfl) dX11_still_47 (fun w31 hf => ?_)
            refine zr_iload_n C dX11_still_50 rfl 1 rfl ?_
            refine zr_iaload C hf dX11_still_51 (fun x32 hf => ?_)
            refine zr_iastore C hf dX11_still_52 (fun h33 hf => ?_)
            refine zr_iinc (v0 := 1) (k := 1) (f := fun v => [(1, .int v), (0, .ref (zB E + a0))]) C hf (by decide) dX11_still_53 rfl (by decide) (fun v => rfl) (fun x34 hf => ?_)
            refine zr_goto (tgt := 33) C dX11_still_56 (by decide) ?_
            refine zsub [1, 0] rfl ?_
            exact hk33 (h33, x34) hf
        refine zsub [1, 0] rfl ?_
        exact L33 n (h26, (0 : Int32)) hf
      · refine zr_aload_n C dX11_still_18 rfl 0 rfl ?_
        refine zr_gr C hf kg_X11_13 (fun _ _ _ => rfl) dX11_still_19 (fun w35 hf => ?_)
        refine zr_iload_n C dX11_still_22 rfl 1 rfl ?_
        refine zr_iconst (v := 0) C dX11_still_23 (by decide) ?_
        refine zr_iastore C hf dX11_still_24 (fun h36 hf => ?_)
        refine zr_iinc (v0 := 1) (k := 1) (f := fun v => [(1, .int v), (0, .ref (zB E + a0))]) C hf (by decide) dX11_still_25 rfl (by decide) (fun v => rfl) (fun x37 hf => ?_)
        refine zr_goto (tgt := 12) C dX11_still_28 (by decide) ?_
        refine zsub [1, 0] rfl ?_
        exact hk12 (h36, x37) hf
    refine zsub [1, 0] rfl ?_
    exact L12 n (h, (0 : Int32)) hf
  · refine zr_bipush (v := -103) C dX11_still_7 (by decide) ?_
    exact zr_ireturn C hf hr (Nat.le_of_ble_eq_true rfl) (Nat.le_of_ble_eq_true rfl) dX11_still_9
theorem dX11_round_0 : decode cX11_round 0 = .ok (.aload_n 0, 1) := by decide +kernel
theorem dX11_round_1 : decode cX11_round 1 = .ok (.iload_n 1, 1) := by decide +kernel
theorem dX11_round_2 : decode cX11_round 2 = .ok (.invokevirtual 167, 3) := by decide +kernel
theorem dX11_round_5 : decode cX11_round 5 = .ok (.ifCond .eq 32, 3) := by decide +kernel
theorem dX11_round_8 : decode cX11_round 8 = .ok (.iload_n 2, 1) := by decide +kernel
theorem dX11_round_9 : decode cX11_round 9 = .ok (.iconst 0, 1) := by decide +kernel
theorem dX11_round_10 : decode cX11_round 10 = .ok (.aload_n 0, 1) := by decide +kernel
theorem dX11_round_11 : decode cX11_round 11 = .ok (.getfield 7, 3) := by decide +kernel
theorem dX11_round_14 : decode cX11_round 14 = .ok (.iconst 1, 1) := by decide +kernel
theorem dX11_round_15 : decode cX11_round 15 = .ok (.iaload, 1) := by decide +kernel
theorem dX11_round_16 : decode cX11_round 16 = .ok (.iconst 1, 1) := by decide +kernel
theorem dX11_round_17 : decode cX11_round 17 = .ok (.isub, 1) := by decide +kernel
theorem dX11_round_18 : decode cX11_round 18 = .ok (.invokestatic 111, 3) := by decide +kernel
theorem dX11_round_21 : decode cX11_round 21 = .ok (.ifCond .eq 16, 3) := by decide +kernel
theorem dX11_round_24 : decode cX11_round 24 = .ok (.aload_n 0, 1) := by decide +kernel
theorem dX11_round_25 : decode cX11_round 25 = .ok (.getfield 13, 3) := by decide +kernel
theorem dX11_round_28 : decode cX11_round 28 = .ok (.iconst 4, 1) := by decide +kernel
theorem dX11_round_29 : decode cX11_round 29 = .ok (.iload_n 1, 1) := by decide +kernel
theorem dX11_round_30 : decode cX11_round 30 = .ok (.imul, 1) := by decide +kernel
theorem dX11_round_31 : decode cX11_round 31 = .ok (.iload_n 2, 1) := by decide +kernel
theorem dX11_round_32 : decode cX11_round 32 = .ok (.iadd, 1) := by decide +kernel
theorem dX11_round_33 : decode cX11_round 33 = .ok (.iaload, 1) := by decide +kernel
theorem dX11_round_34 : decode cX11_round 34 = .ok (.goto 6, 3) := by decide +kernel
theorem dX11_round_37 : decode cX11_round 37 = .ok (.sipush (-1001), 3) := by decide +kernel
theorem dX11_round_40 : decode cX11_round 40 = .ok (.ireturn, 1) := by decide +kernel
set_option maxHeartbeats 4000000 in
set_option maxRecDepth 100000 in
theorem c_X11_round (l : Launch) (E : zE) (n : Nat) (h : zH) (a0 : Nat) (p0 : Int32) (p1 : Int32) (res : Int32 × zH) (hf : F_X11_round n h a0 p0 p1 = some res) : Met l yX11_round (zw yX11_round cX11_round 3 (some .int)) ({ frames := 2, cells := 0, slots := 0, locals := 43 } : Room) (zPc E h [.ref (zB E + a0), .int p0, .int p1]) (zQc E res.2 (some (.int res.1))) 0 0 (zfr E) := by
  refine zmet (lo := [(0, .ref (zB E + a0)), (1, .int p0), (2, .int p1)]) (by decide +kernel) (Nat.le_of_ble_eq_true rfl) rfl ?_
  intro p e s m args below meth c C hr hin
  unfold F_X11_round at hf
  have J40 : ∀ (h4 : zH) (x3 : Int32), F_X11_round_J40 n h4 x3 = some res → zW p l e (headSpec (zw yX11_round cX11_round 3 (some .int)) ({ frames := 2, cells := 0, slots := 0, locals := 43 } : Room)).room s m args below meth c E 3 (MQ below (zQc E res.2 (some (.int res.1))) args s 0 0 (zfr E)) 0 0 40 [] [.int x3] h4 := by
    intro h4 x3 hf
    unfold F_X11_round_J40 at hf
    exact zr_ireturn C hf hr (Nat.le_of_ble_eq_true rfl) (Nat.le_of_ble_eq_true rfl) dX11_round_40
  have J37 : ∀ (h6 : zH), F_X11_round_J37 n h6 = some res → zW p l e (headSpec (zw yX11_round cX11_round 3 (some .int)) ({ frames := 2, cells := 0, slots := 0, locals := 43 } : Room)).room s m args below meth c E 3 (MQ below (zQc E res.2 (some (.int res.1))) args s 0 0 (zfr E)) 0 0 37 [] [] h6 := by
    intro h6 hf
    unfold F_X11_round_J37 at hf
    refine zr_sipush (v := -1001) C dX11_round_37 (by decide) ?_
    exact J40 h6 (-1001 : Int32) hf
  refine zr_aload_n C dX11_round_0 rfl 0 rfl ?_
  refine zr_iload_n C dX11_round_1 rfl 1 rfl ?_
  refine zr_callVi (As := [.int p0]) (rest := []) C hf (fun x hx => c_X11_isRing l E n h a0 p0 x hx) kv_X11_167 rfl rfl (Nat.le_of_ble_eq_true rfl) ⟨rfl, rfl⟩ ⟨Nat.le_of_ble_eq_true rfl, Nat.le_of_ble_eq_true rfl⟩ ⟨Nat.le_of_ble_eq_true rfl, Nat.le_of_ble_eq_true rfl⟩ dX11_round_2 (fun x8 h7 hf => ?_)
  refine zr_if_eq (tgt := 37) C hf dX11_round_5 (by decide) (fun hf => ?_) (fun hf => ?_)
  · refine zsub [] rfl ?_
    exact J37 h7 hf
  · refine zr_iload_n C dX11_round_8 rfl 2 rfl ?_
    refine zr_iconst (v := 0) C dX11_round_9 (by decide) ?_
    refine zr_aload_n C dX11_round_10 rfl 0 rfl ?_
    refine zr_gr C hf kg_X11_7 (fun _ _ _ => rfl) dX11_round_11 (fun w9 hf => ?_)
    refine zr_iconst (v := 1) C dX11_round_14 (by decide) ?_
    refine zr_iaload C hf dX11_round_15 (fun x10 hf => ?_)
    refine zr_iconst (v := 1) C dX11_round_16 (by decide) ?_
    refine zr_isub C hf dX11_round_17 (fun x11 hf => ?_)
    refine zr_callSi (As := [.int p1, .int (0 : Int32), .int x11]) (rest := []) C hf (fun x hx => c_X11_within l E n h7 p1 (0 : Int32) x11 x hx) ks_X11_111 rfl rfl (Nat.le_of_ble_eq_true rfl) ⟨rfl, rfl⟩ ⟨Nat.le_of_ble_eq_true rfl, Nat.le_of_ble_eq_true rfl⟩ ⟨Nat.le_of_ble_eq_true rfl, Nat.le_of_ble_eq_true rfl⟩ dX11_round_18 (fun x13 h12 hf => ?_)
    refine zr_if_eq (tgt := 37) C hf dX11_round_21 (by decide) (fun hf => ?_) (fun hf => ?_)
    · refine zsub [] rfl ?_
      exact J37 h12 hf
    · refine zr_aload_n C dX11_round_24 rfl 0 rfl ?_
      refine zr_gr C hf kg_X11_13 (fun _ _ _ => rfl) dX11_round_25 (fun w14 hf => ?_)
      refine zr_iconst (v := 4) C dX11_round_28 (by decide) ?_
      refine zr_iload_n C dX11_round_29 rfl 1 rfl ?_
      refine zr_imul C hf dX11_round_30 (fun x15 hf => ?_)
      refine zr_iload_n C dX11_round_31 rfl 2 rfl ?_
      refine zr_iadd C hf dX11_round_32 (fun x16 hf => ?_)
      refine zr_iaload C hf dX11_round_33 (fun x17 hf => ?_)
      refine zr_goto (tgt := 40) C dX11_round_34 (by decide) ?_
      refine zsub [] rfl ?_
      exact J40 h12 x17 hf
theorem dX11_second_0 : decode cX11_second 0 = .ok (.aload_n 0, 1) := by decide +kernel
theorem dX11_second_1 : decode cX11_second 1 = .ok (.iload_n 1, 1) := by decide +kernel
theorem dX11_second_2 : decode cX11_second 2 = .ok (.invokevirtual 167, 3) := by decide +kernel
theorem dX11_second_5 : decode cX11_second 5 = .ok (.ifCond .ne 7, 3) := by decide +kernel
theorem dX11_second_8 : decode cX11_second 8 = .ok (.sipush (-1001), 3) := by decide +kernel
theorem dX11_second_11 : decode cX11_second 11 = .ok (.ireturn, 1) := by decide +kernel
theorem dX11_second_12 : decode cX11_second 12 = .ok (.aload_n 0, 1) := by decide +kernel
theorem dX11_second_13 : decode cX11_second 13 = .ok (.invokevirtual 201, 3) := by decide +kernel
theorem dX11_second_16 : decode cX11_second 16 = .ok (.aload_n 0, 1) := by decide +kernel
theorem dX11_second_17 : decode cX11_second 17 = .ok (.iload_n 1, 1) := by decide +kernel
theorem dX11_second_18 : decode cX11_second 18 = .ok (.invokevirtual 182, 3) := by decide +kernel
theorem dX11_second_21 : decode cX11_second 21 = .ok (.ireturn, 1) := by decide +kernel
set_option maxHeartbeats 4000000 in
set_option maxRecDepth 100000 in
theorem c_X11_second (l : Launch) (E : zE) (n : Nat) (h : zH) (a0 : Nat) (p0 : Int32) (res : Int32 × zH) (hf : F_X11_second n h a0 p0 = some res) : Met l yX11_second (zw yX11_second cX11_second 2 (some .int)) ({ frames := 2, cells := 0, slots := 0, locals := 43 } : Room) (zPc E h [.ref (zB E + a0), .int p0]) (zQc E res.2 (some (.int res.1))) 0 0 (zfr E) := by
  refine zmet (lo := [(0, .ref (zB E + a0)), (1, .int p0)]) (by decide +kernel) (Nat.le_of_ble_eq_true rfl) rfl ?_
  intro p e s m args below meth c C hr hin
  unfold F_X11_second at hf
  refine zr_aload_n C dX11_second_0 rfl 0 rfl ?_
  refine zr_iload_n C dX11_second_1 rfl 1 rfl ?_
  refine zr_callVi (As := [.int p0]) (rest := []) C hf (fun x hx => c_X11_isRing l E n h a0 p0 x hx) kv_X11_167 rfl rfl (Nat.le_of_ble_eq_true rfl) ⟨rfl, rfl⟩ ⟨Nat.le_of_ble_eq_true rfl, Nat.le_of_ble_eq_true rfl⟩ ⟨Nat.le_of_ble_eq_true rfl, Nat.le_of_ble_eq_true rfl⟩ dX11_second_2 (fun x2 h1 hf => ?_)
  refine zr_if_ne (tgt := 12) C hf dX11_second_5 (by decide) (fun hf => ?_) (fun hf => ?_)
  · refine zr_aload_n C dX11_second_12 rfl 0 rfl ?_
    refine zr_callVv (As := []) (rest := []) C hf (fun x hx => c_X11_loadLive l E n h1 a0 x hx) kv_X11_201 rfl rfl (Nat.le_of_ble_eq_true rfl) ⟨rfl, rfl⟩ ⟨Nat.le_of_ble_eq_true rfl, Nat.le_of_ble_eq_true rfl⟩ ⟨Nat.le_of_ble_eq_true rfl, Nat.le_of_ble_eq_true rfl⟩ dX11_second_13 (fun _ h3 hf => ?_)
    refine zr_aload_n C dX11_second_16 rfl 0 rfl ?_
    refine zr_iload_n C dX11_second_17 rfl 1 rfl ?_
    refine zr_callVi (As := [.int p0]) (rest := []) C hf (fun x hx => c_X11_secondNow l E n h3 a0 p0 x hx) kv_X11_182 rfl rfl (Nat.le_of_ble_eq_true rfl) ⟨rfl, rfl⟩ ⟨Nat.le_of_ble_eq_true rfl, Nat.le_of_ble_eq_true rfl⟩ ⟨Nat.le_of_ble_eq_true rfl, Nat.le_of_ble_eq_true rfl⟩ dX11_second_18 (fun x5 h4 hf => ?_)
    exact zr_ireturn C hf hr (Nat.le_of_ble_eq_true rfl) (Nat.le_of_ble_eq_true rfl) dX11_second_21
  · refine zr_sipush (v := -1001) C dX11_second_8 (by decide) ?_
    exact zr_ireturn C hf hr (Nat.le_of_ble_eq_true rfl) (Nat.le_of_ble_eq_true rfl) dX11_second_11
theorem dX11_would_0 : decode cX11_would 0 = .ok (.aload_n 0, 1) := by decide +kernel
theorem dX11_would_1 : decode cX11_would 1 = .ok (.iload_n 1, 1) := by decide +kernel
theorem dX11_would_2 : decode cX11_would 2 = .ok (.invokevirtual 164, 3) := by decide +kernel
theorem dX11_would_5 : decode cX11_would 5 = .ok (.ifCond .eq 11, 3) := by decide +kernel
theorem dX11_would_8 : decode cX11_would 8 = .ok (.aload_n 0, 1) := by decide +kernel
theorem dX11_would_9 : decode cX11_would 9 = .ok (.iload_n 3, 1) := by decide +kernel
theorem dX11_would_10 : decode cX11_would 10 = .ok (.invokevirtual 167, 3) := by decide +kernel
theorem dX11_would_13 : decode cX11_would 13 = .ok (.ifCond .ne 7, 3) := by decide +kernel
theorem dX11_would_16 : decode cX11_would 16 = .ok (.sipush (-1001), 3) := by decide +kernel
theorem dX11_would_19 : decode cX11_would 19 = .ok (.ireturn, 1) := by decide +kernel
theorem dX11_would_20 : decode cX11_would 20 = .ok (.iload_n 2, 1) := by decide +kernel
theorem dX11_would_21 : decode cX11_would 21 = .ok (.iconst 1, 1) := by decide +kernel
theorem dX11_would_22 : decode cX11_would 22 = .ok (.bipush 100, 2) := by decide +kernel
theorem dX11_would_24 : decode cX11_would 24 = .ok (.invokestatic 111, 3) := by decide +kernel
theorem dX11_would_27 : decode cX11_would 27 = .ok (.ifCond .ne 7, 3) := by decide +kernel
theorem dX11_would_30 : decode cX11_would 30 = .ok (.sipush (-1002), 3) := by decide +kernel
theorem dX11_would_33 : decode cX11_would 33 = .ok (.ireturn, 1) := by decide +kernel
theorem dX11_would_34 : decode cX11_would 34 = .ok (.aload_n 0, 1) := by decide +kernel
theorem dX11_would_35 : decode cX11_would 35 = .ok (.invokevirtual 207, 3) := by decide +kernel
theorem dX11_would_38 : decode cX11_would 38 = .ok (.iconst 0, 1) := by decide +kernel
theorem dX11_would_39 : decode cX11_would 39 = .ok (.istore 4, 2) := by decide +kernel
theorem dX11_would_41 : decode cX11_would 41 = .ok (.iload 4, 2) := by decide +kernel
theorem dX11_would_43 : decode cX11_would 43 = .ok (.iload_n 2, 1) := by decide +kernel
theorem dX11_would_44 : decode cX11_would 44 = .ok (.if_icmp .ge 25, 3) := by decide +kernel
theorem dX11_would_47 : decode cX11_would 47 = .ok (.aload_n 0, 1) := by decide +kernel
theorem dX11_would_48 : decode cX11_would 48 = .ok (.aload_n 0, 1) := by decide +kernel
theorem dX11_would_49 : decode cX11_would 49 = .ok (.getfield 19, 3) := by decide +kernel
theorem dX11_would_52 : decode cX11_would 52 = .ok (.iload_n 1, 1) := by decide +kernel
theorem dX11_would_53 : decode cX11_would 53 = .ok (.iaload, 1) := by decide +kernel
theorem dX11_would_54 : decode cX11_would 54 = .ok (.aload_n 0, 1) := by decide +kernel
theorem dX11_would_55 : decode cX11_would 55 = .ok (.getfield 22, 3) := by decide +kernel
theorem dX11_would_58 : decode cX11_would 58 = .ok (.iload_n 1, 1) := by decide +kernel
theorem dX11_would_59 : decode cX11_would 59 = .ok (.iaload, 1) := by decide +kernel
theorem dX11_would_60 : decode cX11_would 60 = .ok (.invokevirtual 188, 3) := by decide +kernel
theorem dX11_would_63 : decode cX11_would 63 = .ok (.iinc 4 1, 3) := by decide +kernel
theorem dX11_would_66 : decode cX11_would 66 = .ok (.goto (-25), 3) := by decide +kernel
theorem dX11_would_69 : decode cX11_would 69 = .ok (.aload_n 0, 1) := by decide +kernel
theorem dX11_would_70 : decode cX11_would 70 = .ok (.iload_n 3, 1) := by decide +kernel
theorem dX11_would_71 : decode cX11_would 71 = .ok (.invokevirtual 182, 3) := by decide +kernel
theorem dX11_would_74 : decode cX11_would 74 = .ok (.ireturn, 1) := by decide +kernel
set_option maxHeartbeats 4000000 in
set_option maxRecDepth 100000 in
theorem c_X11_would (l : Launch) (E : zE) (n : Nat) (h : zH) (a0 : Nat) (p0 : Int32) (p1 : Int32) (p2 : Int32) (res : Int32 × zH) (hf : F_X11_would n h a0 p0 p1 p2 = some res) : Met l yX11_would (zw yX11_would cX11_would 5 (some .int)) ({ frames := 3, cells := 0, slots := 0, locals := 73 } : Room) (zPc E h [.ref (zB E + a0), .int p0, .int p1, .int p2]) (zQc E res.2 (some (.int res.1))) 0 0 (zfr E) := by
  refine zmet (lo := [(0, .ref (zB E + a0)), (1, .int p0), (2, .int p1), (3, .int p2)]) (by decide +kernel) (Nat.le_of_ble_eq_true rfl) rfl ?_
  intro p e s m args below meth c C hr hin
  unfold F_X11_would at hf
  have J16 : ∀ (h2 : zH), F_X11_would_J16 n h2 = some res → zW p l e (headSpec (zw yX11_would cX11_would 5 (some .int)) ({ frames := 3, cells := 0, slots := 0, locals := 73 } : Room)).room s m args below meth c E 5 (MQ below (zQc E res.2 (some (.int res.1))) args s 0 0 (zfr E)) 0 0 16 [] [] h2 := by
    intro h2 hf
    unfold F_X11_would_J16 at hf
    refine zr_sipush (v := -1001) C dX11_would_16 (by decide) ?_
    exact zr_ireturn C hf hr (Nat.le_of_ble_eq_true rfl) (Nat.le_of_ble_eq_true rfl) dX11_would_19
  refine zr_aload_n C dX11_would_0 rfl 0 rfl ?_
  refine zr_iload_n C dX11_would_1 rfl 1 rfl ?_
  refine zr_callVi (As := [.int p0]) (rest := []) C hf (fun x hx => c_X11_isDoing l E n h a0 p0 x hx) kv_X11_164 rfl rfl (Nat.le_of_ble_eq_true rfl) ⟨rfl, rfl⟩ ⟨Nat.le_of_ble_eq_true rfl, Nat.le_of_ble_eq_true rfl⟩ ⟨Nat.le_of_ble_eq_true rfl, Nat.le_of_ble_eq_true rfl⟩ dX11_would_2 (fun x4 h3 hf => ?_)
  refine zr_if_eq (tgt := 16) C hf dX11_would_5 (by decide) (fun hf => ?_) (fun hf => ?_)
  · refine zsub [] rfl ?_
    exact J16 h3 hf
  · refine zr_aload_n C dX11_would_8 rfl 0 rfl ?_
    refine zr_iload_n C dX11_would_9 rfl 3 rfl ?_
    refine zr_callVi (As := [.int p2]) (rest := []) C hf (fun x hx => c_X11_isRing l E n h3 a0 p2 x hx) kv_X11_167 rfl rfl (Nat.le_of_ble_eq_true rfl) ⟨rfl, rfl⟩ ⟨Nat.le_of_ble_eq_true rfl, Nat.le_of_ble_eq_true rfl⟩ ⟨Nat.le_of_ble_eq_true rfl, Nat.le_of_ble_eq_true rfl⟩ dX11_would_10 (fun x6 h5 hf => ?_)
    refine zr_if_ne (tgt := 20) C hf dX11_would_13 (by decide) (fun hf => ?_) (fun hf => ?_)
    · refine zr_iload_n C dX11_would_20 rfl 2 rfl ?_
      refine zr_iconst (v := 1) C dX11_would_21 (by decide) ?_
      refine zr_bipush (v := 100) C dX11_would_22 (by decide) ?_
      refine zr_callSi (As := [.int p1, .int (1 : Int32), .int (100 : Int32)]) (rest := []) C hf (fun x hx => c_X11_within l E n h5 p1 (1 : Int32) (100 : Int32) x hx) ks_X11_111 rfl rfl (Nat.le_of_ble_eq_true rfl) ⟨rfl, rfl⟩ ⟨Nat.le_of_ble_eq_true rfl, Nat.le_of_ble_eq_true rfl⟩ ⟨Nat.le_of_ble_eq_true rfl, Nat.le_of_ble_eq_true rfl⟩ dX11_would_24 (fun x8 h7 hf => ?_)
      refine zr_if_ne (tgt := 34) C hf dX11_would_27 (by decide) (fun hf => ?_) (fun hf => ?_)
      · refine zr_aload_n C dX11_would_34 rfl 0 rfl ?_
        refine zr_callVv (As := []) (rest := []) C hf (fun x hx => c_X11_loadStill l E n h7 a0 x hx) kv_X11_207 rfl rfl (Nat.le_of_ble_eq_true rfl) ⟨rfl, rfl⟩ ⟨Nat.le_of_ble_eq_true rfl, Nat.le_of_ble_eq_true rfl⟩ ⟨Nat.le_of_ble_eq_true rfl, Nat.le_of_ble_eq_true rfl⟩ dX11_would_35 (fun _ h9 hf => ?_)
        refine zr_iconst (v := 0) C dX11_would_38 (by decide) ?_
        refine zr_istore (lo2 := [(4, .int (0 : Int32)), (0, .ref (zB E + a0)), (1, .int p0), (2, .int p1), (3, .int p2)]) C dX11_would_39 (by decide) rfl ?_
        have L41 : ∀ (fu : Nat) (x : zH × Int32), zloop (fun kc x => F_X11_would_B41 n kc x.1 a0 p0 p1 p2 x.2) fu x = some res → zW p l e (headSpec (zw yX11_would cX11_would 5 (some .int)) ({ frames := 3, cells := 0, slots := 0, locals := 73 } : Room)).room s m args below meth c E 5 (MQ below (zQc E res.2 (some (.int res.1))) args s 0 0 (zfr E)) 0 0 41 [(0, .ref (zB E + a0)), (1, .int p0), (2, .int p1), (3, .int p2), (4, .int x.2)] [] x.1 := by
          refine z_loop _ ?_
          intro kc41 hk41 x hf
          obtain ⟨h25, x24⟩ := x
          dsimp only at hf ⊢
          unfold F_X11_would_B41 at hf
          refine zr_iload C dX11_would_41 4 rfl ?_
          refine zr_iload_n C dX11_would_43 rfl 2 rfl ?_
          refine zr_icmp_ge (tgt := 69) C hf dX11_would_44 (by decide) (fun hf => ?_) (fun hf => ?_)
          · refine zr_aload_n C dX11_would_69 rfl 0 rfl ?_
            refine zr_iload_n C dX11_would_70 rfl 3 rfl ?_
            refine zr_callVi (As := [.int p2]) (rest := []) C hf (fun x hx => c_X11_secondNow l E n h25 a0 p2 x hx) kv_X11_182 rfl rfl (Nat.le_of_ble_eq_true rfl) ⟨rfl, rfl⟩ ⟨Nat.le_of_ble_eq_true rfl, Nat.le_of_ble_eq_true rfl⟩ ⟨Nat.le_of_ble_eq_true rfl, Nat.le_of_ble_eq_true rfl⟩ dX11_would_71 (fun x27 h26 hf => ?_)
            exact zr_ireturn C hf hr (Nat.le_of_ble_eq_true rfl) (Nat.le_of_ble_eq_true rfl) dX11_would_74
          · refine zr_aload_n C dX11_would_47 rfl 0 rfl ?_
            refine zr_aload_n C dX11_would_48 rfl 0 rfl ?_
            refine zr_gr C hf kg_X11_19 (fun _ _ _ => rfl) dX11_would_49 (fun w28 hf => ?_)
            refine zr_iload_n C dX11_would_52 rfl 1 rfl ?_
            refine zr_iaload C hf dX11_would_53 (fun x29 hf => ?_)
            refine zr_aload_n C dX11_would_54 rfl 0 rfl ?_
            refine zr_gr C hf kg_X11_22 (fun _ _ _ => rfl) dX11_would_55 (fun w30 hf => ?_)
            refine zr_iload_n C dX11_would_58 rfl 1 rfl ?_
            refine zr_iaload C hf dX11_would_59 (fun x31 hf => ?_)
            refine zr_callVv (As := [.int x29, .int x31]) (rest := []) C hf (fun x hx => c_X11_goTick l E n h25 a0 x29 x31 x hx) kv_X11_188 rfl rfl (Nat.le_of_ble_eq_true rfl) ⟨rfl, rfl⟩ ⟨Nat.le_of_ble_eq_true rfl, Nat.le_of_ble_eq_true rfl⟩ ⟨Nat.le_of_ble_eq_true rfl, Nat.le_of_ble_eq_true rfl⟩ dX11_would_60 (fun _ h32 hf => ?_)
            refine zr_iinc (v0 := 1) (k := 4) (f := fun v => [(4, .int v), (0, .ref (zB E + a0)), (1, .int p0), (2, .int p1), (3, .int p2)]) C hf (by decide) dX11_would_63 rfl (by decide) (fun v => rfl) (fun x33 hf => ?_)
            refine zr_goto (tgt := 41) C dX11_would_66 (by decide) ?_
            refine zsub [1, 2, 3, 4, 0] rfl ?_
            exact hk41 (h32, x33) hf
        refine zsub [1, 2, 3, 4, 0] rfl ?_
        exact L41 n (h9, (0 : Int32)) hf
      · refine zr_sipush (v := -1002) C dX11_would_30 (by decide) ?_
        exact zr_ireturn C hf hr (Nat.le_of_ble_eq_true rfl) (Nat.le_of_ble_eq_true rfl) dX11_would_33
    · refine zsub [] rfl ?_
      exact J16 h5 hf
theorem dX11_isRow_0 : decode cX11_isRow 0 = .ok (.iload_n 1, 1) := by decide +kernel
theorem dX11_isRow_1 : decode cX11_isRow 1 = .ok (.iconst 0, 1) := by decide +kernel
theorem dX11_isRow_2 : decode cX11_isRow 2 = .ok (.aload_n 0, 1) := by decide +kernel
theorem dX11_isRow_3 : decode cX11_isRow 3 = .ok (.getfield 155, 3) := by decide +kernel
theorem dX11_isRow_6 : decode cX11_isRow 6 = .ok (.iconst 1, 1) := by decide +kernel
theorem dX11_isRow_7 : decode cX11_isRow 7 = .ok (.isub, 1) := by decide +kernel
theorem dX11_isRow_8 : decode cX11_isRow 8 = .ok (.invokestatic 111, 3) := by decide +kernel
theorem dX11_isRow_11 : decode cX11_isRow 11 = .ok (.ireturn, 1) := by decide +kernel
set_option maxHeartbeats 4000000 in
set_option maxRecDepth 100000 in
theorem c_X11_isRow (l : Launch) (E : zE) (n : Nat) (h : zH) (a0 : Nat) (p0 : Int32) (res : Int32 × zH) (hf : F_X11_isRow n h a0 p0 = some res) : Met l yX11_isRow (zw yX11_isRow cX11_isRow 2 (some .boolean)) ({ frames := 1, cells := 0, slots := 0, locals := 22 } : Room) (zPc E h [.ref (zB E + a0), .int p0]) (zQc E res.2 (some (.int res.1))) 0 0 (zfr E) := by
  refine zmet (lo := [(0, .ref (zB E + a0)), (1, .int p0)]) (by decide +kernel) (Nat.le_of_ble_eq_true rfl) rfl ?_
  intro p e s m args below meth c C hr hin
  unfold F_X11_isRow at hf
  refine zr_iload_n C dX11_isRow_0 rfl 1 rfl ?_
  refine zr_iconst (v := 0) C dX11_isRow_1 (by decide) ?_
  refine zr_aload_n C dX11_isRow_2 rfl 0 rfl ?_
  refine zr_gi C hf kg_X11_155 (fun _ _ _ => rfl) dX11_isRow_3 (fun x1 hf => ?_)
  refine zr_iconst (v := 1) C dX11_isRow_6 (by decide) ?_
  refine zr_isub C hf dX11_isRow_7 (fun x2 hf => ?_)
  refine zr_callSi (As := [.int p0, .int (0 : Int32), .int x2]) (rest := []) C hf (fun x hx => c_X11_within l E n h p0 (0 : Int32) x2 x hx) ks_X11_111 rfl rfl (Nat.le_of_ble_eq_true rfl) ⟨rfl, rfl⟩ ⟨Nat.le_of_ble_eq_true rfl, Nat.le_of_ble_eq_true rfl⟩ ⟨Nat.le_of_ble_eq_true rfl, Nat.le_of_ble_eq_true rfl⟩ dX11_isRow_8 (fun x4 h3 hf => ?_)
  exact zr_zreturn C hf hr (Nat.le_of_ble_eq_true rfl) (Nat.le_of_ble_eq_true rfl) dX11_isRow_11
theorem dX11_begin_0 : decode cX11_begin 0 = .ok (.aload_n 0, 1) := by decide +kernel
theorem dX11_begin_1 : decode cX11_begin 1 = .ok (.invokevirtual 207, 3) := by decide +kernel
theorem dX11_begin_4 : decode cX11_begin 4 = .ok (.iconst 0, 1) := by decide +kernel
theorem dX11_begin_5 : decode cX11_begin 5 = .ok (.istore_n 1, 1) := by decide +kernel
theorem dX11_begin_6 : decode cX11_begin 6 = .ok (.iload_n 1, 1) := by decide +kernel
theorem dX11_begin_7 : decode cX11_begin 7 = .ok (.aload_n 0, 1) := by decide +kernel
theorem dX11_begin_8 : decode cX11_begin 8 = .ok (.getfield 146, 3) := by decide +kernel
theorem dX11_begin_11 : decode cX11_begin 11 = .ok (.if_icmp .ge 21, 3) := by decide +kernel
theorem dX11_begin_14 : decode cX11_begin 14 = .ok (.aload_n 0, 1) := by decide +kernel
theorem dX11_begin_15 : decode cX11_begin 15 = .ok (.getfield 40, 3) := by decide +kernel
theorem dX11_begin_18 : decode cX11_begin 18 = .ok (.iload_n 1, 1) := by decide +kernel
theorem dX11_begin_19 : decode cX11_begin 19 = .ok (.aload_n 0, 1) := by decide +kernel
theorem dX11_begin_20 : decode cX11_begin 20 = .ok (.getfield 28, 3) := by decide +kernel
theorem dX11_begin_23 : decode cX11_begin 23 = .ok (.iload_n 1, 1) := by decide +kernel
theorem dX11_begin_24 : decode cX11_begin 24 = .ok (.iaload, 1) := by decide +kernel
theorem dX11_begin_25 : decode cX11_begin 25 = .ok (.iastore, 1) := by decide +kernel
theorem dX11_begin_26 : decode cX11_begin 26 = .ok (.iinc 1 1, 3) := by decide +kernel
theorem dX11_begin_29 : decode cX11_begin 29 = .ok (.goto (-23), 3) := by decide +kernel
theorem dX11_begin_32 : decode cX11_begin 32 = .ok (.return_, 1) := by decide +kernel
set_option maxHeartbeats 4000000 in
set_option maxRecDepth 100000 in
theorem c_X11_begin (l : Launch) (E : zE) (n : Nat) (h : zH) (a0 : Nat) (res : Unit × zH) (hf : F_X11_begin n h a0 = some res) : Met l yX11_begin (zw yX11_begin cX11_begin 2 none) ({ frames := 1, cells := 0, slots := 0, locals := 21 } : Room) (zPc E h [.ref (zB E + a0)]) (zQc E res.2 none) 0 0 (zfr E) := by
  refine zmet (lo := [(0, .ref (zB E + a0))]) (by decide +kernel) (Nat.le_of_ble_eq_true rfl) rfl ?_
  intro p e s m args below meth c C hr hin
  unfold F_X11_begin at hf
  refine zr_aload_n C dX11_begin_0 rfl 0 rfl ?_
  refine zr_callVv (As := []) (rest := []) C hf (fun x hx => c_X11_loadStill l E n h a0 x hx) kv_X11_207 rfl rfl (Nat.le_of_ble_eq_true rfl) ⟨rfl, rfl⟩ ⟨Nat.le_of_ble_eq_true rfl, Nat.le_of_ble_eq_true rfl⟩ ⟨Nat.le_of_ble_eq_true rfl, Nat.le_of_ble_eq_true rfl⟩ dX11_begin_1 (fun _ h1 hf => ?_)
  refine zr_iconst (v := 0) C dX11_begin_4 (by decide) ?_
  refine zr_istore_n (lo2 := [(1, .int (0 : Int32)), (0, .ref (zB E + a0))]) C dX11_begin_5 rfl (by decide) rfl ?_
  have L6 : ∀ (fu : Nat) (x : zH × Int32), zloop (fun kc x => F_X11_begin_B6 n kc x.1 a0 x.2) fu x = some res → zW p l e (headSpec (zw yX11_begin cX11_begin 2 none) ({ frames := 1, cells := 0, slots := 0, locals := 21 } : Room)).room s m args below meth c E 2 (MQ below (zQc E res.2 none) args s 0 0 (zfr E)) 0 0 6 [(0, .ref (zB E + a0)), (1, .int x.2)] [] x.1 := by
    refine z_loop _ ?_
    intro kc6 hk6 x hf
    obtain ⟨h12, x11⟩ := x
    dsimp only at hf ⊢
    unfold F_X11_begin_B6 at hf
    refine zr_iload_n C dX11_begin_6 rfl 1 rfl ?_
    refine zr_aload_n C dX11_begin_7 rfl 0 rfl ?_
    refine zr_gi C hf kg_X11_146 (fun _ _ _ => rfl) dX11_begin_8 (fun x13 hf => ?_)
    refine zr_icmp_ge (tgt := 32) C hf dX11_begin_11 (by decide) (fun hf => ?_) (fun hf => ?_)
    · exact zr_return C hf hr (Nat.le_of_ble_eq_true rfl) (Nat.le_of_ble_eq_true rfl) dX11_begin_32
    · refine zr_aload_n C dX11_begin_14 rfl 0 rfl ?_
      refine zr_gr C hf kg_X11_40 (fun _ _ _ => rfl) dX11_begin_15 (fun w14 hf => ?_)
      refine zr_iload_n C dX11_begin_18 rfl 1 rfl ?_
      refine zr_aload_n C dX11_begin_19 rfl 0 rfl ?_
      refine zr_gr C hf kg_X11_28 (fun _ _ _ => rfl) dX11_begin_20 (fun w15 hf => ?_)
      refine zr_iload_n C dX11_begin_23 rfl 1 rfl ?_
      refine zr_iaload C hf dX11_begin_24 (fun x16 hf => ?_)
      refine zr_iastore C hf dX11_begin_25 (fun h17 hf => ?_)
      refine zr_iinc (v0 := 1) (k := 1) (f := fun v => [(1, .int v), (0, .ref (zB E + a0))]) C hf (by decide) dX11_begin_26 rfl (by decide) (fun v => rfl) (fun x18 hf => ?_)
      refine zr_goto (tgt := 6) C dX11_begin_29 (by decide) ?_
      refine zsub [1, 0] rfl ?_
      exact hk6 (h17, x18) hf
  refine zsub [1, 0] rfl ?_
  exact L6 n (h1, (0 : Int32)) hf
theorem dX11_itemKind_0 : decode cX11_itemKind 0 = .ok (.aload_n 0, 1) := by decide +kernel
theorem dX11_itemKind_1 : decode cX11_itemKind 1 = .ok (.aload_n 0, 1) := by decide +kernel
theorem dX11_itemKind_2 : decode cX11_itemKind 2 = .ok (.getfield 49, 3) := by decide +kernel
theorem dX11_itemKind_5 : decode cX11_itemKind 5 = .ok (.iload_n 1, 1) := by decide +kernel
theorem dX11_itemKind_6 : decode cX11_itemKind 6 = .ok (.iaload, 1) := by decide +kernel
theorem dX11_itemKind_7 : decode cX11_itemKind 7 = .ok (.invokevirtual 164, 3) := by decide +kernel
theorem dX11_itemKind_10 : decode cX11_itemKind 10 = .ok (.ifCond .eq 17, 3) := by decide +kernel
theorem dX11_itemKind_13 : decode cX11_itemKind 13 = .ok (.aload_n 0, 1) := by decide +kernel
theorem dX11_itemKind_14 : decode cX11_itemKind 14 = .ok (.getfield 19, 3) := by decide +kernel
theorem dX11_itemKind_17 : decode cX11_itemKind 17 = .ok (.aload_n 0, 1) := by decide +kernel
theorem dX11_itemKind_18 : decode cX11_itemKind 18 = .ok (.getfield 49, 3) := by decide +kernel
theorem dX11_itemKind_21 : decode cX11_itemKind 21 = .ok (.iload_n 1, 1) := by decide +kernel
theorem dX11_itemKind_22 : decode cX11_itemKind 22 = .ok (.iaload, 1) := by decide +kernel
theorem dX11_itemKind_23 : decode cX11_itemKind 23 = .ok (.iaload, 1) := by decide +kernel
theorem dX11_itemKind_24 : decode cX11_itemKind 24 = .ok (.goto 4, 3) := by decide +kernel
theorem dX11_itemKind_27 : decode cX11_itemKind 27 = .ok (.iconst 0, 1) := by decide +kernel
theorem dX11_itemKind_28 : decode cX11_itemKind 28 = .ok (.ireturn, 1) := by decide +kernel
set_option maxHeartbeats 4000000 in
set_option maxRecDepth 100000 in
theorem c_X11_itemKind (l : Launch) (E : zE) (n : Nat) (h : zH) (a0 : Nat) (p0 : Int32) (res : Int32 × zH) (hf : F_X11_itemKind n h a0 p0 = some res) : Met l yX11_itemKind (zw yX11_itemKind cX11_itemKind 2 (some .int)) ({ frames := 2, cells := 0, slots := 0, locals := 43 } : Room) (zPc E h [.ref (zB E + a0), .int p0]) (zQc E res.2 (some (.int res.1))) 0 0 (zfr E) := by
  refine zmet (lo := [(0, .ref (zB E + a0)), (1, .int p0)]) (by decide +kernel) (Nat.le_of_ble_eq_true rfl) rfl ?_
  intro p e s m args below meth c C hr hin
  unfold F_X11_itemKind at hf
  have J28 : ∀ (h4 : zH) (x3 : Int32), F_X11_itemKind_J28 n h4 x3 = some res → zW p l e (headSpec (zw yX11_itemKind cX11_itemKind 2 (some .int)) ({ frames := 2, cells := 0, slots := 0, locals := 43 } : Room)).room s m args below meth c E 2 (MQ below (zQc E res.2 (some (.int res.1))) args s 0 0 (zfr E)) 0 0 28 [] [.int x3] h4 := by
    intro h4 x3 hf
    unfold F_X11_itemKind_J28 at hf
    exact zr_ireturn C hf hr (Nat.le_of_ble_eq_true rfl) (Nat.le_of_ble_eq_true rfl) dX11_itemKind_28
  refine zr_aload_n C dX11_itemKind_0 rfl 0 rfl ?_
  refine zr_aload_n C dX11_itemKind_1 rfl 0 rfl ?_
  refine zr_gr C hf kg_X11_49 (fun _ _ _ => rfl) dX11_itemKind_2 (fun w5 hf => ?_)
  refine zr_iload_n C dX11_itemKind_5 rfl 1 rfl ?_
  refine zr_iaload C hf dX11_itemKind_6 (fun x6 hf => ?_)
  refine zr_callVi (As := [.int x6]) (rest := []) C hf (fun x hx => c_X11_isDoing l E n h a0 x6 x hx) kv_X11_164 rfl rfl (Nat.le_of_ble_eq_true rfl) ⟨rfl, rfl⟩ ⟨Nat.le_of_ble_eq_true rfl, Nat.le_of_ble_eq_true rfl⟩ ⟨Nat.le_of_ble_eq_true rfl, Nat.le_of_ble_eq_true rfl⟩ dX11_itemKind_7 (fun x8 h7 hf => ?_)
  refine zr_if_eq (tgt := 27) C hf dX11_itemKind_10 (by decide) (fun hf => ?_) (fun hf => ?_)
  · refine zr_iconst (v := 0) C dX11_itemKind_27 (by decide) ?_
    refine zsub [] rfl ?_
    exact J28 h7 (0 : Int32) hf
  · refine zr_aload_n C dX11_itemKind_13 rfl 0 rfl ?_
    refine zr_gr C hf kg_X11_19 (fun _ _ _ => rfl) dX11_itemKind_14 (fun w9 hf => ?_)
    refine zr_aload_n C dX11_itemKind_17 rfl 0 rfl ?_
    refine zr_gr C hf kg_X11_49 (fun _ _ _ => rfl) dX11_itemKind_18 (fun w10 hf => ?_)
    refine zr_iload_n C dX11_itemKind_21 rfl 1 rfl ?_
    refine zr_iaload C hf dX11_itemKind_22 (fun x11 hf => ?_)
    refine zr_iaload C hf dX11_itemKind_23 (fun x12 hf => ?_)
    refine zr_goto (tgt := 28) C dX11_itemKind_24 (by decide) ?_
    refine zsub [] rfl ?_
    exact J28 h7 x12 hf
theorem dX11_itemNumber_0 : decode cX11_itemNumber 0 = .ok (.aload_n 0, 1) := by decide +kernel
theorem dX11_itemNumber_1 : decode cX11_itemNumber 1 = .ok (.aload_n 0, 1) := by decide +kernel
theorem dX11_itemNumber_2 : decode cX11_itemNumber 2 = .ok (.getfield 49, 3) := by decide +kernel
theorem dX11_itemNumber_5 : decode cX11_itemNumber 5 = .ok (.iload_n 1, 1) := by decide +kernel
theorem dX11_itemNumber_6 : decode cX11_itemNumber 6 = .ok (.iaload, 1) := by decide +kernel
theorem dX11_itemNumber_7 : decode cX11_itemNumber 7 = .ok (.invokevirtual 164, 3) := by decide +kernel
theorem dX11_itemNumber_10 : decode cX11_itemNumber 10 = .ok (.ifCond .eq 17, 3) := by decide +kernel
theorem dX11_itemNumber_13 : decode cX11_itemNumber 13 = .ok (.aload_n 0, 1) := by decide +kernel
theorem dX11_itemNumber_14 : decode cX11_itemNumber 14 = .ok (.getfield 22, 3) := by decide +kernel
theorem dX11_itemNumber_17 : decode cX11_itemNumber 17 = .ok (.aload_n 0, 1) := by decide +kernel
theorem dX11_itemNumber_18 : decode cX11_itemNumber 18 = .ok (.getfield 49, 3) := by decide +kernel
theorem dX11_itemNumber_21 : decode cX11_itemNumber 21 = .ok (.iload_n 1, 1) := by decide +kernel
theorem dX11_itemNumber_22 : decode cX11_itemNumber 22 = .ok (.iaload, 1) := by decide +kernel
theorem dX11_itemNumber_23 : decode cX11_itemNumber 23 = .ok (.iaload, 1) := by decide +kernel
theorem dX11_itemNumber_24 : decode cX11_itemNumber 24 = .ok (.goto 4, 3) := by decide +kernel
theorem dX11_itemNumber_27 : decode cX11_itemNumber 27 = .ok (.iconst 0, 1) := by decide +kernel
theorem dX11_itemNumber_28 : decode cX11_itemNumber 28 = .ok (.ireturn, 1) := by decide +kernel
set_option maxHeartbeats 4000000 in
set_option maxRecDepth 100000 in
theorem c_X11_itemNumber (l : Launch) (E : zE) (n : Nat) (h : zH) (a0 : Nat) (p0 : Int32) (res : Int32 × zH) (hf : F_X11_itemNumber n h a0 p0 = some res) : Met l yX11_itemNumber (zw yX11_itemNumber cX11_itemNumber 2 (some .int)) ({ frames := 2, cells := 0, slots := 0, locals := 43 } : Room) (zPc E h [.ref (zB E + a0), .int p0]) (zQc E res.2 (some (.int res.1))) 0 0 (zfr E) := by
  refine zmet (lo := [(0, .ref (zB E + a0)), (1, .int p0)]) (by decide +kernel) (Nat.le_of_ble_eq_true rfl) rfl ?_
  intro p e s m args below meth c C hr hin
  unfold F_X11_itemNumber at hf
  have J28 : ∀ (h4 : zH) (x3 : Int32), F_X11_itemNumber_J28 n h4 x3 = some res → zW p l e (headSpec (zw yX11_itemNumber cX11_itemNumber 2 (some .int)) ({ frames := 2, cells := 0, slots := 0, locals := 43 } : Room)).room s m args below meth c E 2 (MQ below (zQc E res.2 (some (.int res.1))) args s 0 0 (zfr E)) 0 0 28 [] [.int x3] h4 := by
    intro h4 x3 hf
    unfold F_X11_itemNumber_J28 at hf
    exact zr_ireturn C hf hr (Nat.le_of_ble_eq_true rfl) (Nat.le_of_ble_eq_true rfl) dX11_itemNumber_28
  refine zr_aload_n C dX11_itemNumber_0 rfl 0 rfl ?_
  refine zr_aload_n C dX11_itemNumber_1 rfl 0 rfl ?_
  refine zr_gr C hf kg_X11_49 (fun _ _ _ => rfl) dX11_itemNumber_2 (fun w5 hf => ?_)
  refine zr_iload_n C dX11_itemNumber_5 rfl 1 rfl ?_
  refine zr_iaload C hf dX11_itemNumber_6 (fun x6 hf => ?_)
  refine zr_callVi (As := [.int x6]) (rest := []) C hf (fun x hx => c_X11_isDoing l E n h a0 x6 x hx) kv_X11_164 rfl rfl (Nat.le_of_ble_eq_true rfl) ⟨rfl, rfl⟩ ⟨Nat.le_of_ble_eq_true rfl, Nat.le_of_ble_eq_true rfl⟩ ⟨Nat.le_of_ble_eq_true rfl, Nat.le_of_ble_eq_true rfl⟩ dX11_itemNumber_7 (fun x8 h7 hf => ?_)
  refine zr_if_eq (tgt := 27) C hf dX11_itemNumber_10 (by decide) (fun hf => ?_) (fun hf => ?_)
  · refine zr_iconst (v := 0) C dX11_itemNumber_27 (by decide) ?_
    refine zsub [] rfl ?_
    exact J28 h7 (0 : Int32) hf
  · refine zr_aload_n C dX11_itemNumber_13 rfl 0 rfl ?_
    refine zr_gr C hf kg_X11_22 (fun _ _ _ => rfl) dX11_itemNumber_14 (fun w9 hf => ?_)
    refine zr_aload_n C dX11_itemNumber_17 rfl 0 rfl ?_
    refine zr_gr C hf kg_X11_49 (fun _ _ _ => rfl) dX11_itemNumber_18 (fun w10 hf => ?_)
    refine zr_iload_n C dX11_itemNumber_21 rfl 1 rfl ?_
    refine zr_iaload C hf dX11_itemNumber_22 (fun x11 hf => ?_)
    refine zr_iaload C hf dX11_itemNumber_23 (fun x12 hf => ?_)
    refine zr_goto (tgt := 28) C dX11_itemNumber_24 (by decide) ?_
    refine zsub [] rfl ?_
    exact J28 h7 x12 hf
theorem dX11_layRow_0 : decode cX11_layRow 0 = .ok (.aload_n 0, 1) := by decide +kernel
theorem dX11_layRow_1 : decode cX11_layRow 1 = .ok (.invokevirtual 210, 3) := by decide +kernel
theorem dX11_layRow_4 : decode cX11_layRow 4 = .ok (.iconst 0, 1) := by decide +kernel
theorem dX11_layRow_5 : decode cX11_layRow 5 = .ok (.istore_n 2, 1) := by decide +kernel
theorem dX11_layRow_6 : decode cX11_layRow 6 = .ok (.iload_n 2, 1) := by decide +kernel
theorem dX11_layRow_7 : decode cX11_layRow 7 = .ok (.aload_n 0, 1) := by decide +kernel
theorem dX11_layRow_8 : decode cX11_layRow 8 = .ok (.getfield 46, 3) := by decide +kernel
theorem dX11_layRow_11 : decode cX11_layRow 11 = .ok (.iload_n 1, 1) := by decide +kernel
theorem dX11_layRow_12 : decode cX11_layRow 12 = .ok (.iaload, 1) := by decide +kernel
theorem dX11_layRow_13 : decode cX11_layRow 13 = .ok (.if_icmp .ge 44, 3) := by decide +kernel
theorem dX11_layRow_16 : decode cX11_layRow 16 = .ok (.aload_n 0, 1) := by decide +kernel
theorem dX11_layRow_17 : decode cX11_layRow 17 = .ok (.aload_n 0, 1) := by decide +kernel
theorem dX11_layRow_18 : decode cX11_layRow 18 = .ok (.bipush 6, 2) := by decide +kernel
theorem dX11_layRow_20 : decode cX11_layRow 20 = .ok (.iload_n 1, 1) := by decide +kernel
theorem dX11_layRow_21 : decode cX11_layRow 21 = .ok (.imul, 1) := by decide +kernel
theorem dX11_layRow_22 : decode cX11_layRow 22 = .ok (.iload_n 2, 1) := by decide +kernel
theorem dX11_layRow_23 : decode cX11_layRow 23 = .ok (.iadd, 1) := by decide +kernel
theorem dX11_layRow_24 : decode cX11_layRow 24 = .ok (.invokevirtual 213, 3) := by decide +kernel
theorem dX11_layRow_27 : decode cX11_layRow 27 = .ok (.aload_n 0, 1) := by decide +kernel
theorem dX11_layRow_28 : decode cX11_layRow 28 = .ok (.bipush 6, 2) := by decide +kernel
theorem dX11_layRow_30 : decode cX11_layRow 30 = .ok (.iload_n 1, 1) := by decide +kernel
theorem dX11_layRow_31 : decode cX11_layRow 31 = .ok (.imul, 1) := by decide +kernel
theorem dX11_layRow_32 : decode cX11_layRow 32 = .ok (.iload_n 2, 1) := by decide +kernel
theorem dX11_layRow_33 : decode cX11_layRow 33 = .ok (.iadd, 1) := by decide +kernel
theorem dX11_layRow_34 : decode cX11_layRow 34 = .ok (.invokevirtual 216, 3) := by decide +kernel
theorem dX11_layRow_37 : decode cX11_layRow 37 = .ok (.aload_n 0, 1) := by decide +kernel
theorem dX11_layRow_38 : decode cX11_layRow 38 = .ok (.getfield 52, 3) := by decide +kernel
theorem dX11_layRow_41 : decode cX11_layRow 41 = .ok (.bipush 6, 2) := by decide +kernel
theorem dX11_layRow_43 : decode cX11_layRow 43 = .ok (.iload_n 1, 1) := by decide +kernel
theorem dX11_layRow_44 : decode cX11_layRow 44 = .ok (.imul, 1) := by decide +kernel
theorem dX11_layRow_45 : decode cX11_layRow 45 = .ok (.iload_n 2, 1) := by decide +kernel
theorem dX11_layRow_46 : decode cX11_layRow 46 = .ok (.iadd, 1) := by decide +kernel
theorem dX11_layRow_47 : decode cX11_layRow 47 = .ok (.iaload, 1) := by decide +kernel
theorem dX11_layRow_48 : decode cX11_layRow 48 = .ok (.invokevirtual 204, 3) := by decide +kernel
theorem dX11_layRow_51 : decode cX11_layRow 51 = .ok (.iinc 2 1, 3) := by decide +kernel
theorem dX11_layRow_54 : decode cX11_layRow 54 = .ok (.goto (-48), 3) := by decide +kernel
theorem dX11_layRow_57 : decode cX11_layRow 57 = .ok (.aload_n 0, 1) := by decide +kernel
theorem dX11_layRow_58 : decode cX11_layRow 58 = .ok (.iconst 0, 1) := by decide +kernel
theorem dX11_layRow_59 : decode cX11_layRow 59 = .ok (.iconst 0, 1) := by decide +kernel
theorem dX11_layRow_60 : decode cX11_layRow 60 = .ok (.bipush 60, 2) := by decide +kernel
theorem dX11_layRow_62 : decode cX11_layRow 62 = .ok (.invokevirtual 204, 3) := by decide +kernel
theorem dX11_layRow_65 : decode cX11_layRow 65 = .ok (.return_, 1) := by decide +kernel
set_option maxHeartbeats 4000000 in
set_option maxRecDepth 100000 in
theorem c_X11_layRow (l : Launch) (E : zE) (n : Nat) (h : zH) (a0 : Nat) (p0 : Int32) (res : Unit × zH) (hf : F_X11_layRow n h a0 p0 = some res) : Met l yX11_layRow (zw yX11_layRow cX11_layRow 3 none) ({ frames := 4, cells := 0, slots := 0, locals := 98 } : Room) (zPc E h [.ref (zB E + a0), .int p0]) (zQc E res.2 none) 0 0 (zfr E) := by
  refine zmet (lo := [(0, .ref (zB E + a0)), (1, .int p0)]) (by decide +kernel) (Nat.le_of_ble_eq_true rfl) rfl ?_
  intro p e s m args below meth c C hr hin
  unfold F_X11_layRow at hf
  refine zr_aload_n C dX11_layRow_0 rfl 0 rfl ?_
  refine zr_callVv (As := []) (rest := []) C hf (fun x hx => c_X11_begin l E n h a0 x hx) kv_X11_210 rfl rfl (Nat.le_of_ble_eq_true rfl) ⟨rfl, rfl⟩ ⟨Nat.le_of_ble_eq_true rfl, Nat.le_of_ble_eq_true rfl⟩ ⟨Nat.le_of_ble_eq_true rfl, Nat.le_of_ble_eq_true rfl⟩ dX11_layRow_1 (fun _ h1 hf => ?_)
  refine zr_iconst (v := 0) C dX11_layRow_4 (by decide) ?_
  refine zr_istore_n (lo2 := [(2, .int (0 : Int32)), (0, .ref (zB E + a0)), (1, .int p0)]) C dX11_layRow_5 rfl (by decide) rfl ?_
  have L6 : ∀ (fu : Nat) (x : zH × Int32), zloop (fun kc x => F_X11_layRow_B6 n kc x.1 a0 p0 x.2) fu x = some res → zW p l e (headSpec (zw yX11_layRow cX11_layRow 3 none) ({ frames := 4, cells := 0, slots := 0, locals := 98 } : Room)).room s m args below meth c E 3 (MQ below (zQc E res.2 none) args s 0 0 (zfr E)) 0 0 6 [(0, .ref (zB E + a0)), (1, .int p0), (2, .int x.2)] [] x.1 := by
    refine z_loop _ ?_
    intro kc6 hk6 x hf
    obtain ⟨h24, x23⟩ := x
    dsimp only at hf ⊢
    unfold F_X11_layRow_B6 at hf
    refine zr_iload_n C dX11_layRow_6 rfl 2 rfl ?_
    refine zr_aload_n C dX11_layRow_7 rfl 0 rfl ?_
    refine zr_gr C hf kg_X11_46 (fun _ _ _ => rfl) dX11_layRow_8 (fun w25 hf => ?_)
    refine zr_iload_n C dX11_layRow_11 rfl 1 rfl ?_
    refine zr_iaload C hf dX11_layRow_12 (fun x26 hf => ?_)
    refine zr_icmp_ge (tgt := 57) C hf dX11_layRow_13 (by decide) (fun hf => ?_) (fun hf => ?_)
    · refine zr_aload_n C dX11_layRow_57 rfl 0 rfl ?_
      refine zr_iconst (v := 0) C dX11_layRow_58 (by decide) ?_
      refine zr_iconst (v := 0) C dX11_layRow_59 (by decide) ?_
      refine zr_bipush (v := 60) C dX11_layRow_60 (by decide) ?_
      refine zr_callVv (As := [.int (0 : Int32), .int (0 : Int32), .int (60 : Int32)]) (rest := []) C hf (fun x hx => c_X11_goAll l E n h24 a0 (0 : Int32) (0 : Int32) (60 : Int32) x hx) kv_X11_204 rfl rfl (Nat.le_of_ble_eq_true rfl) ⟨rfl, rfl⟩ ⟨Nat.le_of_ble_eq_true rfl, Nat.le_of_ble_eq_true rfl⟩ ⟨Nat.le_of_ble_eq_true rfl, Nat.le_of_ble_eq_true rfl⟩ dX11_layRow_62 (fun _ h27 hf => ?_)
      exact zr_return C hf hr (Nat.le_of_ble_eq_true rfl) (Nat.le_of_ble_eq_true rfl) dX11_layRow_65
    · refine zr_aload_n C dX11_layRow_16 rfl 0 rfl ?_
      refine zr_aload_n C dX11_layRow_17 rfl 0 rfl ?_
      refine zr_bipush (v := 6) C dX11_layRow_18 (by decide) ?_
      refine zr_iload_n C dX11_layRow_20 rfl 1 rfl ?_
      refine zr_imul C hf dX11_layRow_21 (fun x28 hf => ?_)
      refine zr_iload_n C dX11_layRow_22 rfl 2 rfl ?_
      refine zr_iadd C hf dX11_layRow_23 (fun x29 hf => ?_)
      refine zr_callVi (As := [.int x29]) (rest := [.ref (zB E + a0)]) C hf (fun x hx => c_X11_itemKind l E n h24 a0 x29 x hx) kv_X11_213 rfl rfl (Nat.le_of_ble_eq_true rfl) ⟨rfl, rfl⟩ ⟨Nat.le_of_ble_eq_true rfl, Nat.le_of_ble_eq_true rfl⟩ ⟨Nat.le_of_ble_eq_true rfl, Nat.le_of_ble_eq_true rfl⟩ dX11_layRow_24 (fun x31 h30 hf => ?_)
      refine zr_aload_n C dX11_layRow_27 rfl 0 rfl ?_
      refine zr_bipush (v := 6) C dX11_layRow_28 (by decide) ?_
      refine zr_iload_n C dX11_layRow_30 rfl 1 rfl ?_
      refine zr_imul C hf dX11_layRow_31 (fun x32 hf => ?_)
      refine zr_iload_n C dX11_layRow_32 rfl 2 rfl ?_
      refine zr_iadd C hf dX11_layRow_33 (fun x33 hf => ?_)
      refine zr_callVi (As := [.int x33]) (rest := [.int x31, .ref (zB E + a0)]) C hf (fun x hx => c_X11_itemNumber l E n h30 a0 x33 x hx) kv_X11_216 rfl rfl (Nat.le_of_ble_eq_true rfl) ⟨rfl, rfl⟩ ⟨Nat.le_of_ble_eq_true rfl, Nat.le_of_ble_eq_true rfl⟩ ⟨Nat.le_of_ble_eq_true rfl, Nat.le_of_ble_eq_true rfl⟩ dX11_layRow_34 (fun x35 h34 hf => ?_)
      refine zr_aload_n C dX11_layRow_37 rfl 0 rfl ?_
      refine zr_gr C hf kg_X11_52 (fun _ _ _ => rfl) dX11_layRow_38 (fun w36 hf => ?_)
      refine zr_bipush (v := 6) C dX11_layRow_41 (by decide) ?_
      refine zr_iload_n C dX11_layRow_43 rfl 1 rfl ?_
      refine zr_imul C hf dX11_layRow_44 (fun x37 hf => ?_)
      refine zr_iload_n C dX11_layRow_45 rfl 2 rfl ?_
      refine zr_iadd C hf dX11_layRow_46 (fun x38 hf => ?_)
      refine zr_iaload C hf dX11_layRow_47 (fun x39 hf => ?_)
      refine zr_callVv (As := [.int x31, .int x35, .int x39]) (rest := []) C hf (fun x hx => c_X11_goAll l E n h34 a0 x31 x35 x39 x hx) kv_X11_204 rfl rfl (Nat.le_of_ble_eq_true rfl) ⟨rfl, rfl⟩ ⟨Nat.le_of_ble_eq_true rfl, Nat.le_of_ble_eq_true rfl⟩ ⟨Nat.le_of_ble_eq_true rfl, Nat.le_of_ble_eq_true rfl⟩ dX11_layRow_48 (fun _ h40 hf => ?_)
      refine zr_iinc (v0 := 1) (k := 2) (f := fun v => [(2, .int v), (0, .ref (zB E + a0)), (1, .int p0)]) C hf (by decide) dX11_layRow_51 rfl (by decide) (fun v => rfl) (fun x41 hf => ?_)
      refine zr_goto (tgt := 6) C dX11_layRow_54 (by decide) ?_
      refine zsub [1, 2, 0] rfl ?_
      exact hk6 (h40, x41) hf
  refine zsub [1, 2, 0] rfl ?_
  exact L6 n (h1, (0 : Int32)) hf
theorem dX11_ends_0 : decode cX11_ends 0 = .ok (.aload_n 0, 1) := by decide +kernel
theorem dX11_ends_1 : decode cX11_ends 1 = .ok (.iload_n 1, 1) := by decide +kernel
theorem dX11_ends_2 : decode cX11_ends 2 = .ok (.invokevirtual 219, 3) := by decide +kernel
theorem dX11_ends_5 : decode cX11_ends 5 = .ok (.ifCond .eq 11, 3) := by decide +kernel
theorem dX11_ends_8 : decode cX11_ends 8 = .ok (.aload_n 0, 1) := by decide +kernel
theorem dX11_ends_9 : decode cX11_ends 9 = .ok (.iload_n 2, 1) := by decide +kernel
theorem dX11_ends_10 : decode cX11_ends 10 = .ok (.invokevirtual 195, 3) := by decide +kernel
theorem dX11_ends_13 : decode cX11_ends 13 = .ok (.ifCond .ne 6, 3) := by decide +kernel
theorem dX11_ends_16 : decode cX11_ends 16 = .ok (.bipush (-101), 2) := by decide +kernel
theorem dX11_ends_18 : decode cX11_ends 18 = .ok (.ireturn, 1) := by decide +kernel
theorem dX11_ends_19 : decode cX11_ends 19 = .ok (.aload_n 0, 1) := by decide +kernel
theorem dX11_ends_20 : decode cX11_ends 20 = .ok (.iload_n 1, 1) := by decide +kernel
theorem dX11_ends_21 : decode cX11_ends 21 = .ok (.invokevirtual 222, 3) := by decide +kernel
theorem dX11_ends_24 : decode cX11_ends 24 = .ok (.aload_n 0, 1) := by decide +kernel
theorem dX11_ends_25 : decode cX11_ends 25 = .ok (.getfield 40, 3) := by decide +kernel
theorem dX11_ends_28 : decode cX11_ends 28 = .ok (.iload_n 2, 1) := by decide +kernel
theorem dX11_ends_29 : decode cX11_ends 29 = .ok (.iaload, 1) := by decide +kernel
theorem dX11_ends_30 : decode cX11_ends 30 = .ok (.ireturn, 1) := by decide +kernel
set_option maxHeartbeats 4000000 in
set_option maxRecDepth 100000 in
theorem c_X11_ends (l : Launch) (E : zE) (n : Nat) (h : zH) (a0 : Nat) (p0 : Int32) (p1 : Int32) (res : Int32 × zH) (hf : F_X11_ends n h a0 p0 p1 = some res) : Met l yX11_ends (zw yX11_ends cX11_ends 3 (some .int)) ({ frames := 5, cells := 0, slots := 0, locals := 120 } : Room) (zPc E h [.ref (zB E + a0), .int p0, .int p1]) (zQc E res.2 (some (.int res.1))) 0 0 (zfr E) := by
  refine zmet (lo := [(0, .ref (zB E + a0)), (1, .int p0), (2, .int p1)]) (by decide +kernel) (Nat.le_of_ble_eq_true rfl) rfl ?_
  intro p e s m args below meth c C hr hin
  unfold F_X11_ends at hf
  have J16 : ∀ (h2 : zH), F_X11_ends_J16 n h2 = some res → zW p l e (headSpec (zw yX11_ends cX11_ends 3 (some .int)) ({ frames := 5, cells := 0, slots := 0, locals := 120 } : Room)).room s m args below meth c E 3 (MQ below (zQc E res.2 (some (.int res.1))) args s 0 0 (zfr E)) 0 0 16 [] [] h2 := by
    intro h2 hf
    unfold F_X11_ends_J16 at hf
    refine zr_bipush (v := -101) C dX11_ends_16 (by decide) ?_
    exact zr_ireturn C hf hr (Nat.le_of_ble_eq_true rfl) (Nat.le_of_ble_eq_true rfl) dX11_ends_18
  refine zr_aload_n C dX11_ends_0 rfl 0 rfl ?_
  refine zr_iload_n C dX11_ends_1 rfl 1 rfl ?_
  refine zr_callVi (As := [.int p0]) (rest := []) C hf (fun x hx => c_X11_isRow l E n h a0 p0 x hx) kv_X11_219 rfl rfl (Nat.le_of_ble_eq_true rfl) ⟨rfl, rfl⟩ ⟨Nat.le_of_ble_eq_true rfl, Nat.le_of_ble_eq_true rfl⟩ ⟨Nat.le_of_ble_eq_true rfl, Nat.le_of_ble_eq_true rfl⟩ dX11_ends_2 (fun x4 h3 hf => ?_)
  refine zr_if_eq (tgt := 16) C hf dX11_ends_5 (by decide) (fun hf => ?_) (fun hf => ?_)
  · refine zsub [] rfl ?_
    exact J16 h3 hf
  · refine zr_aload_n C dX11_ends_8 rfl 0 rfl ?_
    refine zr_iload_n C dX11_ends_9 rfl 2 rfl ?_
    refine zr_callVi (As := [.int p1]) (rest := []) C hf (fun x hx => c_X11_isLeaf l E n h3 a0 p1 x hx) kv_X11_195 rfl rfl (Nat.le_of_ble_eq_true rfl) ⟨rfl, rfl⟩ ⟨Nat.le_of_ble_eq_true rfl, Nat.le_of_ble_eq_true rfl⟩ ⟨Nat.le_of_ble_eq_true rfl, Nat.le_of_ble_eq_true rfl⟩ dX11_ends_10 (fun x6 h5 hf => ?_)
    refine zr_if_ne (tgt := 19) C hf dX11_ends_13 (by decide) (fun hf => ?_) (fun hf => ?_)
    · refine zr_aload_n C dX11_ends_19 rfl 0 rfl ?_
      refine zr_iload_n C dX11_ends_20 rfl 1 rfl ?_
      refine zr_callVv (As := [.int p0]) (rest := []) C hf (fun x hx => c_X11_layRow l E n h5 a0 p0 x hx) kv_X11_222 rfl rfl (Nat.le_of_ble_eq_true rfl) ⟨rfl, rfl⟩ ⟨Nat.le_of_ble_eq_true rfl, Nat.le_of_ble_eq_true rfl⟩ ⟨Nat.le_of_ble_eq_true rfl, Nat.le_of_ble_eq_true rfl⟩ dX11_ends_21 (fun _ h7 hf => ?_)
      refine zr_aload_n C dX11_ends_24 rfl 0 rfl ?_
      refine zr_gr C hf kg_X11_40 (fun _ _ _ => rfl) dX11_ends_25 (fun w8 hf => ?_)
      refine zr_iload_n C dX11_ends_28 rfl 2 rfl ?_
      refine zr_iaload C hf dX11_ends_29 (fun x9 hf => ?_)
      exact zr_ireturn C hf hr (Nat.le_of_ble_eq_true rfl) (Nat.le_of_ble_eq_true rfl) dX11_ends_30
    · refine zsub [] rfl ?_
      exact J16 h5 hf
theorem dX11_lies_0 : decode cX11_lies 0 = .ok (.aload_n 0, 1) := by decide +kernel
theorem dX11_lies_1 : decode cX11_lies 1 = .ok (.iload_n 1, 1) := by decide +kernel
theorem dX11_lies_2 : decode cX11_lies 2 = .ok (.iload_n 2, 1) := by decide +kernel
theorem dX11_lies_3 : decode cX11_lies 3 = .ok (.invokevirtual 225, 3) := by decide +kernel
theorem dX11_lies_6 : decode cX11_lies 6 = .ok (.istore_n 3, 1) := by decide +kernel
theorem dX11_lies_7 : decode cX11_lies 7 = .ok (.iload_n 3, 1) := by decide +kernel
theorem dX11_lies_8 : decode cX11_lies 8 = .ok (.bipush (-101), 2) := by decide +kernel
theorem dX11_lies_10 : decode cX11_lies 10 = .ok (.if_icmp .ne 8, 3) := by decide +kernel
theorem dX11_lies_13 : decode cX11_lies 13 = .ok (.bipush (-101), 2) := by decide +kernel
theorem dX11_lies_15 : decode cX11_lies 15 = .ok (.goto 28, 3) := by decide +kernel
theorem dX11_lies_18 : decode cX11_lies 18 = .ok (.iload_n 3, 1) := by decide +kernel
theorem dX11_lies_19 : decode cX11_lies 19 = .ok (.ifCond .ne 7, 3) := by decide +kernel
theorem dX11_lies_22 : decode cX11_lies 22 = .ok (.iconst 0, 1) := by decide +kernel
theorem dX11_lies_23 : decode cX11_lies 23 = .ok (.goto 20, 3) := by decide +kernel
theorem dX11_lies_26 : decode cX11_lies 26 = .ok (.iload_n 3, 1) := by decide +kernel
theorem dX11_lies_27 : decode cX11_lies 27 = .ok (.aload_n 0, 1) := by decide +kernel
theorem dX11_lies_28 : decode cX11_lies 28 = .ok (.getfield 7, 3) := by decide +kernel
theorem dX11_lies_31 : decode cX11_lies 31 = .ok (.iconst 0, 1) := by decide +kernel
theorem dX11_lies_32 : decode cX11_lies 32 = .ok (.iaload, 1) := by decide +kernel
theorem dX11_lies_33 : decode cX11_lies 33 = .ok (.iconst 1, 1) := by decide +kernel
theorem dX11_lies_34 : decode cX11_lies 34 = .ok (.isub, 1) := by decide +kernel
theorem dX11_lies_35 : decode cX11_lies 35 = .ok (.if_icmp .ne 7, 3) := by decide +kernel
theorem dX11_lies_38 : decode cX11_lies 38 = .ok (.iconst 2, 1) := by decide +kernel
theorem dX11_lies_39 : decode cX11_lies 39 = .ok (.goto 4, 3) := by decide +kernel
theorem dX11_lies_42 : decode cX11_lies 42 = .ok (.iconst 1, 1) := by decide +kernel
theorem dX11_lies_43 : decode cX11_lies 43 = .ok (.ireturn, 1) := by decide +kernel
set_option maxHeartbeats 4000000 in
set_option maxRecDepth 100000 in
theorem c_X11_lies (l : Launch) (E : zE) (n : Nat) (h : zH) (a0 : Nat) (p0 : Int32) (p1 : Int32) (res : Int32 × zH) (hf : F_X11_lies n h a0 p0 p1 = some res) : Met l yX11_lies (zw yX11_lies cX11_lies 4 (some .int)) ({ frames := 6, cells := 0, slots := 0, locals := 142 } : Room) (zPc E h [.ref (zB E + a0), .int p0, .int p1]) (zQc E res.2 (some (.int res.1))) 0 0 (zfr E) := by
  refine zmet (lo := [(0, .ref (zB E + a0)), (1, .int p0), (2, .int p1)]) (by decide +kernel) (Nat.le_of_ble_eq_true rfl) rfl ?_
  intro p e s m args below meth c C hr hin
  unfold F_X11_lies at hf
  have J43 : ∀ (h4 : zH) (x3 : Int32), F_X11_lies_J43 n h4 x3 = some res → zW p l e (headSpec (zw yX11_lies cX11_lies 4 (some .int)) ({ frames := 6, cells := 0, slots := 0, locals := 142 } : Room)).room s m args below meth c E 4 (MQ below (zQc E res.2 (some (.int res.1))) args s 0 0 (zfr E)) 0 0 43 [] [.int x3] h4 := by
    intro h4 x3 hf
    unfold F_X11_lies_J43 at hf
    exact zr_ireturn C hf hr (Nat.le_of_ble_eq_true rfl) (Nat.le_of_ble_eq_true rfl) dX11_lies_43
  refine zr_aload_n C dX11_lies_0 rfl 0 rfl ?_
  refine zr_iload_n C dX11_lies_1 rfl 1 rfl ?_
  refine zr_iload_n C dX11_lies_2 rfl 2 rfl ?_
  refine zr_callVi (As := [.int p0, .int p1]) (rest := []) C hf (fun x hx => c_X11_ends l E n h a0 p0 p1 x hx) kv_X11_225 rfl rfl (Nat.le_of_ble_eq_true rfl) ⟨rfl, rfl⟩ ⟨Nat.le_of_ble_eq_true rfl, Nat.le_of_ble_eq_true rfl⟩ ⟨Nat.le_of_ble_eq_true rfl, Nat.le_of_ble_eq_true rfl⟩ dX11_lies_3 (fun x6 h5 hf => ?_)
  refine zr_istore_n (lo2 := [(3, .int x6), (0, .ref (zB E + a0)), (1, .int p0), (2, .int p1)]) C dX11_lies_6 rfl (by decide) rfl ?_
  refine zr_iload_n C dX11_lies_7 rfl 0 rfl ?_
  refine zr_bipush (v := -101) C dX11_lies_8 (by decide) ?_
  refine zr_icmp_ne (tgt := 18) C hf dX11_lies_10 (by decide) (fun hf => ?_) (fun hf => ?_)
  · refine zr_iload_n C dX11_lies_18 rfl 0 rfl ?_
    refine zr_if_ne (tgt := 26) C hf dX11_lies_19 (by decide) (fun hf => ?_) (fun hf => ?_)
    · refine zr_iload_n C dX11_lies_26 rfl 0 rfl ?_
      refine zr_aload_n C dX11_lies_27 rfl 1 rfl ?_
      refine zr_gr C hf kg_X11_7 (fun _ _ _ => rfl) dX11_lies_28 (fun w7 hf => ?_)
      refine zr_iconst (v := 0) C dX11_lies_31 (by decide) ?_
      refine zr_iaload C hf dX11_lies_32 (fun x8 hf => ?_)
      refine zr_iconst (v := 1) C dX11_lies_33 (by decide) ?_
      refine zr_isub C hf dX11_lies_34 (fun x9 hf => ?_)
      refine zr_icmp_ne (tgt := 42) C hf dX11_lies_35 (by decide) (fun hf => ?_) (fun hf => ?_)
      · refine zr_iconst (v := 1) C dX11_lies_42 (by decide) ?_
        refine zsub [] rfl ?_
        exact J43 h5 (1 : Int32) hf
      · refine zr_iconst (v := 2) C dX11_lies_38 (by decide) ?_
        refine zr_goto (tgt := 43) C dX11_lies_39 (by decide) ?_
        refine zsub [] rfl ?_
        exact J43 h5 (2 : Int32) hf
    · refine zr_iconst (v := 0) C dX11_lies_22 (by decide) ?_
      refine zr_goto (tgt := 43) C dX11_lies_23 (by decide) ?_
      refine zsub [] rfl ?_
      exact J43 h5 (0 : Int32) hf
  · refine zr_bipush (v := -101) C dX11_lies_13 (by decide) ?_
    refine zr_goto (tgt := 43) C dX11_lies_15 (by decide) ?_
    refine zsub [] rfl ?_
    exact J43 h5 (-101 : Int32) hf
theorem dX11_oneEnds_0 : decode cX11_oneEnds 0 = .ok (.aload_n 0, 1) := by decide +kernel
theorem dX11_oneEnds_1 : decode cX11_oneEnds 1 = .ok (.invokevirtual 207, 3) := by decide +kernel
theorem dX11_oneEnds_4 : decode cX11_oneEnds 4 = .ok (.iload_n 2, 1) := by decide +kernel
theorem dX11_oneEnds_5 : decode cX11_oneEnds 5 = .ok (.istore 5, 2) := by decide +kernel
theorem dX11_oneEnds_7 : decode cX11_oneEnds 7 = .ok (.iconst 0, 1) := by decide +kernel
theorem dX11_oneEnds_8 : decode cX11_oneEnds 8 = .ok (.istore 6, 2) := by decide +kernel
theorem dX11_oneEnds_10 : decode cX11_oneEnds 10 = .ok (.iload 6, 2) := by decide +kernel
theorem dX11_oneEnds_12 : decode cX11_oneEnds 12 = .ok (.aload_n 0, 1) := by decide +kernel
theorem dX11_oneEnds_13 : decode cX11_oneEnds 13 = .ok (.getfield 46, 3) := by decide +kernel
theorem dX11_oneEnds_16 : decode cX11_oneEnds 16 = .ok (.iload_n 1, 1) := by decide +kernel
theorem dX11_oneEnds_17 : decode cX11_oneEnds 17 = .ok (.iaload, 1) := by decide +kernel
theorem dX11_oneEnds_18 : decode cX11_oneEnds 18 = .ok (.if_icmp .gt 130, 3) := by decide +kernel
theorem dX11_oneEnds_21 : decode cX11_oneEnds 21 = .ok (.iload 6, 2) := by decide +kernel
theorem dX11_oneEnds_23 : decode cX11_oneEnds 23 = .ok (.aload_n 0, 1) := by decide +kernel
theorem dX11_oneEnds_24 : decode cX11_oneEnds 24 = .ok (.getfield 46, 3) := by decide +kernel
theorem dX11_oneEnds_27 : decode cX11_oneEnds 27 = .ok (.iload_n 1, 1) := by decide +kernel
theorem dX11_oneEnds_28 : decode cX11_oneEnds 28 = .ok (.iaload, 1) := by decide +kernel
theorem dX11_oneEnds_29 : decode cX11_oneEnds 29 = .ok (.if_icmp .ne 7, 3) := by decide +kernel
theorem dX11_oneEnds_32 : decode cX11_oneEnds 32 = .ok (.iconst 1, 1) := by decide +kernel
theorem dX11_oneEnds_33 : decode cX11_oneEnds 33 = .ok (.goto 4, 3) := by decide +kernel
theorem dX11_oneEnds_36 : decode cX11_oneEnds 36 = .ok (.iconst 0, 1) := by decide +kernel
theorem dX11_oneEnds_37 : decode cX11_oneEnds 37 = .ok (.istore 7, 2) := by decide +kernel
theorem dX11_oneEnds_39 : decode cX11_oneEnds 39 = .ok (.iload 7, 2) := by decide +kernel
theorem dX11_oneEnds_41 : decode cX11_oneEnds 41 = .ok (.ifCond .eq 7, 3) := by decide +kernel
theorem dX11_oneEnds_44 : decode cX11_oneEnds 44 = .ok (.iconst 0, 1) := by decide +kernel
theorem dX11_oneEnds_45 : decode cX11_oneEnds 45 = .ok (.goto 14, 3) := by decide +kernel
theorem dX11_oneEnds_48 : decode cX11_oneEnds 48 = .ok (.aload_n 0, 1) := by decide +kernel
theorem dX11_oneEnds_49 : decode cX11_oneEnds 49 = .ok (.bipush 6, 2) := by decide +kernel
theorem dX11_oneEnds_51 : decode cX11_oneEnds 51 = .ok (.iload_n 1, 1) := by decide +kernel
theorem dX11_oneEnds_52 : decode cX11_oneEnds 52 = .ok (.imul, 1) := by decide +kernel
theorem dX11_oneEnds_53 : decode cX11_oneEnds 53 = .ok (.iload 6, 2) := by decide +kernel
theorem dX11_oneEnds_55 : decode cX11_oneEnds 55 = .ok (.iadd, 1) := by decide +kernel
theorem dX11_oneEnds_56 : decode cX11_oneEnds 56 = .ok (.invokevirtual 213, 3) := by decide +kernel
theorem dX11_oneEnds_59 : decode cX11_oneEnds 59 = .ok (.istore 8, 2) := by decide +kernel
theorem dX11_oneEnds_61 : decode cX11_oneEnds 61 = .ok (.iload 7, 2) := by decide +kernel
theorem dX11_oneEnds_63 : decode cX11_oneEnds 63 = .ok (.ifCond .eq 7, 3) := by decide +kernel
theorem dX11_oneEnds_66 : decode cX11_oneEnds 66 = .ok (.iconst 0, 1) := by decide +kernel
theorem dX11_oneEnds_67 : decode cX11_oneEnds 67 = .ok (.goto 14, 3) := by decide +kernel
theorem dX11_oneEnds_70 : decode cX11_oneEnds 70 = .ok (.aload_n 0, 1) := by decide +kernel
theorem dX11_oneEnds_71 : decode cX11_oneEnds 71 = .ok (.bipush 6, 2) := by decide +kernel
theorem dX11_oneEnds_73 : decode cX11_oneEnds 73 = .ok (.iload_n 1, 1) := by decide +kernel
theorem dX11_oneEnds_74 : decode cX11_oneEnds 74 = .ok (.imul, 1) := by decide +kernel
theorem dX11_oneEnds_75 : decode cX11_oneEnds 75 = .ok (.iload 6, 2) := by decide +kernel
theorem dX11_oneEnds_77 : decode cX11_oneEnds 77 = .ok (.iadd, 1) := by decide +kernel
theorem dX11_oneEnds_78 : decode cX11_oneEnds 78 = .ok (.invokevirtual 216, 3) := by decide +kernel
theorem dX11_oneEnds_81 : decode cX11_oneEnds 81 = .ok (.istore 9, 2) := by decide +kernel
theorem dX11_oneEnds_83 : decode cX11_oneEnds 83 = .ok (.iload 7, 2) := by decide +kernel
theorem dX11_oneEnds_85 : decode cX11_oneEnds 85 = .ok (.ifCond .eq 8, 3) := by decide +kernel
theorem dX11_oneEnds_88 : decode cX11_oneEnds 88 = .ok (.bipush 60, 2) := by decide +kernel
theorem dX11_oneEnds_90 : decode cX11_oneEnds 90 = .ok (.goto 15, 3) := by decide +kernel
theorem dX11_oneEnds_93 : decode cX11_oneEnds 93 = .ok (.aload_n 0, 1) := by decide +kernel
theorem dX11_oneEnds_94 : decode cX11_oneEnds 94 = .ok (.getfield 52, 3) := by decide +kernel
theorem dX11_oneEnds_97 : decode cX11_oneEnds 97 = .ok (.bipush 6, 2) := by decide +kernel
theorem dX11_oneEnds_99 : decode cX11_oneEnds 99 = .ok (.iload_n 1, 1) := by decide +kernel
theorem dX11_oneEnds_100 : decode cX11_oneEnds 100 = .ok (.imul, 1) := by decide +kernel
theorem dX11_oneEnds_101 : decode cX11_oneEnds 101 = .ok (.iload 6, 2) := by decide +kernel
theorem dX11_oneEnds_103 : decode cX11_oneEnds 103 = .ok (.iadd, 1) := by decide +kernel
theorem dX11_oneEnds_104 : decode cX11_oneEnds 104 = .ok (.iaload, 1) := by decide +kernel
theorem dX11_oneEnds_105 : decode cX11_oneEnds 105 = .ok (.istore 10, 2) := by decide +kernel
theorem dX11_oneEnds_107 : decode cX11_oneEnds 107 = .ok (.iconst 0, 1) := by decide +kernel
theorem dX11_oneEnds_108 : decode cX11_oneEnds 108 = .ok (.istore 11, 2) := by decide +kernel
theorem dX11_oneEnds_110 : decode cX11_oneEnds 110 = .ok (.iload 11, 2) := by decide +kernel
theorem dX11_oneEnds_112 : decode cX11_oneEnds 112 = .ok (.iload 10, 2) := by decide +kernel
theorem dX11_oneEnds_114 : decode cX11_oneEnds 114 = .ok (.if_icmp .ge 28, 3) := by decide +kernel
theorem dX11_oneEnds_117 : decode cX11_oneEnds 117 = .ok (.aload_n 0, 1) := by decide +kernel
theorem dX11_oneEnds_118 : decode cX11_oneEnds 118 = .ok (.iload 8, 2) := by decide +kernel
theorem dX11_oneEnds_120 : decode cX11_oneEnds 120 = .ok (.iload 9, 2) := by decide +kernel
theorem dX11_oneEnds_122 : decode cX11_oneEnds 122 = .ok (.invokevirtual 188, 3) := by decide +kernel
theorem dX11_oneEnds_125 : decode cX11_oneEnds 125 = .ok (.aload_n 0, 1) := by decide +kernel
theorem dX11_oneEnds_126 : decode cX11_oneEnds 126 = .ok (.iload 5, 2) := by decide +kernel
theorem dX11_oneEnds_128 : decode cX11_oneEnds 128 = .ok (.iload_n 3, 1) := by decide +kernel
theorem dX11_oneEnds_129 : decode cX11_oneEnds 129 = .ok (.iload 4, 2) := by decide +kernel
theorem dX11_oneEnds_131 : decode cX11_oneEnds 131 = .ok (.invokevirtual 191, 3) := by decide +kernel
theorem dX11_oneEnds_134 : decode cX11_oneEnds 134 = .ok (.istore 5, 2) := by decide +kernel
theorem dX11_oneEnds_136 : decode cX11_oneEnds 136 = .ok (.iinc 11 1, 3) := by decide +kernel
theorem dX11_oneEnds_139 : decode cX11_oneEnds 139 = .ok (.goto (-29), 3) := by decide +kernel
theorem dX11_oneEnds_142 : decode cX11_oneEnds 142 = .ok (.iinc 6 1, 3) := by decide +kernel
theorem dX11_oneEnds_145 : decode cX11_oneEnds 145 = .ok (.goto (-135), 3) := by decide +kernel
theorem dX11_oneEnds_148 : decode cX11_oneEnds 148 = .ok (.iload 5, 2) := by decide +kernel
theorem dX11_oneEnds_150 : decode cX11_oneEnds 150 = .ok (.ireturn, 1) := by decide +kernel
set_option maxHeartbeats 4000000 in
set_option maxRecDepth 100000 in
theorem c_X11_oneEnds (l : Launch) (E : zE) (n : Nat) (h : zH) (a0 : Nat) (p0 : Int32) (p1 : Int32) (p2 : Int32) (p3 : Int32) (res : Int32 × zH) (hf : F_X11_oneEnds n h a0 p0 p1 p2 p3 = some res) : Met l yX11_oneEnds (zw yX11_oneEnds cX11_oneEnds 12 (some .int)) ({ frames := 3, cells := 0, slots := 0, locals := 73 } : Room) (zPc E h [.ref (zB E + a0), .int p0, .int p1, .int p2, .int p3]) (zQc E res.2 (some (.int res.1))) 0 0 (zfr E) := by
  refine zmet (lo := [(0, .ref (zB E + a0)), (1, .int p0), (2, .int p1), (3, .int p2), (4, .int p3)]) (by decide +kernel) (Nat.le_of_ble_eq_true rfl) rfl ?_
  intro p e s m args below meth c C hr hin
  unfold F_X11_oneEnds at hf
  refine zr_aload_n C dX11_oneEnds_0 rfl 0 rfl ?_
  refine zr_callVv (As := []) (rest := []) C hf (fun x hx => c_X11_loadStill l E n h a0 x hx) kv_X11_207 rfl rfl (Nat.le_of_ble_eq_true rfl) ⟨rfl, rfl⟩ ⟨Nat.le_of_ble_eq_true rfl, Nat.le_of_ble_eq_true rfl⟩ ⟨Nat.le_of_ble_eq_true rfl, Nat.le_of_ble_eq_true rfl⟩ dX11_oneEnds_1 (fun _ h1 hf => ?_)
  refine zr_iload_n C dX11_oneEnds_4 rfl 2 rfl ?_
  refine zr_istore (lo2 := [(5, .int p1), (0, .ref (zB E + a0)), (1, .int p0), (2, .int p1), (3, .int p2), (4, .int p3)]) C dX11_oneEnds_5 (by decide) rfl ?_
  refine zr_iconst (v := 0) C dX11_oneEnds_7 (by decide) ?_
  refine zr_istore (lo2 := [(6, .int (0 : Int32)), (5, .int p1), (0, .ref (zB E + a0)), (1, .int p0), (2, .int p1), (3, .int p2), (4, .int p3)]) C dX11_oneEnds_8 (by decide) rfl ?_
  have L10 : ∀ (fu : Nat) (x : zH × Int32 × Int32), zloop (fun kc x => F_X11_oneEnds_B10 n kc x.1 a0 p0 p2 p3 x.2.1 x.2.2) fu x = some res → zW p l e (headSpec (zw yX11_oneEnds cX11_oneEnds 12 (some .int)) ({ frames := 3, cells := 0, slots := 0, locals := 73 } : Room)).room s m args below meth c E 12 (MQ below (zQc E res.2 (some (.int res.1))) args s 0 0 (zfr E)) 0 0 10 [(0, .ref (zB E + a0)), (1, .int p0), (3, .int p2), (4, .int p3), (5, .int x.2.1), (6, .int x.2.2)] [] x.1 := by
    refine z_loop _ ?_
    intro kc10 hk10 x hf
    obtain ⟨h88, x86, x87⟩ := x
    dsimp only at hf ⊢
    unfold F_X11_oneEnds_B10 at hf
    have J105 : ∀ (h94 : zH) (x89 : Int32) (x90 : Int32) (x91 : Int32) (x92 : Int32) (x93 : Int32), F_X11_oneEnds_J105 n kc10 h94 a0 p0 p2 p3 x89 x90 x91 x92 x93 = some res → zW p l e (headSpec (zw yX11_oneEnds cX11_oneEnds 12 (some .int)) ({ frames := 3, cells := 0, slots := 0, locals := 73 } : Room)).room s m args below meth c E 12 (MQ below (zQc E res.2 (some (.int res.1))) args s 0 0 (zfr E)) 0 0 105 [(0, .ref (zB E + a0)), (1, .int p0), (3, .int p2), (4, .int p3), (5, .int x89), (6, .int x90), (8, .int x91), (9, .int x92)] [.int x93] h94 := by
      intro h94 x89 x90 x91 x92 x93 hf
      unfold F_X11_oneEnds_J105 at hf
      refine zr_istore (lo2 := [(10, .int x93), (0, .ref (zB E + a0)), (1, .int p0), (3, .int p2), (4, .int p3), (5, .int x89), (6, .int x90), (8, .int x91), (9, .int x92)]) C dX11_oneEnds_105 (by decide) rfl ?_
      refine zr_iconst (v := 0) C dX11_oneEnds_107 (by decide) ?_
      refine zr_istore (lo2 := [(11, .int (0 : Int32)), (10, .int x93), (0, .ref (zB E + a0)), (1, .int p0), (3, .int p2), (4, .int p3), (5, .int x89), (6, .int x90), (8, .int x91), (9, .int x92)]) C dX11_oneEnds_108 (by decide) rfl ?_
      have L110 : ∀ (fu : Nat) (x : zH × Int32 × Int32), zloop (fun kc x => F_X11_oneEnds_B110 n kc10 kc x.1 a0 p0 p2 p3 x.2.1 x90 x91 x92 x93 x.2.2) fu x = some res → zW p l e (headSpec (zw yX11_oneEnds cX11_oneEnds 12 (some .int)) ({ frames := 3, cells := 0, slots := 0, locals := 73 } : Room)).room s m args below meth c E 12 (MQ below (zQc E res.2 (some (.int res.1))) args s 0 0 (zfr E)) 0 0 110 [(0, .ref (zB E + a0)), (1, .int p0), (3, .int p2), (4, .int p3), (5, .int x.2.1), (6, .int x90), (8, .int x91), (9, .int x92), (10, .int x93), (11, .int x.2.2)] [] x.1 := by
        refine z_loop _ ?_
        intro kc110 hk110 x hf
        obtain ⟨h97, x95, x96⟩ := x
        dsimp only at hf ⊢
        unfold F_X11_oneEnds_B110 at hf
        refine zr_iload C dX11_oneEnds_110 9 rfl ?_
        refine zr_iload C dX11_oneEnds_112 8 rfl ?_
        refine zr_icmp_ge (tgt := 142) C hf dX11_oneEnds_114 (by decide) (fun hf => ?_) (fun hf => ?_)
        · refine zr_iinc (v0 := 1) (k := 5) (f := fun v => [(6, .int v), (0, .ref (zB E + a0)), (1, .int p0), (3, .int p2), (4, .int p3), (5, .int x95), (8, .int x91), (9, .int x92), (10, .int x93), (11, .int x96)]) C hf (by decide) dX11_oneEnds_142 rfl (by decide) (fun v => rfl) (fun x98 hf => ?_)
          refine zr_goto (tgt := 10) C dX11_oneEnds_145 (by decide) ?_
          refine zsub [1, 2, 3, 4, 5, 0] rfl ?_
          exact hk10 (h97, x95, x98) hf
        · refine zr_aload_n C dX11_oneEnds_117 rfl 0 rfl ?_
          refine zr_iload C dX11_oneEnds_118 6 rfl ?_
          refine zr_iload C dX11_oneEnds_120 7 rfl ?_
          refine zr_callVv (As := [.int x91, .int x92]) (rest := []) C hf (fun x hx => c_X11_goTick l E n h97 a0 x91 x92 x hx) kv_X11_188 rfl rfl (Nat.le_of_ble_eq_true rfl) ⟨rfl, rfl⟩ ⟨Nat.le_of_ble_eq_true rfl, Nat.le_of_ble_eq_true rfl⟩ ⟨Nat.le_of_ble_eq_true rfl, Nat.le_of_ble_eq_true rfl⟩ dX11_oneEnds_122 (fun _ h99 hf => ?_)
          refine zr_aload_n C dX11_oneEnds_125 rfl 0 rfl ?_
          refine zr_iload C dX11_oneEnds_126 4 rfl ?_
          refine zr_iload_n C dX11_oneEnds_128 rfl 2 rfl ?_
          refine zr_iload C dX11_oneEnds_129 3 rfl ?_
          refine zr_callVi (As := [.int x95, .int p2, .int p3]) (rest := []) C hf (fun x hx => c_X11_moved l E n h99 a0 x95 p2 p3 x hx) kv_X11_191 rfl rfl (Nat.le_of_ble_eq_true rfl) ⟨rfl, rfl⟩ ⟨Nat.le_of_ble_eq_true rfl, Nat.le_of_ble_eq_true rfl⟩ ⟨Nat.le_of_ble_eq_true rfl, Nat.le_of_ble_eq_true rfl⟩ dX11_oneEnds_131 (fun x101 h100 hf => ?_)
          refine zr_istore (lo2 := [(5, .int x101), (0, .ref (zB E + a0)), (1, .int p0), (3, .int p2), (4, .int p3), (6, .int x90), (8, .int x91), (9, .int x92), (10, .int x93), (11, .int x96)]) C dX11_oneEnds_134 (by decide) rfl ?_
          refine zr_iinc (v0 := 1) (k := 9) (f := fun v => [(11, .int v), (5, .int x101), (0, .ref (zB E + a0)), (1, .int p0), (3, .int p2), (4, .int p3), (6, .int x90), (8, .int x91), (9, .int x92), (10, .int x93)]) C hf (by decide) dX11_oneEnds_136 rfl (by decide) (fun v => rfl) (fun x102 hf => ?_)
          refine zr_goto (tgt := 110) C dX11_oneEnds_139 (by decide) ?_
          refine zsub [2, 3, 4, 5, 1, 6, 7, 8, 9, 0] rfl ?_
          exact hk110 (h100, x101, x102) hf
      refine zsub [2, 3, 4, 5, 6, 7, 8, 9, 1, 0] rfl ?_
      exact L110 n (h94, x89, (0 : Int32)) hf
    have J81 : ∀ (h108 : zH) (x103 : Int32) (x104 : Int32) (x105 : Int32) (x106 : Int32) (x107 : Int32), F_X11_oneEnds_J81 n kc10 h108 a0 p0 p2 p3 x103 x104 x105 x106 x107 = some res → zW p l e (headSpec (zw yX11_oneEnds cX11_oneEnds 12 (some .int)) ({ frames := 3, cells := 0, slots := 0, locals := 73 } : Room)).room s m args below meth c E 12 (MQ below (zQc E res.2 (some (.int res.1))) args s 0 0 (zfr E)) 0 0 81 [(0, .ref (zB E + a0)), (1, .int p0), (3, .int p2), (4, .int p3), (5, .int x103), (6, .int x104), (7, .int x105), (8, .int x106)] [.int x107] h108 := by
      intro h108 x103 x104 x105 x106 x107 hf
      unfold F_X11_oneEnds_J81 at hf
      refine zr_istore (lo2 := [(9, .int x107), (0, .ref (zB E + a0)), (1, .int p0), (3, .int p2), (4, .int p3), (5, .int x103), (6, .int x104), (7, .int x105), (8, .int x106)]) C dX11_oneEnds_81 (by decide) rfl ?_
      refine zr_iload C dX11_oneEnds_83 7 rfl ?_
      refine zr_if_eq (tgt := 93) C hf dX11_oneEnds_85 (by decide) (fun hf => ?_) (fun hf => ?_)
      · refine zr_aload_n C dX11_oneEnds_93 rfl 1 rfl ?_
        refine zr_gr C hf kg_X11_52 (fun _ _ _ => rfl) dX11_oneEnds_94 (fun w109 hf => ?_)
        refine zr_bipush (v := 6) C dX11_oneEnds_97 (by decide) ?_
        refine zr_iload_n C dX11_oneEnds_99 rfl 2 rfl ?_
        refine zr_imul C hf dX11_oneEnds_100 (fun x110 hf => ?_)
        refine zr_iload C dX11_oneEnds_101 6 rfl ?_
        refine zr_iadd C hf dX11_oneEnds_103 (fun x111 hf => ?_)
        refine zr_iaload C hf dX11_oneEnds_104 (fun x112 hf => ?_)
        refine zsub [1, 2, 3, 4, 5, 6, 8, 0] rfl ?_
        exact J105 h108 x103 x104 x106 x107 x112 hf
      · refine zr_bipush (v := 60) C dX11_oneEnds_88 (by decide) ?_
        refine zr_goto (tgt := 105) C dX11_oneEnds_90 (by decide) ?_
        refine zsub [1, 2, 3, 4, 5, 6, 8, 0] rfl ?_
        exact J105 h108 x103 x104 x106 x107 (60 : Int32) hf
    have J59 : ∀ (h117 : zH) (x113 : Int32) (x114 : Int32) (x115 : Int32) (x116 : Int32), F_X11_oneEnds_J59 n kc10 h117 a0 p0 p2 p3 x113 x114 x115 x116 = some res → zW p l e (headSpec (zw yX11_oneEnds cX11_oneEnds 12 (some .int)) ({ frames := 3, cells := 0, slots := 0, locals := 73 } : Room)).room s m args below meth c E 12 (MQ below (zQc E res.2 (some (.int res.1))) args s 0 0 (zfr E)) 0 0 59 [(0, .ref (zB E + a0)), (1, .int p0), (3, .int p2), (4, .int p3), (5, .int x113), (6, .int x114), (7, .int x115)] [.int x116] h117 := by
      intro h117 x113 x114 x115 x116 hf
      unfold F_X11_oneEnds_J59 at hf
      refine zr_istore (lo2 := [(8, .int x116), (0, .ref (zB E + a0)), (1, .int p0), (3, .int p2), (4, .int p3), (5, .int x113), (6, .int x114), (7, .int x115)]) C dX11_oneEnds_59 (by decide) rfl ?_
      refine zr_iload C dX11_oneEnds_61 7 rfl ?_
      refine zr_if_eq (tgt := 70) C hf dX11_oneEnds_63 (by decide) (fun hf => ?_) (fun hf => ?_)
      · refine zr_aload_n C dX11_oneEnds_70 rfl 1 rfl ?_
        refine zr_bipush (v := 6) C dX11_oneEnds_71 (by decide) ?_
        refine zr_iload_n C dX11_oneEnds_73 rfl 2 rfl ?_
        refine zr_imul C hf dX11_oneEnds_74 (fun x118 hf => ?_)
        refine zr_iload C dX11_oneEnds_75 6 rfl ?_
        refine zr_iadd C hf dX11_oneEnds_77 (fun x119 hf => ?_)
        refine zr_callVi (As := [.int x119]) (rest := []) C hf (fun x hx => c_X11_itemNumber l E n h117 a0 x119 x hx) kv_X11_216 rfl rfl (Nat.le_of_ble_eq_true rfl) ⟨rfl, rfl⟩ ⟨Nat.le_of_ble_eq_true rfl, Nat.le_of_ble_eq_true rfl⟩ ⟨Nat.le_of_ble_eq_true rfl, Nat.le_of_ble_eq_true rfl⟩ dX11_oneEnds_78 (fun x121 h120 hf => ?_)
        refine zsub [1, 2, 3, 4, 5, 6, 7, 0] rfl ?_
        exact J81 h120 x113 x114 x115 x116 x121 hf
      · refine zr_iconst (v := 0) C dX11_oneEnds_66 (by decide) ?_
        refine zr_goto (tgt := 81) C dX11_oneEnds_67 (by decide) ?_
        refine zsub [1, 2, 3, 4, 5, 6, 7, 0] rfl ?_
        exact J81 h117 x113 x114 x115 x116 (0 : Int32) hf
    have J37 : ∀ (h125 : zH) (x122 : Int32) (x123 : Int32) (x124 : Int32), F_X11_oneEnds_J37 n kc10 h125 a0 p0 p2 p3 x122 x123 x124 = some res → zW p l e (headSpec (zw yX11_oneEnds cX11_oneEnds 12 (some .int)) ({ frames := 3, cells := 0, slots := 0, locals := 73 } : Room)).room s m args below meth c E 12 (MQ below (zQc E res.2 (some (.int res.1))) args s 0 0 (zfr E)) 0 0 37 [(0, .ref (zB E + a0)), (1, .int p0), (3, .int p2), (4, .int p3), (5, .int x122), (6, .int x123)] [.int x124] h125 := by
      intro h125 x122 x123 x124 hf
      unfold F_X11_oneEnds_J37 at hf
      refine zr_istore (lo2 := [(7, .int x124), (0, .ref (zB E + a0)), (1, .int p0), (3, .int p2), (4, .int p3), (5, .int x122), (6, .int x123)]) C dX11_oneEnds_37 (by decide) rfl ?_
      refine zr_iload C dX11_oneEnds_39 0 rfl ?_
      refine zr_if_eq (tgt := 48) C hf dX11_oneEnds_41 (by decide) (fun hf => ?_) (fun hf => ?_)
      · refine zr_aload_n C dX11_oneEnds_48 rfl 1 rfl ?_
        refine zr_bipush (v := 6) C dX11_oneEnds_49 (by decide) ?_
        refine zr_iload_n C dX11_oneEnds_51 rfl 2 rfl ?_
        refine zr_imul C hf dX11_oneEnds_52 (fun x126 hf => ?_)
        refine zr_iload C dX11_oneEnds_53 6 rfl ?_
        refine zr_iadd C hf dX11_oneEnds_55 (fun x127 hf => ?_)
        refine zr_callVi (As := [.int x127]) (rest := []) C hf (fun x hx => c_X11_itemKind l E n h125 a0 x127 x hx) kv_X11_213 rfl rfl (Nat.le_of_ble_eq_true rfl) ⟨rfl, rfl⟩ ⟨Nat.le_of_ble_eq_true rfl, Nat.le_of_ble_eq_true rfl⟩ ⟨Nat.le_of_ble_eq_true rfl, Nat.le_of_ble_eq_true rfl⟩ dX11_oneEnds_56 (fun x129 h128 hf => ?_)
        refine zsub [1, 2, 3, 4, 5, 6, 0] rfl ?_
        exact J59 h128 x122 x123 x124 x129 hf
      · refine zr_iconst (v := 0) C dX11_oneEnds_44 (by decide) ?_
        refine zr_goto (tgt := 59) C dX11_oneEnds_45 (by decide) ?_
        refine zsub [1, 2, 3, 4, 5, 6, 0] rfl ?_
        exact J59 h125 x122 x123 x124 (0 : Int32) hf
    refine zr_iload C dX11_oneEnds_10 5 rfl ?_
    refine zr_aload_n C dX11_oneEnds_12 rfl 0 rfl ?_
    refine zr_gr C hf kg_X11_46 (fun _ _ _ => rfl) dX11_oneEnds_13 (fun w130 hf => ?_)
    refine zr_iload_n C dX11_oneEnds_16 rfl 1 rfl ?_
    refine zr_iaload C hf dX11_oneEnds_17 (fun x131 hf => ?_)
    refine zr_icmp_gt (tgt := 148) C hf dX11_oneEnds_18 (by decide) (fun hf => ?_) (fun hf => ?_)
    · refine zr_iload C dX11_oneEnds_148 4 rfl ?_
      exact zr_ireturn C hf hr (Nat.le_of_ble_eq_true rfl) (Nat.le_of_ble_eq_true rfl) dX11_oneEnds_150
    · refine zr_iload C dX11_oneEnds_21 5 rfl ?_
      refine zr_aload_n C dX11_oneEnds_23 rfl 0 rfl ?_
      refine zr_gr C hf kg_X11_46 (fun _ _ _ => rfl) dX11_oneEnds_24 (fun w132 hf => ?_)
      refine zr_iload_n C dX11_oneEnds_27 rfl 1 rfl ?_
      refine zr_iaload C hf dX11_oneEnds_28 (fun x133 hf => ?_)
      refine zr_icmp_ne (tgt := 36) C hf dX11_oneEnds_29 (by decide) (fun hf => ?_) (fun hf => ?_)
      · refine zr_iconst (v := 0) C dX11_oneEnds_36 (by decide) ?_
        exact J37 h88 x86 x87 (0 : Int32) hf
      · refine zr_iconst (v := 1) C dX11_oneEnds_32 (by decide) ?_
        refine zr_goto (tgt := 37) C dX11_oneEnds_33 (by decide) ?_
        exact J37 h88 x86 x87 (1 : Int32) hf
  refine zsub [2, 3, 5, 6, 1, 0] rfl ?_
  exact L10 n (h1, p1, (0 : Int32)) hf
theorem dX11_line_0 : decode cX11_line 0 = .ok (.aload_n 0, 1) := by decide +kernel
theorem dX11_line_1 : decode cX11_line 1 = .ok (.iload_n 1, 1) := by decide +kernel
theorem dX11_line_2 : decode cX11_line 2 = .ok (.invokevirtual 219, 3) := by decide +kernel
theorem dX11_line_5 : decode cX11_line 5 = .ok (.ifCond .eq 11, 3) := by decide +kernel
theorem dX11_line_8 : decode cX11_line 8 = .ok (.aload_n 0, 1) := by decide +kernel
theorem dX11_line_9 : decode cX11_line 9 = .ok (.iload_n 2, 1) := by decide +kernel
theorem dX11_line_10 : decode cX11_line 10 = .ok (.invokevirtual 167, 3) := by decide +kernel
theorem dX11_line_13 : decode cX11_line 13 = .ok (.ifCond .ne 6, 3) := by decide +kernel
theorem dX11_line_16 : decode cX11_line 16 = .ok (.bipush (-101), 2) := by decide +kernel
theorem dX11_line_18 : decode cX11_line 18 = .ok (.ireturn, 1) := by decide +kernel
theorem dX11_line_19 : decode cX11_line 19 = .ok (.iload_n 3, 1) := by decide +kernel
theorem dX11_line_20 : decode cX11_line 20 = .ok (.iconst 0, 1) := by decide +kernel
theorem dX11_line_21 : decode cX11_line 21 = .ok (.bipush 9, 2) := by decide +kernel
theorem dX11_line_23 : decode cX11_line 23 = .ok (.invokestatic 111, 3) := by decide +kernel
theorem dX11_line_26 : decode cX11_line 26 = .ok (.ifCond .ne 6, 3) := by decide +kernel
theorem dX11_line_29 : decode cX11_line 29 = .ok (.bipush (-102), 2) := by decide +kernel
theorem dX11_line_31 : decode cX11_line 31 = .ok (.ireturn, 1) := by decide +kernel
theorem dX11_line_32 : decode cX11_line 32 = .ok (.iconst 0, 1) := by decide +kernel
theorem dX11_line_33 : decode cX11_line 33 = .ok (.istore 4, 2) := by decide +kernel
theorem dX11_line_35 : decode cX11_line 35 = .ok (.iload 4, 2) := by decide +kernel
theorem dX11_line_37 : decode cX11_line 37 = .ok (.bipush 10, 2) := by decide +kernel
theorem dX11_line_39 : decode cX11_line 39 = .ok (.if_icmp .ge 24, 3) := by decide +kernel
theorem dX11_line_42 : decode cX11_line 42 = .ok (.aload_n 0, 1) := by decide +kernel
theorem dX11_line_43 : decode cX11_line 43 = .ok (.iload_n 1, 1) := by decide +kernel
theorem dX11_line_44 : decode cX11_line 44 = .ok (.iload_n 2, 1) := by decide +kernel
theorem dX11_line_45 : decode cX11_line 45 = .ok (.iload 4, 2) := by decide +kernel
theorem dX11_line_47 : decode cX11_line 47 = .ok (.iload_n 3, 1) := by decide +kernel
theorem dX11_line_48 : decode cX11_line 48 = .ok (.invokevirtual 228, 3) := by decide +kernel
theorem dX11_line_51 : decode cX11_line 51 = .ok (.ifCond .eq 6, 3) := by decide +kernel
theorem dX11_line_54 : decode cX11_line 54 = .ok (.iload 4, 2) := by decide +kernel
theorem dX11_line_56 : decode cX11_line 56 = .ok (.ireturn, 1) := by decide +kernel
theorem dX11_line_57 : decode cX11_line 57 = .ok (.iinc 4 1, 3) := by decide +kernel
theorem dX11_line_60 : decode cX11_line 60 = .ok (.goto (-25), 3) := by decide +kernel
theorem dX11_line_63 : decode cX11_line 63 = .ok (.iconst (-1), 1) := by decide +kernel
theorem dX11_line_64 : decode cX11_line 64 = .ok (.ireturn, 1) := by decide +kernel
set_option maxHeartbeats 4000000 in
set_option maxRecDepth 100000 in
theorem c_X11_line (l : Launch) (E : zE) (n : Nat) (h : zH) (a0 : Nat) (p0 : Int32) (p1 : Int32) (p2 : Int32) (res : Int32 × zH) (hf : F_X11_line n h a0 p0 p1 p2 = some res) : Met l yX11_line (zw yX11_line cX11_line 5 (some .int)) ({ frames := 4, cells := 0, slots := 0, locals := 104 } : Room) (zPc E h [.ref (zB E + a0), .int p0, .int p1, .int p2]) (zQc E res.2 (some (.int res.1))) 0 0 (zfr E) := by
  refine zmet (lo := [(0, .ref (zB E + a0)), (1, .int p0), (2, .int p1), (3, .int p2)]) (by decide +kernel) (Nat.le_of_ble_eq_true rfl) rfl ?_
  intro p e s m args below meth c C hr hin
  unfold F_X11_line at hf
  have J16 : ∀ (h2 : zH), F_X11_line_J16 n h2 = some res → zW p l e (headSpec (zw yX11_line cX11_line 5 (some .int)) ({ frames := 4, cells := 0, slots := 0, locals := 104 } : Room)).room s m args below meth c E 5 (MQ below (zQc E res.2 (some (.int res.1))) args s 0 0 (zfr E)) 0 0 16 [] [] h2 := by
    intro h2 hf
    unfold F_X11_line_J16 at hf
    refine zr_bipush (v := -101) C dX11_line_16 (by decide) ?_
    exact zr_ireturn C hf hr (Nat.le_of_ble_eq_true rfl) (Nat.le_of_ble_eq_true rfl) dX11_line_18
  refine zr_aload_n C dX11_line_0 rfl 0 rfl ?_
  refine zr_iload_n C dX11_line_1 rfl 1 rfl ?_
  refine zr_callVi (As := [.int p0]) (rest := []) C hf (fun x hx => c_X11_isRow l E n h a0 p0 x hx) kv_X11_219 rfl rfl (Nat.le_of_ble_eq_true rfl) ⟨rfl, rfl⟩ ⟨Nat.le_of_ble_eq_true rfl, Nat.le_of_ble_eq_true rfl⟩ ⟨Nat.le_of_ble_eq_true rfl, Nat.le_of_ble_eq_true rfl⟩ dX11_line_2 (fun x4 h3 hf => ?_)
  refine zr_if_eq (tgt := 16) C hf dX11_line_5 (by decide) (fun hf => ?_) (fun hf => ?_)
  · refine zsub [] rfl ?_
    exact J16 h3 hf
  · refine zr_aload_n C dX11_line_8 rfl 0 rfl ?_
    refine zr_iload_n C dX11_line_9 rfl 2 rfl ?_
    refine zr_callVi (As := [.int p1]) (rest := []) C hf (fun x hx => c_X11_isRing l E n h3 a0 p1 x hx) kv_X11_167 rfl rfl (Nat.le_of_ble_eq_true rfl) ⟨rfl, rfl⟩ ⟨Nat.le_of_ble_eq_true rfl, Nat.le_of_ble_eq_true rfl⟩ ⟨Nat.le_of_ble_eq_true rfl, Nat.le_of_ble_eq_true rfl⟩ dX11_line_10 (fun x6 h5 hf => ?_)
    refine zr_if_ne (tgt := 19) C hf dX11_line_13 (by decide) (fun hf => ?_) (fun hf => ?_)
    · refine zr_iload_n C dX11_line_19 rfl 3 rfl ?_
      refine zr_iconst (v := 0) C dX11_line_20 (by decide) ?_
      refine zr_bipush (v := 9) C dX11_line_21 (by decide) ?_
      refine zr_callSi (As := [.int p2, .int (0 : Int32), .int (9 : Int32)]) (rest := []) C hf (fun x hx => c_X11_within l E n h5 p2 (0 : Int32) (9 : Int32) x hx) ks_X11_111 rfl rfl (Nat.le_of_ble_eq_true rfl) ⟨rfl, rfl⟩ ⟨Nat.le_of_ble_eq_true rfl, Nat.le_of_ble_eq_true rfl⟩ ⟨Nat.le_of_ble_eq_true rfl, Nat.le_of_ble_eq_true rfl⟩ dX11_line_23 (fun x8 h7 hf => ?_)
      refine zr_if_ne (tgt := 32) C hf dX11_line_26 (by decide) (fun hf => ?_) (fun hf => ?_)
      · refine zr_iconst (v := 0) C dX11_line_32 (by decide) ?_
        refine zr_istore (lo2 := [(4, .int (0 : Int32)), (0, .ref (zB E + a0)), (1, .int p0), (2, .int p1), (3, .int p2)]) C dX11_line_33 (by decide) rfl ?_
        have L35 : ∀ (fu : Nat) (x : zH × Int32), zloop (fun kc x => F_X11_line_B35 n kc x.1 a0 p0 p1 p2 x.2) fu x = some res → zW p l e (headSpec (zw yX11_line cX11_line 5 (some .int)) ({ frames := 4, cells := 0, slots := 0, locals := 104 } : Room)).room s m args below meth c E 5 (MQ below (zQc E res.2 (some (.int res.1))) args s 0 0 (zfr E)) 0 0 35 [(0, .ref (zB E + a0)), (1, .int p0), (2, .int p1), (3, .int p2), (4, .int x.2)] [] x.1 := by
          refine z_loop _ ?_
          intro kc35 hk35 x hf
          obtain ⟨h19, x18⟩ := x
          dsimp only at hf ⊢
          unfold F_X11_line_B35 at hf
          refine zr_iload C dX11_line_35 4 rfl ?_
          refine zr_bipush (v := 10) C dX11_line_37 (by decide) ?_
          refine zr_icmp_ge (tgt := 63) C hf dX11_line_39 (by decide) (fun hf => ?_) (fun hf => ?_)
          · refine zr_iconst (v := -1) C dX11_line_63 (by decide) ?_
            exact zr_ireturn C hf hr (Nat.le_of_ble_eq_true rfl) (Nat.le_of_ble_eq_true rfl) dX11_line_64
          · refine zr_aload_n C dX11_line_42 rfl 0 rfl ?_
            refine zr_iload_n C dX11_line_43 rfl 1 rfl ?_
            refine zr_iload_n C dX11_line_44 rfl 2 rfl ?_
            refine zr_iload C dX11_line_45 4 rfl ?_
            refine zr_iload_n C dX11_line_47 rfl 3 rfl ?_
            refine zr_callVi (As := [.int p0, .int p1, .int x18, .int p2]) (rest := []) C hf (fun x hx => c_X11_oneEnds l E n h19 a0 p0 p1 x18 p2 x hx) kv_X11_228 rfl rfl (Nat.le_of_ble_eq_true rfl) ⟨rfl, rfl⟩ ⟨Nat.le_of_ble_eq_true rfl, Nat.le_of_ble_eq_true rfl⟩ ⟨Nat.le_of_ble_eq_true rfl, Nat.le_of_ble_eq_true rfl⟩ dX11_line_48 (fun x21 h20 hf => ?_)
            refine zr_if_eq (tgt := 57) C hf dX11_line_51 (by decide) (fun hf => ?_) (fun hf => ?_)
            · refine zr_iinc (v0 := 1) (k := 4) (f := fun v => [(4, .int v), (0, .ref (zB E + a0)), (1, .int p0), (2, .int p1), (3, .int p2)]) C hf (by decide) dX11_line_57 rfl (by decide) (fun v => rfl) (fun x22 hf => ?_)
              refine zr_goto (tgt := 35) C dX11_line_60 (by decide) ?_
              refine zsub [1, 2, 3, 4, 0] rfl ?_
              exact hk35 (h20, x22) hf
            · refine zr_iload C dX11_line_54 4 rfl ?_
              exact zr_ireturn C hf hr (Nat.le_of_ble_eq_true rfl) (Nat.le_of_ble_eq_true rfl) dX11_line_56
        refine zsub [1, 2, 3, 4, 0] rfl ?_
        exact L35 n (h7, (0 : Int32)) hf
      · refine zr_bipush (v := -102) C dX11_line_29 (by decide) ?_
        exact zr_ireturn C hf hr (Nat.le_of_ble_eq_true rfl) (Nat.le_of_ble_eq_true rfl) dX11_line_31
    · refine zsub [] rfl ?_
      exact J16 h5 hf
theorem dX11_want_0 : decode cX11_want 0 = .ok (.aload_n 0, 1) := by decide +kernel
theorem dX11_want_1 : decode cX11_want 1 = .ok (.iload_n 1, 1) := by decide +kernel
theorem dX11_want_2 : decode cX11_want 2 = .ok (.invokevirtual 167, 3) := by decide +kernel
theorem dX11_want_5 : decode cX11_want 5 = .ok (.ifCond .ne 6, 3) := by decide +kernel
theorem dX11_want_8 : decode cX11_want 8 = .ok (.bipush (-101), 2) := by decide +kernel
theorem dX11_want_10 : decode cX11_want 10 = .ok (.ireturn, 1) := by decide +kernel
theorem dX11_want_11 : decode cX11_want 11 = .ok (.iload_n 2, 1) := by decide +kernel
theorem dX11_want_12 : decode cX11_want 12 = .ok (.iconst 0, 1) := by decide +kernel
theorem dX11_want_13 : decode cX11_want 13 = .ok (.bipush 8, 2) := by decide +kernel
theorem dX11_want_15 : decode cX11_want 15 = .ok (.invokestatic 111, 3) := by decide +kernel
theorem dX11_want_18 : decode cX11_want 18 = .ok (.ifCond .ne 6, 3) := by decide +kernel
theorem dX11_want_21 : decode cX11_want 21 = .ok (.bipush (-102), 2) := by decide +kernel
theorem dX11_want_23 : decode cX11_want 23 = .ok (.ireturn, 1) := by decide +kernel
theorem dX11_want_24 : decode cX11_want 24 = .ok (.aload_n 0, 1) := by decide +kernel
theorem dX11_want_25 : decode cX11_want 25 = .ok (.getfield 43, 3) := by decide +kernel
theorem dX11_want_28 : decode cX11_want 28 = .ok (.iload_n 1, 1) := by decide +kernel
theorem dX11_want_29 : decode cX11_want 29 = .ok (.iaload, 1) := by decide +kernel
theorem dX11_want_30 : decode cX11_want 30 = .ok (.istore_n 3, 1) := by decide +kernel
theorem dX11_want_31 : decode cX11_want 31 = .ok (.aload_n 0, 1) := by decide +kernel
theorem dX11_want_32 : decode cX11_want 32 = .ok (.getfield 43, 3) := by decide +kernel
theorem dX11_want_35 : decode cX11_want 35 = .ok (.iload_n 1, 1) := by decide +kernel
theorem dX11_want_36 : decode cX11_want 36 = .ok (.iload_n 2, 1) := by decide +kernel
theorem dX11_want_37 : decode cX11_want 37 = .ok (.iastore, 1) := by decide +kernel
theorem dX11_want_38 : decode cX11_want 38 = .ok (.iload_n 3, 1) := by decide +kernel
theorem dX11_want_39 : decode cX11_want 39 = .ok (.ireturn, 1) := by decide +kernel
set_option maxHeartbeats 4000000 in
set_option maxRecDepth 100000 in
theorem c_X11_want (l : Launch) (E : zE) (n : Nat) (h : zH) (a0 : Nat) (p0 : Int32) (p1 : Int32) (res : Int32 × zH) (hf : F_X11_want n h a0 p0 p1 = some res) : Met l yX11_want (zw yX11_want cX11_want 4 (some .int)) ({ frames := 2, cells := 0, slots := 0, locals := 43 } : Room) (zPc E h [.ref (zB E + a0), .int p0, .int p1]) (zQc E res.2 (some (.int res.1))) 0 0 (zfr E) := by
  refine zmet (lo := [(0, .ref (zB E + a0)), (1, .int p0), (2, .int p1)]) (by decide +kernel) (Nat.le_of_ble_eq_true rfl) rfl ?_
  intro p e s m args below meth c C hr hin
  unfold F_X11_want at hf
  refine zr_aload_n C dX11_want_0 rfl 0 rfl ?_
  refine zr_iload_n C dX11_want_1 rfl 1 rfl ?_
  refine zr_callVi (As := [.int p0]) (rest := []) C hf (fun x hx => c_X11_isRing l E n h a0 p0 x hx) kv_X11_167 rfl rfl (Nat.le_of_ble_eq_true rfl) ⟨rfl, rfl⟩ ⟨Nat.le_of_ble_eq_true rfl, Nat.le_of_ble_eq_true rfl⟩ ⟨Nat.le_of_ble_eq_true rfl, Nat.le_of_ble_eq_true rfl⟩ dX11_want_2 (fun x2 h1 hf => ?_)
  refine zr_if_ne (tgt := 11) C hf dX11_want_5 (by decide) (fun hf => ?_) (fun hf => ?_)
  · refine zr_iload_n C dX11_want_11 rfl 2 rfl ?_
    refine zr_iconst (v := 0) C dX11_want_12 (by decide) ?_
    refine zr_bipush (v := 8) C dX11_want_13 (by decide) ?_
    refine zr_callSi (As := [.int p1, .int (0 : Int32), .int (8 : Int32)]) (rest := []) C hf (fun x hx => c_X11_within l E n h1 p1 (0 : Int32) (8 : Int32) x hx) ks_X11_111 rfl rfl (Nat.le_of_ble_eq_true rfl) ⟨rfl, rfl⟩ ⟨Nat.le_of_ble_eq_true rfl, Nat.le_of_ble_eq_true rfl⟩ ⟨Nat.le_of_ble_eq_true rfl, Nat.le_of_ble_eq_true rfl⟩ dX11_want_15 (fun x4 h3 hf => ?_)
    refine zr_if_ne (tgt := 24) C hf dX11_want_18 (by decide) (fun hf => ?_) (fun hf => ?_)
    · refine zr_aload_n C dX11_want_24 rfl 0 rfl ?_
      refine zr_gr C hf kg_X11_43 (fun _ _ _ => rfl) dX11_want_25 (fun w5 hf => ?_)
      refine zr_iload_n C dX11_want_28 rfl 1 rfl ?_
      refine zr_iaload C hf dX11_want_29 (fun x6 hf => ?_)
      refine zr_istore_n (lo2 := [(3, .int x6), (0, .ref (zB E + a0)), (1, .int p0), (2, .int p1)]) C dX11_want_30 rfl (by decide) rfl ?_
      refine zr_aload_n C dX11_want_31 rfl 1 rfl ?_
      refine zr_gr C hf kg_X11_43 (fun _ _ _ => rfl) dX11_want_32 (fun w7 hf => ?_)
      refine zr_iload_n C dX11_want_35 rfl 2 rfl ?_
      refine zr_iload_n C dX11_want_36 rfl 3 rfl ?_
      refine zr_iastore C hf dX11_want_37 (fun h8 hf => ?_)
      refine zr_iload_n C dX11_want_38 rfl 0 rfl ?_
      exact zr_ireturn C hf hr (Nat.le_of_ble_eq_true rfl) (Nat.le_of_ble_eq_true rfl) dX11_want_39
    · refine zr_bipush (v := -102) C dX11_want_21 (by decide) ?_
      exact zr_ireturn C hf hr (Nat.le_of_ble_eq_true rfl) (Nat.le_of_ble_eq_true rfl) dX11_want_23
  · refine zr_bipush (v := -101) C dX11_want_8 (by decide) ?_
    exact zr_ireturn C hf hr (Nat.le_of_ble_eq_true rfl) (Nat.le_of_ble_eq_true rfl) dX11_want_10
theorem dX11_offNow_0 : decode cX11_offNow 0 = .ok (.iconst 0, 1) := by decide +kernel
theorem dX11_offNow_1 : decode cX11_offNow 1 = .ok (.istore_n 1, 1) := by decide +kernel
theorem dX11_offNow_2 : decode cX11_offNow 2 = .ok (.iconst 0, 1) := by decide +kernel
theorem dX11_offNow_3 : decode cX11_offNow 3 = .ok (.istore_n 2, 1) := by decide +kernel
theorem dX11_offNow_4 : decode cX11_offNow 4 = .ok (.iload_n 2, 1) := by decide +kernel
theorem dX11_offNow_5 : decode cX11_offNow 5 = .ok (.aload_n 0, 1) := by decide +kernel
theorem dX11_offNow_6 : decode cX11_offNow 6 = .ok (.getfield 7, 3) := by decide +kernel
theorem dX11_offNow_9 : decode cX11_offNow 9 = .ok (.iconst 0, 1) := by decide +kernel
theorem dX11_offNow_10 : decode cX11_offNow 10 = .ok (.iaload, 1) := by decide +kernel
theorem dX11_offNow_11 : decode cX11_offNow 11 = .ok (.if_icmp .ge 62, 3) := by decide +kernel
theorem dX11_offNow_14 : decode cX11_offNow 14 = .ok (.iconst 0, 1) := by decide +kernel
theorem dX11_offNow_15 : decode cX11_offNow 15 = .ok (.istore_n 3, 1) := by decide +kernel
theorem dX11_offNow_16 : decode cX11_offNow 16 = .ok (.iconst 0, 1) := by decide +kernel
theorem dX11_offNow_17 : decode cX11_offNow 17 = .ok (.istore 4, 2) := by decide +kernel
theorem dX11_offNow_19 : decode cX11_offNow 19 = .ok (.iload 4, 2) := by decide +kernel
theorem dX11_offNow_21 : decode cX11_offNow 21 = .ok (.aload_n 0, 1) := by decide +kernel
theorem dX11_offNow_22 : decode cX11_offNow 22 = .ok (.getfield 146, 3) := by decide +kernel
theorem dX11_offNow_25 : decode cX11_offNow 25 = .ok (.if_icmp .ge 28, 3) := by decide +kernel
theorem dX11_offNow_28 : decode cX11_offNow 28 = .ok (.iload_n 3, 1) := by decide +kernel
theorem dX11_offNow_29 : decode cX11_offNow 29 = .ok (.aload_n 0, 1) := by decide +kernel
theorem dX11_offNow_30 : decode cX11_offNow 30 = .ok (.getfield 40, 3) := by decide +kernel
theorem dX11_offNow_33 : decode cX11_offNow 33 = .ok (.iload 4, 2) := by decide +kernel
theorem dX11_offNow_35 : decode cX11_offNow 35 = .ok (.iaload, 1) := by decide +kernel
theorem dX11_offNow_36 : decode cX11_offNow 36 = .ok (.iload_n 2, 1) := by decide +kernel
theorem dX11_offNow_37 : decode cX11_offNow 37 = .ok (.if_icmp .ne 7, 3) := by decide +kernel
theorem dX11_offNow_40 : decode cX11_offNow 40 = .ok (.iconst 1, 1) := by decide +kernel
theorem dX11_offNow_41 : decode cX11_offNow 41 = .ok (.goto 4, 3) := by decide +kernel
theorem dX11_offNow_44 : decode cX11_offNow 44 = .ok (.iconst 0, 1) := by decide +kernel
theorem dX11_offNow_45 : decode cX11_offNow 45 = .ok (.iadd, 1) := by decide +kernel
theorem dX11_offNow_46 : decode cX11_offNow 46 = .ok (.istore_n 3, 1) := by decide +kernel
theorem dX11_offNow_47 : decode cX11_offNow 47 = .ok (.iinc 4 1, 3) := by decide +kernel
theorem dX11_offNow_50 : decode cX11_offNow 50 = .ok (.goto (-31), 3) := by decide +kernel
theorem dX11_offNow_53 : decode cX11_offNow 53 = .ok (.iload_n 1, 1) := by decide +kernel
theorem dX11_offNow_54 : decode cX11_offNow 54 = .ok (.iload_n 3, 1) := by decide +kernel
theorem dX11_offNow_55 : decode cX11_offNow 55 = .ok (.aload_n 0, 1) := by decide +kernel
theorem dX11_offNow_56 : decode cX11_offNow 56 = .ok (.getfield 43, 3) := by decide +kernel
theorem dX11_offNow_59 : decode cX11_offNow 59 = .ok (.iload_n 2, 1) := by decide +kernel
theorem dX11_offNow_60 : decode cX11_offNow 60 = .ok (.iaload, 1) := by decide +kernel
theorem dX11_offNow_61 : decode cX11_offNow 61 = .ok (.isub, 1) := by decide +kernel
theorem dX11_offNow_62 : decode cX11_offNow 62 = .ok (.invokestatic 232, 3) := by decide +kernel
theorem dX11_offNow_65 : decode cX11_offNow 65 = .ok (.iadd, 1) := by decide +kernel
theorem dX11_offNow_66 : decode cX11_offNow 66 = .ok (.istore_n 1, 1) := by decide +kernel
theorem dX11_offNow_67 : decode cX11_offNow 67 = .ok (.iinc 2 1, 3) := by decide +kernel
theorem dX11_offNow_70 : decode cX11_offNow 70 = .ok (.goto (-66), 3) := by decide +kernel
theorem dX11_offNow_73 : decode cX11_offNow 73 = .ok (.iload_n 1, 1) := by decide +kernel
theorem dX11_offNow_74 : decode cX11_offNow 74 = .ok (.ireturn, 1) := by decide +kernel
set_option maxHeartbeats 4000000 in
set_option maxRecDepth 100000 in
theorem c_X11_offNow (l : Launch) (E : zE) (n : Nat) (h : zH) (a0 : Nat) (res : Int32 × zH) (hf : F_X11_offNow n h a0 = some res) : Met l yX11_offNow (zw yX11_offNow cX11_offNow 5 (some .int)) ({ frames := 1, cells := 0, slots := 0, locals := 20 } : Room) (zPc E h [.ref (zB E + a0)]) (zQc E res.2 (some (.int res.1))) 0 0 (zfr E) := by
  refine zmet (lo := [(0, .ref (zB E + a0))]) (by decide +kernel) (Nat.le_of_ble_eq_true rfl) rfl ?_
  intro p e s m args below meth c C hr hin
  unfold F_X11_offNow at hf
  refine zr_iconst (v := 0) C dX11_offNow_0 (by decide) ?_
  refine zr_istore_n (lo2 := [(1, .int (0 : Int32)), (0, .ref (zB E + a0))]) C dX11_offNow_1 rfl (by decide) rfl ?_
  refine zr_iconst (v := 0) C dX11_offNow_2 (by decide) ?_
  refine zr_istore_n (lo2 := [(2, .int (0 : Int32)), (1, .int (0 : Int32)), (0, .ref (zB E + a0))]) C dX11_offNow_3 rfl (by decide) rfl ?_
  have L4 : ∀ (fu : Nat) (x : zH × Int32 × Int32), zloop (fun kc x => F_X11_offNow_B4 n kc x.1 a0 x.2.1 x.2.2) fu x = some res → zW p l e (headSpec (zw yX11_offNow cX11_offNow 5 (some .int)) ({ frames := 1, cells := 0, slots := 0, locals := 20 } : Room)).room s m args below meth c E 5 (MQ below (zQc E res.2 (some (.int res.1))) args s 0 0 (zfr E)) 0 0 4 [(0, .ref (zB E + a0)), (1, .int x.2.1), (2, .int x.2.2)] [] x.1 := by
    refine z_loop _ ?_
    intro kc4 hk4 x hf
    obtain ⟨h53, x51, x52⟩ := x
    dsimp only at hf ⊢
    unfold F_X11_offNow_B4 at hf
    refine zr_iload_n C dX11_offNow_4 rfl 2 rfl ?_
    refine zr_aload_n C dX11_offNow_5 rfl 0 rfl ?_
    refine zr_gr C hf kg_X11_7 (fun _ _ _ => rfl) dX11_offNow_6 (fun w54 hf => ?_)
    refine zr_iconst (v := 0) C dX11_offNow_9 (by decide) ?_
    refine zr_iaload C hf dX11_offNow_10 (fun x55 hf => ?_)
    refine zr_icmp_ge (tgt := 73) C hf dX11_offNow_11 (by decide) (fun hf => ?_) (fun hf => ?_)
    · refine zr_iload_n C dX11_offNow_73 rfl 1 rfl ?_
      exact zr_ireturn C hf hr (Nat.le_of_ble_eq_true rfl) (Nat.le_of_ble_eq_true rfl) dX11_offNow_74
    · refine zr_iconst (v := 0) C dX11_offNow_14 (by decide) ?_
      refine zr_istore_n (lo2 := [(3, .int (0 : Int32)), (0, .ref (zB E + a0)), (1, .int x51), (2, .int x52)]) C dX11_offNow_15 rfl (by decide) rfl ?_
      refine zr_iconst (v := 0) C dX11_offNow_16 (by decide) ?_
      refine zr_istore (lo2 := [(4, .int (0 : Int32)), (3, .int (0 : Int32)), (0, .ref (zB E + a0)), (1, .int x51), (2, .int x52)]) C dX11_offNow_17 (by decide) rfl ?_
      have L19 : ∀ (fu : Nat) (x : zH × Int32 × Int32), zloop (fun kc x => F_X11_offNow_B19 n kc4 kc x.1 a0 x51 x52 x.2.1 x.2.2) fu x = some res → zW p l e (headSpec (zw yX11_offNow cX11_offNow 5 (some .int)) ({ frames := 1, cells := 0, slots := 0, locals := 20 } : Room)).room s m args below meth c E 5 (MQ below (zQc E res.2 (some (.int res.1))) args s 0 0 (zfr E)) 0 0 19 [(0, .ref (zB E + a0)), (1, .int x51), (2, .int x52), (3, .int x.2.1), (4, .int x.2.2)] [] x.1 := by
        refine z_loop _ ?_
        intro kc19 hk19 x hf
        obtain ⟨h58, x56, x57⟩ := x
        dsimp only at hf ⊢
        unfold F_X11_offNow_B19 at hf
        have J45 : ∀ (h62 : zH) (x59 : Int32) (x60 : Int32) (x61 : Int32), F_X11_offNow_J45 n kc4 kc19 h62 a0 x51 x52 x59 x60 x61 = some res → zW p l e (headSpec (zw yX11_offNow cX11_offNow 5 (some .int)) ({ frames := 1, cells := 0, slots := 0, locals := 20 } : Room)).room s m args below meth c E 5 (MQ below (zQc E res.2 (some (.int res.1))) args s 0 0 (zfr E)) 0 0 45 [(0, .ref (zB E + a0)), (1, .int x51), (2, .int x52), (4, .int x59)] [.int x61, .int x60] h62 := by
          intro h62 x59 x60 x61 hf
          unfold F_X11_offNow_J45 at hf
          refine zr_iadd C hf dX11_offNow_45 (fun x63 hf => ?_)
          refine zr_istore_n (lo2 := [(3, .int x63), (0, .ref (zB E + a0)), (1, .int x51), (2, .int x52), (4, .int x59)]) C dX11_offNow_46 rfl (by decide) rfl ?_
          refine zr_iinc (v0 := 1) (k := 4) (f := fun v => [(4, .int v), (3, .int x63), (0, .ref (zB E + a0)), (1, .int x51), (2, .int x52)]) C hf (by decide) dX11_offNow_47 rfl (by decide) (fun v => rfl) (fun x64 hf => ?_)
          refine zr_goto (tgt := 19) C dX11_offNow_50 (by decide) ?_
          refine zsub [2, 3, 4, 1, 0] rfl ?_
          exact hk19 (h62, x63, x64) hf
        refine zr_iload C dX11_offNow_19 4 rfl ?_
        refine zr_aload_n C dX11_offNow_21 rfl 0 rfl ?_
        refine zr_gi C hf kg_X11_146 (fun _ _ _ => rfl) dX11_offNow_22 (fun x65 hf => ?_)
        refine zr_icmp_ge (tgt := 53) C hf dX11_offNow_25 (by decide) (fun hf => ?_) (fun hf => ?_)
        · refine zr_iload_n C dX11_offNow_53 rfl 1 rfl ?_
          refine zr_iload_n C dX11_offNow_54 rfl 3 rfl ?_
          refine zr_aload_n C dX11_offNow_55 rfl 0 rfl ?_
          refine zr_gr C hf kg_X11_43 (fun _ _ _ => rfl) dX11_offNow_56 (fun w66 hf => ?_)
          refine zr_iload_n C dX11_offNow_59 rfl 2 rfl ?_
          refine zr_iaload C hf dX11_offNow_60 (fun x67 hf => ?_)
          refine zr_isub C hf dX11_offNow_61 (fun x68 hf => ?_)
          refine zr_callSi (As := [.int x68]) (rest := [.int x51]) C hf (fun x hx => c_X11_size l E n h58 x68 x hx) ks_X11_232 rfl rfl (Nat.le_of_ble_eq_true rfl) ⟨rfl, rfl⟩ ⟨Nat.le_of_ble_eq_true rfl, Nat.le_of_ble_eq_true rfl⟩ ⟨Nat.le_of_ble_eq_true rfl, Nat.le_of_ble_eq_true rfl⟩ dX11_offNow_62 (fun x70 h69 hf => ?_)
          refine zr_iadd C hf dX11_offNow_65 (fun x71 hf => ?_)
          refine zr_istore_n (lo2 := [(1, .int x71), (0, .ref (zB E + a0)), (2, .int x52), (3, .int x56), (4, .int x57)]) C dX11_offNow_66 rfl (by decide) rfl ?_
          refine zr_iinc (v0 := 1) (k := 2) (f := fun v => [(2, .int v), (1, .int x71), (0, .ref (zB E + a0)), (3, .int x56), (4, .int x57)]) C hf (by decide) dX11_offNow_67 rfl (by decide) (fun v => rfl) (fun x72 hf => ?_)
          refine zr_goto (tgt := 4) C dX11_offNow_70 (by decide) ?_
          refine zsub [2, 1, 0] rfl ?_
          exact hk4 (h69, x71, x72) hf
        · refine zr_iload_n C dX11_offNow_28 rfl 3 rfl ?_
          refine zr_aload_n C dX11_offNow_29 rfl 0 rfl ?_
          refine zr_gr C hf kg_X11_40 (fun _ _ _ => rfl) dX11_offNow_30 (fun w73 hf => ?_)
          refine zr_iload C dX11_offNow_33 4 rfl ?_
          refine zr_iaload C hf dX11_offNow_35 (fun x74 hf => ?_)
          refine zr_iload_n C dX11_offNow_36 rfl 2 rfl ?_
          refine zr_icmp_ne (tgt := 44) C hf dX11_offNow_37 (by decide) (fun hf => ?_) (fun hf => ?_)
          · refine zr_iconst (v := 0) C dX11_offNow_44 (by decide) ?_
            refine zsub [0, 1, 2, 4] rfl ?_
            exact J45 h58 x57 x56 (0 : Int32) hf
          · refine zr_iconst (v := 1) C dX11_offNow_40 (by decide) ?_
            refine zr_goto (tgt := 45) C dX11_offNow_41 (by decide) ?_
            refine zsub [0, 1, 2, 4] rfl ?_
            exact J45 h58 x57 x56 (1 : Int32) hf
      refine zsub [2, 3, 4, 1, 0] rfl ?_
      exact L19 n (h53, (0 : Int32), (0 : Int32)) hf
  refine zsub [2, 1, 0] rfl ?_
  exact L4 n (h, (0 : Int32), (0 : Int32)) hf
theorem dX11_off_0 : decode cX11_off 0 = .ok (.aload_n 0, 1) := by decide +kernel
theorem dX11_off_1 : decode cX11_off 1 = .ok (.iload_n 1, 1) := by decide +kernel
theorem dX11_off_2 : decode cX11_off 2 = .ok (.invokevirtual 219, 3) := by decide +kernel
theorem dX11_off_5 : decode cX11_off 5 = .ok (.ifCond .ne 6, 3) := by decide +kernel
theorem dX11_off_8 : decode cX11_off 8 = .ok (.bipush (-101), 2) := by decide +kernel
theorem dX11_off_10 : decode cX11_off 10 = .ok (.ireturn, 1) := by decide +kernel
theorem dX11_off_11 : decode cX11_off 11 = .ok (.aload_n 0, 1) := by decide +kernel
theorem dX11_off_12 : decode cX11_off 12 = .ok (.getfield 149, 3) := by decide +kernel
theorem dX11_off_15 : decode cX11_off 15 = .ok (.ifCond .ne 6, 3) := by decide +kernel
theorem dX11_off_18 : decode cX11_off 18 = .ok (.bipush (-103), 2) := by decide +kernel
theorem dX11_off_20 : decode cX11_off 20 = .ok (.ireturn, 1) := by decide +kernel
theorem dX11_off_21 : decode cX11_off 21 = .ok (.aload_n 0, 1) := by decide +kernel
theorem dX11_off_22 : decode cX11_off 22 = .ok (.iload_n 1, 1) := by decide +kernel
theorem dX11_off_23 : decode cX11_off 23 = .ok (.invokevirtual 222, 3) := by decide +kernel
theorem dX11_off_26 : decode cX11_off 26 = .ok (.aload_n 0, 1) := by decide +kernel
theorem dX11_off_27 : decode cX11_off 27 = .ok (.invokevirtual 235, 3) := by decide +kernel
theorem dX11_off_30 : decode cX11_off 30 = .ok (.ireturn, 1) := by decide +kernel
set_option maxHeartbeats 4000000 in
set_option maxRecDepth 100000 in
theorem c_X11_off (l : Launch) (E : zE) (n : Nat) (h : zH) (a0 : Nat) (p0 : Int32) (res : Int32 × zH) (hf : F_X11_off n h a0 p0 = some res) : Met l yX11_off (zw yX11_off cX11_off 2 (some .int)) ({ frames := 5, cells := 0, slots := 0, locals := 120 } : Room) (zPc E h [.ref (zB E + a0), .int p0]) (zQc E res.2 (some (.int res.1))) 0 0 (zfr E) := by
  refine zmet (lo := [(0, .ref (zB E + a0)), (1, .int p0)]) (by decide +kernel) (Nat.le_of_ble_eq_true rfl) rfl ?_
  intro p e s m args below meth c C hr hin
  unfold F_X11_off at hf
  refine zr_aload_n C dX11_off_0 rfl 0 rfl ?_
  refine zr_iload_n C dX11_off_1 rfl 1 rfl ?_
  refine zr_callVi (As := [.int p0]) (rest := []) C hf (fun x hx => c_X11_isRow l E n h a0 p0 x hx) kv_X11_219 rfl rfl (Nat.le_of_ble_eq_true rfl) ⟨rfl, rfl⟩ ⟨Nat.le_of_ble_eq_true rfl, Nat.le_of_ble_eq_true rfl⟩ ⟨Nat.le_of_ble_eq_true rfl, Nat.le_of_ble_eq_true rfl⟩ dX11_off_2 (fun x2 h1 hf => ?_)
  refine zr_if_ne (tgt := 11) C hf dX11_off_5 (by decide) (fun hf => ?_) (fun hf => ?_)
  · refine zr_aload_n C dX11_off_11 rfl 0 rfl ?_
    refine zr_gi C hf kg_X11_149 (fun _ _ _ => rfl) dX11_off_12 (fun x3 hf => ?_)
    refine zr_if_ne (tgt := 21) C hf dX11_off_15 (by decide) (fun hf => ?_) (fun hf => ?_)
    · refine zr_aload_n C dX11_off_21 rfl 0 rfl ?_
      refine zr_iload_n C dX11_off_22 rfl 1 rfl ?_
      refine zr_callVv (As := [.int p0]) (rest := []) C hf (fun x hx => c_X11_layRow l E n h1 a0 p0 x hx) kv_X11_222 rfl rfl (Nat.le_of_ble_eq_true rfl) ⟨rfl, rfl⟩ ⟨Nat.le_of_ble_eq_true rfl, Nat.le_of_ble_eq_true rfl⟩ ⟨Nat.le_of_ble_eq_true rfl, Nat.le_of_ble_eq_true rfl⟩ dX11_off_23 (fun _ h4 hf => ?_)
      refine zr_aload_n C dX11_off_26 rfl 0 rfl ?_
      refine zr_callVi (As := []) (rest := []) C hf (fun x hx => c_X11_offNow l E n h4 a0 x hx) kv_X11_235 rfl rfl (Nat.le_of_ble_eq_true rfl) ⟨rfl, rfl⟩ ⟨Nat.le_of_ble_eq_true rfl, Nat.le_of_ble_eq_true rfl⟩ ⟨Nat.le_of_ble_eq_true rfl, Nat.le_of_ble_eq_true rfl⟩ dX11_off_27 (fun x6 h5 hf => ?_)
      exact zr_ireturn C hf hr (Nat.le_of_ble_eq_true rfl) (Nat.le_of_ble_eq_true rfl) dX11_off_30
    · refine zr_bipush (v := -103) C dX11_off_18 (by decide) ?_
      exact zr_ireturn C hf hr (Nat.le_of_ble_eq_true rfl) (Nat.le_of_ble_eq_true rfl) dX11_off_20
  · refine zr_bipush (v := -101) C dX11_off_8 (by decide) ?_
    exact zr_ireturn C hf hr (Nat.le_of_ble_eq_true rfl) (Nat.le_of_ble_eq_true rfl) dX11_off_10
