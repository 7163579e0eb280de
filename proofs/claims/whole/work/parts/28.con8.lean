theorem dX11_found_0 : decode cX11_found 0 = .ok (.aload_n 0, 1) := by decide +kernel
theorem dX11_found_1 : decode cX11_found 1 = .ok (.getfield 149, 3) := by decide +kernel
theorem dX11_found_4 : decode cX11_found 4 = .ok (.ifCond .ne 6, 3) := by decide +kernel
theorem dX11_found_7 : decode cX11_found 7 = .ok (.bipush (-103), 2) := by decide +kernel
theorem dX11_found_9 : decode cX11_found 9 = .ok (.ireturn, 1) := by decide +kernel
theorem dX11_found_10 : decode cX11_found 10 = .ok (.iload_n 1, 1) := by decide +kernel
theorem dX11_found_11 : decode cX11_found 11 = .ok (.iconst 0, 1) := by decide +kernel
theorem dX11_found_12 : decode cX11_found 12 = .ok (.iconst 2, 1) := by decide +kernel
theorem dX11_found_13 : decode cX11_found 13 = .ok (.invokestatic 111, 3) := by decide +kernel
theorem dX11_found_16 : decode cX11_found 16 = .ok (.ifCond .ne 6, 3) := by decide +kernel
theorem dX11_found_19 : decode cX11_found 19 = .ok (.bipush (-102), 2) := by decide +kernel
theorem dX11_found_21 : decode cX11_found 21 = .ok (.ireturn, 1) := by decide +kernel
theorem dX11_found_22 : decode cX11_found 22 = .ok (.aload_n 0, 1) := by decide +kernel
theorem dX11_found_23 : decode cX11_found 23 = .ok (.getfield 239, 3) := by decide +kernel
theorem dX11_found_26 : decode cX11_found 26 = .ok (.bipush 12, 2) := by decide +kernel
theorem dX11_found_28 : decode cX11_found 28 = .ok (.if_icmp .ne 6, 3) := by decide +kernel
theorem dX11_found_31 : decode cX11_found 31 = .ok (.bipush (-103), 2) := by decide +kernel
theorem dX11_found_33 : decode cX11_found 33 = .ok (.ireturn, 1) := by decide +kernel
theorem dX11_found_34 : decode cX11_found 34 = .ok (.aload_n 0, 1) := by decide +kernel
theorem dX11_found_35 : decode cX11_found 35 = .ok (.dup, 1) := by decide +kernel
theorem dX11_found_36 : decode cX11_found 36 = .ok (.getfield 239, 3) := by decide +kernel
theorem dX11_found_39 : decode cX11_found 39 = .ok (.iconst 1, 1) := by decide +kernel
theorem dX11_found_40 : decode cX11_found 40 = .ok (.iadd, 1) := by decide +kernel
theorem dX11_found_41 : decode cX11_found 41 = .ok (.putfield 239, 3) := by decide +kernel
theorem dX11_found_44 : decode cX11_found 44 = .ok (.iconst 0, 1) := by decide +kernel
theorem dX11_found_45 : decode cX11_found 45 = .ok (.istore_n 2, 1) := by decide +kernel
theorem dX11_found_46 : decode cX11_found 46 = .ok (.ldc 242, 2) := by decide +kernel
theorem dX11_found_48 : decode cX11_found 48 = .ok (.istore_n 3, 1) := by decide +kernel
theorem dX11_found_49 : decode cX11_found 49 = .ok (.iconst 0, 1) := by decide +kernel
theorem dX11_found_50 : decode cX11_found 50 = .ok (.istore 4, 2) := by decide +kernel
theorem dX11_found_52 : decode cX11_found 52 = .ok (.iload 4, 2) := by decide +kernel
theorem dX11_found_54 : decode cX11_found 54 = .ok (.sipush 400, 3) := by decide +kernel
theorem dX11_found_57 : decode cX11_found 57 = .ok (.if_icmp .ge 56, 3) := by decide +kernel
theorem dX11_found_60 : decode cX11_found 60 = .ok (.aload_n 0, 1) := by decide +kernel
theorem dX11_found_61 : decode cX11_found 61 = .ok (.invokevirtual 210, 3) := by decide +kernel
theorem dX11_found_64 : decode cX11_found 64 = .ok (.aload_n 0, 1) := by decide +kernel
theorem dX11_found_65 : decode cX11_found 65 = .ok (.iconst 1, 1) := by decide +kernel
theorem dX11_found_66 : decode cX11_found 66 = .ok (.iload 4, 2) := by decide +kernel
theorem dX11_found_68 : decode cX11_found 68 = .ok (.bipush 20, 2) := by decide +kernel
theorem dX11_found_70 : decode cX11_found 70 = .ok (.idiv, 1) := by decide +kernel
theorem dX11_found_71 : decode cX11_found 71 = .ok (.iconst 1, 1) := by decide +kernel
theorem dX11_found_72 : decode cX11_found 72 = .ok (.iadd, 1) := by decide +kernel
theorem dX11_found_73 : decode cX11_found 73 = .ok (.iload 4, 2) := by decide +kernel
theorem dX11_found_75 : decode cX11_found 75 = .ok (.bipush 20, 2) := by decide +kernel
theorem dX11_found_77 : decode cX11_found 77 = .ok (.irem, 1) := by decide +kernel
theorem dX11_found_78 : decode cX11_found 78 = .ok (.iconst 1, 1) := by decide +kernel
theorem dX11_found_79 : decode cX11_found 79 = .ok (.iadd, 1) := by decide +kernel
theorem dX11_found_80 : decode cX11_found 80 = .ok (.invokevirtual 204, 3) := by decide +kernel
theorem dX11_found_83 : decode cX11_found 83 = .ok (.aload_n 0, 1) := by decide +kernel
theorem dX11_found_84 : decode cX11_found 84 = .ok (.iconst 0, 1) := by decide +kernel
theorem dX11_found_85 : decode cX11_found 85 = .ok (.iconst 0, 1) := by decide +kernel
theorem dX11_found_86 : decode cX11_found 86 = .ok (.bipush 60, 2) := by decide +kernel
theorem dX11_found_88 : decode cX11_found 88 = .ok (.invokevirtual 204, 3) := by decide +kernel
theorem dX11_found_91 : decode cX11_found 91 = .ok (.aload_n 0, 1) := by decide +kernel
theorem dX11_found_92 : decode cX11_found 92 = .ok (.invokevirtual 235, 3) := by decide +kernel
theorem dX11_found_95 : decode cX11_found 95 = .ok (.iload_n 3, 1) := by decide +kernel
theorem dX11_found_96 : decode cX11_found 96 = .ok (.if_icmp .ge 11, 3) := by decide +kernel
theorem dX11_found_99 : decode cX11_found 99 = .ok (.aload_n 0, 1) := by decide +kernel
theorem dX11_found_100 : decode cX11_found 100 = .ok (.invokevirtual 235, 3) := by decide +kernel
theorem dX11_found_103 : decode cX11_found 103 = .ok (.istore_n 3, 1) := by decide +kernel
theorem dX11_found_104 : decode cX11_found 104 = .ok (.iload 4, 2) := by decide +kernel
theorem dX11_found_106 : decode cX11_found 106 = .ok (.istore_n 2, 1) := by decide +kernel
theorem dX11_found_107 : decode cX11_found 107 = .ok (.iinc 4 1, 3) := by decide +kernel
theorem dX11_found_110 : decode cX11_found 110 = .ok (.goto (-58), 3) := by decide +kernel
theorem dX11_found_113 : decode cX11_found 113 = .ok (.iload_n 1, 1) := by decide +kernel
theorem dX11_found_114 : decode cX11_found 114 = .ok (.ifCond .ne 12, 3) := by decide +kernel
theorem dX11_found_117 : decode cX11_found 117 = .ok (.iload_n 2, 1) := by decide +kernel
theorem dX11_found_118 : decode cX11_found 118 = .ok (.bipush 20, 2) := by decide +kernel
theorem dX11_found_120 : decode cX11_found 120 = .ok (.idiv, 1) := by decide +kernel
theorem dX11_found_121 : decode cX11_found 121 = .ok (.iconst 1, 1) := by decide +kernel
theorem dX11_found_122 : decode cX11_found 122 = .ok (.iadd, 1) := by decide +kernel
theorem dX11_found_123 : decode cX11_found 123 = .ok (.goto 18, 3) := by decide +kernel
theorem dX11_found_126 : decode cX11_found 126 = .ok (.iload_n 1, 1) := by decide +kernel
theorem dX11_found_127 : decode cX11_found 127 = .ok (.iconst 1, 1) := by decide +kernel
theorem dX11_found_128 : decode cX11_found 128 = .ok (.if_icmp .ne 12, 3) := by decide +kernel
theorem dX11_found_131 : decode cX11_found 131 = .ok (.iload_n 2, 1) := by decide +kernel
theorem dX11_found_132 : decode cX11_found 132 = .ok (.bipush 20, 2) := by decide +kernel
theorem dX11_found_134 : decode cX11_found 134 = .ok (.irem, 1) := by decide +kernel
theorem dX11_found_135 : decode cX11_found 135 = .ok (.iconst 1, 1) := by decide +kernel
theorem dX11_found_136 : decode cX11_found 136 = .ok (.iadd, 1) := by decide +kernel
theorem dX11_found_137 : decode cX11_found 137 = .ok (.goto 4, 3) := by decide +kernel
theorem dX11_found_140 : decode cX11_found 140 = .ok (.iload_n 3, 1) := by decide +kernel
theorem dX11_found_141 : decode cX11_found 141 = .ok (.ireturn, 1) := by decide +kernel
set_option maxHeartbeats 4000000 in
set_option maxRecDepth 100000 in
theorem c_X11_found (l : Launch) (E : zE) (n : Nat) (h : zH) (a0 : Nat) (p0 : Int32) (res : Int32 × zH) (hf : F_X11_found n h a0 p0 = some res) : Met l yX11_found (zw yX11_found cX11_found 5 (some .int)) ({ frames := 4, cells := 0, slots := 0, locals := 98 } : Room) (zPc E h [.ref (zB E + a0), .int p0]) (zQc E res.2 (some (.int res.1))) 0 0 (zfr E) := by
  refine zmet (lo := [(0, .ref (zB E + a0)), (1, .int p0)]) (by decide +kernel) (Nat.le_of_ble_eq_true rfl) rfl ?_
  intro p e s m args below meth c C hr hin
  unfold F_X11_found at hf
  have J141 : ∀ (h4 : zH) (x3 : Int32), F_X11_found_J141 n h4 x3 = some res → zW p l e (headSpec (zw yX11_found cX11_found 5 (some .int)) ({ frames := 4, cells := 0, slots := 0, locals := 98 } : Room)).room s m args below meth c E 5 (MQ below (zQc E res.2 (some (.int res.1))) args s 0 0 (zfr E)) 0 0 141 [] [.int x3] h4 := by
    intro h4 x3 hf
    unfold F_X11_found_J141 at hf
    exact zr_ireturn C hf hr (Nat.le_of_ble_eq_true rfl) (Nat.le_of_ble_eq_true rfl) dX11_found_141
  refine zr_aload_n C dX11_found_0 rfl 0 rfl ?_
  refine zr_gi C hf kg_X11_149 (fun _ _ _ => rfl) dX11_found_1 (fun x5 hf => ?_)
  refine zr_if_ne (tgt := 10) C hf dX11_found_4 (by decide) (fun hf => ?_) (fun hf => ?_)
  · refine zr_iload_n C dX11_found_10 rfl 1 rfl ?_
    refine zr_iconst (v := 0) C dX11_found_11 (by decide) ?_
    refine zr_iconst (v := 2) C dX11_found_12 (by decide) ?_
    refine zr_callSi (As := [.int p0, .int (0 : Int32), .int (2 : Int32)]) (rest := []) C hf (fun x hx => c_X11_within l E n h p0 (0 : Int32) (2 : Int32) x hx) ks_X11_111 rfl rfl (Nat.le_of_ble_eq_true rfl) ⟨rfl, rfl⟩ ⟨Nat.le_of_ble_eq_true rfl, Nat.le_of_ble_eq_true rfl⟩ ⟨Nat.le_of_ble_eq_true rfl, Nat.le_of_ble_eq_true rfl⟩ dX11_found_13 (fun x7 h6 hf => ?_)
    refine zr_if_ne (tgt := 22) C hf dX11_found_16 (by decide) (fun hf => ?_) (fun hf => ?_)
    · refine zr_aload_n C dX11_found_22 rfl 0 rfl ?_
      refine zr_gi C hf kg_X11_239 (fun _ _ _ => rfl) dX11_found_23 (fun x8 hf => ?_)
      refine zr_bipush (v := 12) C dX11_found_26 (by decide) ?_
      refine zr_icmp_ne (tgt := 34) C hf dX11_found_28 (by decide) (fun hf => ?_) (fun hf => ?_)
      · refine zr_aload_n C dX11_found_34 rfl 0 rfl ?_
        refine zr_dup C dX11_found_35 rfl ?_
        refine zr_gi C hf kg_X11_239 (fun _ _ _ => rfl) dX11_found_36 (fun x9 hf => ?_)
        refine zr_iconst (v := 1) C dX11_found_39 (by decide) ?_
        refine zr_iadd C hf dX11_found_40 (fun x10 hf => ?_)
        refine zr_si C hf kp_X11_239 (fun _ _ _ => rfl) rfl dX11_found_41 (fun h11 hf => ?_)
        refine zr_iconst (v := 0) C dX11_found_44 (by decide) ?_
        refine zr_istore_n (lo2 := [(2, .int (0 : Int32)), (0, .ref (zB E + a0)), (1, .int p0)]) C dX11_found_45 rfl (by decide) rfl ?_
        refine zr_ldc (v := 268435456) C zt1245 dX11_found_46 ?_
        refine zr_istore_n (lo2 := [(3, .int (268435456 : Int32)), (2, .int (0 : Int32)), (0, .ref (zB E + a0)), (1, .int p0)]) C dX11_found_48 rfl (by decide) rfl ?_
        refine zr_iconst (v := 0) C dX11_found_49 (by decide) ?_
        refine zr_istore (lo2 := [(4, .int (0 : Int32)), (3, .int (268435456 : Int32)), (2, .int (0 : Int32)), (0, .ref (zB E + a0)), (1, .int p0)]) C dX11_found_50 (by decide) rfl ?_
        have L52 : ∀ (fu : Nat) (x : zH × Int32 × Int32 × Int32), zloop (fun kc x => F_X11_found_B52 n kc x.1 a0 p0 x.2.1 x.2.2.1 x.2.2.2) fu x = some res → zW p l e (headSpec (zw yX11_found cX11_found 5 (some .int)) ({ frames := 4, cells := 0, slots := 0, locals := 98 } : Room)).room s m args below meth c E 5 (MQ below (zQc E res.2 (some (.int res.1))) args s 0 0 (zfr E)) 0 0 52 [(0, .ref (zB E + a0)), (1, .int p0), (2, .int x.2.1), (3, .int x.2.2.1), (4, .int x.2.2.2)] [] x.1 := by
          refine z_loop _ ?_
          intro kc52 hk52 x hf
          obtain ⟨h43, x40, x41, x42⟩ := x
          dsimp only at hf ⊢
          unfold F_X11_found_B52 at hf
          have J107 : ∀ (h47 : zH) (x44 : Int32) (x45 : Int32) (x46 : Int32), F_X11_found_J107 n kc52 h47 a0 p0 x44 x45 x46 = some res → zW p l e (headSpec (zw yX11_found cX11_found 5 (some .int)) ({ frames := 4, cells := 0, slots := 0, locals := 98 } : Room)).room s m args below meth c E 5 (MQ below (zQc E res.2 (some (.int res.1))) args s 0 0 (zfr E)) 0 0 107 [(0, .ref (zB E + a0)), (1, .int p0), (2, .int x44), (3, .int x45), (4, .int x46)] [] h47 := by
            intro h47 x44 x45 x46 hf
            unfold F_X11_found_J107 at hf
            refine zr_iinc (v0 := 1) (k := 4) (f := fun v => [(4, .int v), (0, .ref (zB E + a0)), (1, .int p0), (2, .int x44), (3, .int x45)]) C hf (by decide) dX11_found_107 rfl (by decide) (fun v => rfl) (fun x48 hf => ?_)
            refine zr_goto (tgt := 52) C dX11_found_110 (by decide) ?_
            refine zsub [1, 2, 3, 4, 0] rfl ?_
            exact hk52 (h47, x44, x45, x48) hf
          refine zr_iload C dX11_found_52 4 rfl ?_
          refine zr_sipush (v := 400) C dX11_found_54 (by decide) ?_
          refine zr_icmp_ge (tgt := 113) C hf dX11_found_57 (by decide) (fun hf => ?_) (fun hf => ?_)
          · refine zr_iload_n C dX11_found_113 rfl 1 rfl ?_
            refine zr_if_ne (tgt := 126) C hf dX11_found_114 (by decide) (fun hf => ?_) (fun hf => ?_)
            · refine zr_iload_n C dX11_found_126 rfl 1 rfl ?_
              refine zr_iconst (v := 1) C dX11_found_127 (by decide) ?_
              refine zr_icmp_ne (tgt := 140) C hf dX11_found_128 (by decide) (fun hf => ?_) (fun hf => ?_)
              · refine zr_iload_n C dX11_found_140 rfl 3 rfl ?_
                refine zsub [] rfl ?_
                exact J141 h43 x41 hf
              · refine zr_iload_n C dX11_found_131 rfl 2 rfl ?_
                refine zr_bipush (v := 20) C dX11_found_132 (by decide) ?_
                refine zr_irem C hf dX11_found_134 (fun x49 hf => ?_)
                refine zr_iconst (v := 1) C dX11_found_135 (by decide) ?_
                refine zr_iadd C hf dX11_found_136 (fun x50 hf => ?_)
                refine zr_goto (tgt := 141) C dX11_found_137 (by decide) ?_
                refine zsub [] rfl ?_
                exact J141 h43 x50 hf
            · refine zr_iload_n C dX11_found_117 rfl 2 rfl ?_
              refine zr_bipush (v := 20) C dX11_found_118 (by decide) ?_
              refine zr_idiv C hf dX11_found_120 (fun x51 hf => ?_)
              refine zr_iconst (v := 1) C dX11_found_121 (by decide) ?_
              refine zr_iadd C hf dX11_found_122 (fun x52 hf => ?_)
              refine zr_goto (tgt := 141) C dX11_found_123 (by decide) ?_
              refine zsub [] rfl ?_
              exact J141 h43 x52 hf
          · refine zr_aload_n C dX11_found_60 rfl 0 rfl ?_
            refine zr_callVv (As := []) (rest := []) C hf (fun x hx => c_X11_begin l E n h43 a0 x hx) kv_X11_210 rfl rfl (Nat.le_of_ble_eq_true rfl) ⟨rfl, rfl⟩ ⟨Nat.le_of_ble_eq_true rfl, Nat.le_of_ble_eq_true rfl⟩ ⟨Nat.le_of_ble_eq_true rfl, Nat.le_of_ble_eq_true rfl⟩ dX11_found_61 (fun _ h53 hf => ?_)
            refine zr_aload_n C dX11_found_64 rfl 0 rfl ?_
            refine zr_iconst (v := 1) C dX11_found_65 (by decide) ?_
            refine zr_iload C dX11_found_66 4 rfl ?_
            refine zr_bipush (v := 20) C dX11_found_68 (by decide) ?_
            refine zr_idiv C hf dX11_found_70 (fun x54 hf => ?_)
            refine zr_iconst (v := 1) C dX11_found_71 (by decide) ?_
            refine zr_iadd C hf dX11_found_72 (fun x55 hf => ?_)
            refine zr_iload C dX11_found_73 4 rfl ?_
            refine zr_bipush (v := 20) C dX11_found_75 (by decide) ?_
            refine zr_irem C hf dX11_found_77 (fun x56 hf => ?_)
            refine zr_iconst (v := 1) C dX11_found_78 (by decide) ?_
            refine zr_iadd C hf dX11_found_79 (fun x57 hf => ?_)
            refine zr_callVv (As := [.int (1 : Int32), .int x55, .int x57]) (rest := []) C hf (fun x hx => c_X11_goAll l E n h53 a0 (1 : Int32) x55 x57 x hx) kv_X11_204 rfl rfl (Nat.le_of_ble_eq_true rfl) ⟨rfl, rfl⟩ ⟨Nat.le_of_ble_eq_true rfl, Nat.le_of_ble_eq_true rfl⟩ ⟨Nat.le_of_ble_eq_true rfl, Nat.le_of_ble_eq_true rfl⟩ dX11_found_80 (fun _ h58 hf => ?_)
            refine zr_aload_n C dX11_found_83 rfl 0 rfl ?_
            refine zr_iconst (v := 0) C dX11_found_84 (by decide) ?_
            refine zr_iconst (v := 0) C dX11_found_85 (by decide) ?_
            refine zr_bipush (v := 60) C dX11_found_86 (by decide) ?_
            refine zr_callVv (As := [.int (0 : Int32), .int (0 : Int32), .int (60 : Int32)]) (rest := []) C hf (fun x hx => c_X11_goAll l E n h58 a0 (0 : Int32) (0 : Int32) (60 : Int32) x hx) kv_X11_204 rfl rfl (Nat.le_of_ble_eq_true rfl) ⟨rfl, rfl⟩ ⟨Nat.le_of_ble_eq_true rfl, Nat.le_of_ble_eq_true rfl⟩ ⟨Nat.le_of_ble_eq_true rfl, Nat.le_of_ble_eq_true rfl⟩ dX11_found_88 (fun _ h59 hf => ?_)
            refine zr_aload_n C dX11_found_91 rfl 0 rfl ?_
            refine zr_callVi (As := []) (rest := []) C hf (fun x hx => c_X11_offNow l E n h59 a0 x hx) kv_X11_235 rfl rfl (Nat.le_of_ble_eq_true rfl) ⟨rfl, rfl⟩ ⟨Nat.le_of_ble_eq_true rfl, Nat.le_of_ble_eq_true rfl⟩ ⟨Nat.le_of_ble_eq_true rfl, Nat.le_of_ble_eq_true rfl⟩ dX11_found_92 (fun x61 h60 hf => ?_)
            refine zr_iload_n C dX11_found_95 rfl 3 rfl ?_
            refine zr_icmp_ge (tgt := 107) C hf dX11_found_96 (by decide) (fun hf => ?_) (fun hf => ?_)
            · exact J107 h60 x40 x41 x42 hf
            · refine zr_aload_n C dX11_found_99 rfl 0 rfl ?_
              refine zr_callVi (As := []) (rest := []) C hf (fun x hx => c_X11_offNow l E n h60 a0 x hx) kv_X11_235 rfl rfl (Nat.le_of_ble_eq_true rfl) ⟨rfl, rfl⟩ ⟨Nat.le_of_ble_eq_true rfl, Nat.le_of_ble_eq_true rfl⟩ ⟨Nat.le_of_ble_eq_true rfl, Nat.le_of_ble_eq_true rfl⟩ dX11_found_100 (fun x63 h62 hf => ?_)
              refine zr_istore_n (lo2 := [(3, .int x63), (0, .ref (zB E + a0)), (1, .int p0), (2, .int x40), (4, .int x42)]) C dX11_found_103 rfl (by decide) rfl ?_
              refine zr_iload C dX11_found_104 4 rfl ?_
              refine zr_istore_n (lo2 := [(2, .int x42), (3, .int x63), (0, .ref (zB E + a0)), (1, .int p0), (4, .int x42)]) C dX11_found_106 rfl (by decide) rfl ?_
              refine zsub [2, 3, 0, 1, 4] rfl ?_
              exact J107 h62 x42 x63 x42 hf
        refine zsub [3, 4, 2, 1, 0] rfl ?_
        exact L52 n (h11, (0 : Int32), (268435456 : Int32), (0 : Int32)) hf
      · refine zr_bipush (v := -103) C dX11_found_31 (by decide) ?_
        exact zr_ireturn C hf hr (Nat.le_of_ble_eq_true rfl) (Nat.le_of_ble_eq_true rfl) dX11_found_33
    · refine zr_bipush (v := -102) C dX11_found_19 (by decide) ?_
      exact zr_ireturn C hf hr (Nat.le_of_ble_eq_true rfl) (Nat.le_of_ble_eq_true rfl) dX11_found_21
  · refine zr_bipush (v := -103) C dX11_found_7 (by decide) ?_
    exact zr_ireturn C hf hr (Nat.le_of_ble_eq_true rfl) (Nat.le_of_ble_eq_true rfl) dX11_found_9
theorem dX11_seen_0 : decode cX11_seen 0 = .ok (.aload_n 0, 1) := by decide +kernel
theorem dX11_seen_1 : decode cX11_seen 1 = .ok (.iload_n 1, 1) := by decide +kernel
theorem dX11_seen_2 : decode cX11_seen 2 = .ok (.invokevirtual 195, 3) := by decide +kernel
theorem dX11_seen_5 : decode cX11_seen 5 = .ok (.ifCond .eq 16, 3) := by decide +kernel
theorem dX11_seen_8 : decode cX11_seen 8 = .ok (.iload_n 2, 1) := by decide +kernel
theorem dX11_seen_9 : decode cX11_seen 9 = .ok (.iconst (-1), 1) := by decide +kernel
theorem dX11_seen_10 : decode cX11_seen 10 = .ok (.if_icmp .eq 14, 3) := by decide +kernel
theorem dX11_seen_13 : decode cX11_seen 13 = .ok (.aload_n 0, 1) := by decide +kernel
theorem dX11_seen_14 : decode cX11_seen 14 = .ok (.iload_n 2, 1) := by decide +kernel
theorem dX11_seen_15 : decode cX11_seen 15 = .ok (.invokevirtual 167, 3) := by decide +kernel
theorem dX11_seen_18 : decode cX11_seen 18 = .ok (.ifCond .ne 6, 3) := by decide +kernel
theorem dX11_seen_21 : decode cX11_seen 21 = .ok (.bipush (-101), 2) := by decide +kernel
theorem dX11_seen_23 : decode cX11_seen 23 = .ok (.ireturn, 1) := by decide +kernel
theorem dX11_seen_24 : decode cX11_seen 24 = .ok (.aload_n 0, 1) := by decide +kernel
theorem dX11_seen_25 : decode cX11_seen 25 = .ok (.getfield 37, 3) := by decide +kernel
theorem dX11_seen_28 : decode cX11_seen 28 = .ok (.iload_n 1, 1) := by decide +kernel
theorem dX11_seen_29 : decode cX11_seen 29 = .ok (.iaload, 1) := by decide +kernel
theorem dX11_seen_30 : decode cX11_seen 30 = .ok (.istore_n 3, 1) := by decide +kernel
theorem dX11_seen_31 : decode cX11_seen 31 = .ok (.aload_n 0, 1) := by decide +kernel
theorem dX11_seen_32 : decode cX11_seen 32 = .ok (.getfield 37, 3) := by decide +kernel
theorem dX11_seen_35 : decode cX11_seen 35 = .ok (.iload_n 1, 1) := by decide +kernel
theorem dX11_seen_36 : decode cX11_seen 36 = .ok (.iload_n 2, 1) := by decide +kernel
theorem dX11_seen_37 : decode cX11_seen 37 = .ok (.iastore, 1) := by decide +kernel
theorem dX11_seen_38 : decode cX11_seen 38 = .ok (.iload_n 3, 1) := by decide +kernel
theorem dX11_seen_39 : decode cX11_seen 39 = .ok (.ireturn, 1) := by decide +kernel
set_option maxHeartbeats 4000000 in
set_option maxRecDepth 100000 in
theorem c_X11_seen (l : Launch) (E : zE) (n : Nat) (h : zH) (a0 : Nat) (p0 : Int32) (p1 : Int32) (res : Int32 × zH) (hf : F_X11_seen n h a0 p0 p1 = some res) : Met l yX11_seen (zw yX11_seen cX11_seen 4 (some .int)) ({ frames := 2, cells := 0, slots := 0, locals := 43 } : Room) (zPc E h [.ref (zB E + a0), .int p0, .int p1]) (zQc E res.2 (some (.int res.1))) 0 0 (zfr E) := by
  refine zmet (lo := [(0, .ref (zB E + a0)), (1, .int p0), (2, .int p1)]) (by decide +kernel) (Nat.le_of_ble_eq_true rfl) rfl ?_
  intro p e s m args below meth c C hr hin
  unfold F_X11_seen at hf
  have J24 : ∀ (h12 : zH) (w9 : Nat) (x10 : Int32) (x11 : Int32), F_X11_seen_J24 n h12 w9 x10 x11 = some res → zW p l e (headSpec (zw yX11_seen cX11_seen 4 (some .int)) ({ frames := 2, cells := 0, slots := 0, locals := 43 } : Room)).room s m args below meth c E 4 (MQ below (zQc E res.2 (some (.int res.1))) args s 0 0 (zfr E)) 0 0 24 [(0, .ref (zB E + w9)), (1, .int x10), (2, .int x11)] [] h12 := by
    intro h12 w9 x10 x11 hf
    unfold F_X11_seen_J24 at hf
    refine zr_aload_n C dX11_seen_24 rfl 0 rfl ?_
    refine zr_gr C hf kg_X11_37 (fun _ _ _ => rfl) dX11_seen_25 (fun w13 hf => ?_)
    refine zr_iload_n C dX11_seen_28 rfl 1 rfl ?_
    refine zr_iaload C hf dX11_seen_29 (fun x14 hf => ?_)
    refine zr_istore_n (lo2 := [(3, .int x14), (0, .ref (zB E + w9)), (1, .int x10), (2, .int x11)]) C dX11_seen_30 rfl (by decide) rfl ?_
    refine zr_aload_n C dX11_seen_31 rfl 1 rfl ?_
    refine zr_gr C hf kg_X11_37 (fun _ _ _ => rfl) dX11_seen_32 (fun w15 hf => ?_)
    refine zr_iload_n C dX11_seen_35 rfl 2 rfl ?_
    refine zr_iload_n C dX11_seen_36 rfl 3 rfl ?_
    refine zr_iastore C hf dX11_seen_37 (fun h16 hf => ?_)
    refine zr_iload_n C dX11_seen_38 rfl 0 rfl ?_
    exact zr_ireturn C hf hr (Nat.le_of_ble_eq_true rfl) (Nat.le_of_ble_eq_true rfl) dX11_seen_39
  have J21 : ∀ (h18 : zH), F_X11_seen_J21 n h18 = some res → zW p l e (headSpec (zw yX11_seen cX11_seen 4 (some .int)) ({ frames := 2, cells := 0, slots := 0, locals := 43 } : Room)).room s m args below meth c E 4 (MQ below (zQc E res.2 (some (.int res.1))) args s 0 0 (zfr E)) 0 0 21 [] [] h18 := by
    intro h18 hf
    unfold F_X11_seen_J21 at hf
    refine zr_bipush (v := -101) C dX11_seen_21 (by decide) ?_
    exact zr_ireturn C hf hr (Nat.le_of_ble_eq_true rfl) (Nat.le_of_ble_eq_true rfl) dX11_seen_23
  refine zr_aload_n C dX11_seen_0 rfl 0 rfl ?_
  refine zr_iload_n C dX11_seen_1 rfl 1 rfl ?_
  refine zr_callVi (As := [.int p0]) (rest := []) C hf (fun x hx => c_X11_isLeaf l E n h a0 p0 x hx) kv_X11_195 rfl rfl (Nat.le_of_ble_eq_true rfl) ⟨rfl, rfl⟩ ⟨Nat.le_of_ble_eq_true rfl, Nat.le_of_ble_eq_true rfl⟩ ⟨Nat.le_of_ble_eq_true rfl, Nat.le_of_ble_eq_true rfl⟩ dX11_seen_2 (fun x20 h19 hf => ?_)
  refine zr_if_eq (tgt := 21) C hf dX11_seen_5 (by decide) (fun hf => ?_) (fun hf => ?_)
  · refine zsub [] rfl ?_
    exact J21 h19 hf
  · refine zr_iload_n C dX11_seen_8 rfl 2 rfl ?_
    refine zr_iconst (v := -1) C dX11_seen_9 (by decide) ?_
    refine zr_icmp_eq (tgt := 24) C hf dX11_seen_10 (by decide) (fun hf => ?_) (fun hf => ?_)
    · exact J24 h19 a0 p0 p1 hf
    · refine zr_aload_n C dX11_seen_13 rfl 0 rfl ?_
      refine zr_iload_n C dX11_seen_14 rfl 2 rfl ?_
      refine zr_callVi (As := [.int p1]) (rest := []) C hf (fun x hx => c_X11_isRing l E n h19 a0 p1 x hx) kv_X11_167 rfl rfl (Nat.le_of_ble_eq_true rfl) ⟨rfl, rfl⟩ ⟨Nat.le_of_ble_eq_true rfl, Nat.le_of_ble_eq_true rfl⟩ ⟨Nat.le_of_ble_eq_true rfl, Nat.le_of_ble_eq_true rfl⟩ dX11_seen_15 (fun x22 h21 hf => ?_)
      refine zr_if_ne (tgt := 24) C hf dX11_seen_18 (by decide) (fun hf => ?_) (fun hf => ?_)
      · exact J24 h21 a0 p0 p1 hf
      · refine zsub [] rfl ?_
        exact J21 h21 hf
theorem dX11_read_0 : decode cX11_read 0 = .ok (.aload_n 0, 1) := by decide +kernel
theorem dX11_read_1 : decode cX11_read 1 = .ok (.getfield 149, 3) := by decide +kernel
theorem dX11_read_4 : decode cX11_read 4 = .ok (.ifCond .ne 6, 3) := by decide +kernel
theorem dX11_read_7 : decode cX11_read 7 = .ok (.bipush (-103), 2) := by decide +kernel
theorem dX11_read_9 : decode cX11_read 9 = .ok (.ireturn, 1) := by decide +kernel
theorem dX11_read_10 : decode cX11_read 10 = .ok (.iconst 0, 1) := by decide +kernel
theorem dX11_read_11 : decode cX11_read 11 = .ok (.istore_n 1, 1) := by decide +kernel
theorem dX11_read_12 : decode cX11_read 12 = .ok (.iconst 0, 1) := by decide +kernel
theorem dX11_read_13 : decode cX11_read 13 = .ok (.istore_n 2, 1) := by decide +kernel
theorem dX11_read_14 : decode cX11_read 14 = .ok (.iload_n 2, 1) := by decide +kernel
theorem dX11_read_15 : decode cX11_read 15 = .ok (.aload_n 0, 1) := by decide +kernel
theorem dX11_read_16 : decode cX11_read 16 = .ok (.getfield 155, 3) := by decide +kernel
theorem dX11_read_19 : decode cX11_read 19 = .ok (.if_icmp .ge 86, 3) := by decide +kernel
theorem dX11_read_22 : decode cX11_read 22 = .ok (.aload_n 0, 1) := by decide +kernel
theorem dX11_read_23 : decode cX11_read 23 = .ok (.iload_n 2, 1) := by decide +kernel
theorem dX11_read_24 : decode cX11_read 24 = .ok (.invokevirtual 222, 3) := by decide +kernel
theorem dX11_read_27 : decode cX11_read 27 = .ok (.iconst 1, 1) := by decide +kernel
theorem dX11_read_28 : decode cX11_read 28 = .ok (.istore_n 3, 1) := by decide +kernel
theorem dX11_read_29 : decode cX11_read 29 = .ok (.iconst 0, 1) := by decide +kernel
theorem dX11_read_30 : decode cX11_read 30 = .ok (.istore 4, 2) := by decide +kernel
theorem dX11_read_32 : decode cX11_read 32 = .ok (.iload 4, 2) := by decide +kernel
theorem dX11_read_34 : decode cX11_read 34 = .ok (.aload_n 0, 1) := by decide +kernel
theorem dX11_read_35 : decode cX11_read 35 = .ok (.getfield 146, 3) := by decide +kernel
theorem dX11_read_38 : decode cX11_read 38 = .ok (.if_icmp .ge 47, 3) := by decide +kernel
theorem dX11_read_41 : decode cX11_read 41 = .ok (.iload_n 3, 1) := by decide +kernel
theorem dX11_read_42 : decode cX11_read 42 = .ok (.ifCond .eq 35, 3) := by decide +kernel
theorem dX11_read_45 : decode cX11_read 45 = .ok (.aload_n 0, 1) := by decide +kernel
theorem dX11_read_46 : decode cX11_read 46 = .ok (.getfield 37, 3) := by decide +kernel
theorem dX11_read_49 : decode cX11_read 49 = .ok (.iload 4, 2) := by decide +kernel
theorem dX11_read_51 : decode cX11_read 51 = .ok (.iaload, 1) := by decide +kernel
theorem dX11_read_52 : decode cX11_read 52 = .ok (.iconst (-1), 1) := by decide +kernel
theorem dX11_read_53 : decode cX11_read 53 = .ok (.if_icmp .eq 20, 3) := by decide +kernel
theorem dX11_read_56 : decode cX11_read 56 = .ok (.aload_n 0, 1) := by decide +kernel
theorem dX11_read_57 : decode cX11_read 57 = .ok (.getfield 37, 3) := by decide +kernel
theorem dX11_read_60 : decode cX11_read 60 = .ok (.iload 4, 2) := by decide +kernel
theorem dX11_read_62 : decode cX11_read 62 = .ok (.iaload, 1) := by decide +kernel
theorem dX11_read_63 : decode cX11_read 63 = .ok (.aload_n 0, 1) := by decide +kernel
theorem dX11_read_64 : decode cX11_read 64 = .ok (.getfield 40, 3) := by decide +kernel
theorem dX11_read_67 : decode cX11_read 67 = .ok (.iload 4, 2) := by decide +kernel
theorem dX11_read_69 : decode cX11_read 69 = .ok (.iaload, 1) := by decide +kernel
theorem dX11_read_70 : decode cX11_read 70 = .ok (.if_icmp .ne 7, 3) := by decide +kernel
theorem dX11_read_73 : decode cX11_read 73 = .ok (.iconst 1, 1) := by decide +kernel
theorem dX11_read_74 : decode cX11_read 74 = .ok (.goto 4, 3) := by decide +kernel
theorem dX11_read_77 : decode cX11_read 77 = .ok (.iconst 0, 1) := by decide +kernel
theorem dX11_read_78 : decode cX11_read 78 = .ok (.istore_n 3, 1) := by decide +kernel
theorem dX11_read_79 : decode cX11_read 79 = .ok (.iinc 4 1, 3) := by decide +kernel
theorem dX11_read_82 : decode cX11_read 82 = .ok (.goto (-50), 3) := by decide +kernel
theorem dX11_read_85 : decode cX11_read 85 = .ok (.iload_n 1, 1) := by decide +kernel
theorem dX11_read_86 : decode cX11_read 86 = .ok (.iload_n 3, 1) := by decide +kernel
theorem dX11_read_87 : decode cX11_read 87 = .ok (.ifCond .eq 9, 3) := by decide +kernel
theorem dX11_read_90 : decode cX11_read 90 = .ok (.iconst 1, 1) := by decide +kernel
theorem dX11_read_91 : decode cX11_read 91 = .ok (.iload_n 2, 1) := by decide +kernel
theorem dX11_read_92 : decode cX11_read 92 = .ok (.ishl, 1) := by decide +kernel
theorem dX11_read_93 : decode cX11_read 93 = .ok (.goto 4, 3) := by decide +kernel
theorem dX11_read_96 : decode cX11_read 96 = .ok (.iconst 0, 1) := by decide +kernel
theorem dX11_read_97 : decode cX11_read 97 = .ok (.ior, 1) := by decide +kernel
theorem dX11_read_98 : decode cX11_read 98 = .ok (.istore_n 1, 1) := by decide +kernel
theorem dX11_read_99 : decode cX11_read 99 = .ok (.iinc 2 1, 3) := by decide +kernel
theorem dX11_read_102 : decode cX11_read 102 = .ok (.goto (-88), 3) := by decide +kernel
theorem dX11_read_105 : decode cX11_read 105 = .ok (.iload_n 1, 1) := by decide +kernel
theorem dX11_read_106 : decode cX11_read 106 = .ok (.ireturn, 1) := by decide +kernel
set_option maxHeartbeats 4000000 in
set_option maxRecDepth 100000 in
theorem c_X11_read (l : Launch) (E : zE) (n : Nat) (h : zH) (a0 : Nat) (res : Int32 × zH) (hf : F_X11_read n h a0 = some res) : Met l yX11_read (zw yX11_read cX11_read 5 (some .int)) ({ frames := 5, cells := 0, slots := 0, locals := 120 } : Room) (zPc E h [.ref (zB E + a0)]) (zQc E res.2 (some (.int res.1))) 0 0 (zfr E) := by
  refine zmet (lo := [(0, .ref (zB E + a0))]) (by decide +kernel) (Nat.le_of_ble_eq_true rfl) rfl ?_
  intro p e s m args below meth c C hr hin
  unfold F_X11_read at hf
  refine zr_aload_n C dX11_read_0 rfl 0 rfl ?_
  refine zr_gi C hf kg_X11_149 (fun _ _ _ => rfl) dX11_read_1 (fun x1 hf => ?_)
  refine zr_if_ne (tgt := 10) C hf dX11_read_4 (by decide) (fun hf => ?_) (fun hf => ?_)
  · refine zr_iconst (v := 0) C dX11_read_10 (by decide) ?_
    refine zr_istore_n (lo2 := [(1, .int (0 : Int32)), (0, .ref (zB E + a0))]) C dX11_read_11 rfl (by decide) rfl ?_
    refine zr_iconst (v := 0) C dX11_read_12 (by decide) ?_
    refine zr_istore_n (lo2 := [(2, .int (0 : Int32)), (1, .int (0 : Int32)), (0, .ref (zB E + a0))]) C dX11_read_13 rfl (by decide) rfl ?_
    have L14 : ∀ (fu : Nat) (x : zH × Int32 × Int32), zloop (fun kc x => F_X11_read_B14 n kc x.1 a0 x.2.1 x.2.2) fu x = some res → zW p l e (headSpec (zw yX11_read cX11_read 5 (some .int)) ({ frames := 5, cells := 0, slots := 0, locals := 120 } : Room)).room s m args below meth c E 5 (MQ below (zQc E res.2 (some (.int res.1))) args s 0 0 (zfr E)) 0 0 14 [(0, .ref (zB E + a0)), (1, .int x.2.1), (2, .int x.2.2)] [] x.1 := by
      refine z_loop _ ?_
      intro kc14 hk14 x hf
      obtain ⟨h67, x65, x66⟩ := x
      dsimp only at hf ⊢
      unfold F_X11_read_B14 at hf
      have J97 : ∀ (h71 : zH) (x68 : Int32) (x69 : Int32) (x70 : Int32), F_X11_read_J97 n kc14 h71 a0 x68 x69 x70 = some res → zW p l e (headSpec (zw yX11_read cX11_read 5 (some .int)) ({ frames := 5, cells := 0, slots := 0, locals := 120 } : Room)).room s m args below meth c E 5 (MQ below (zQc E res.2 (some (.int res.1))) args s 0 0 (zfr E)) 0 0 97 [(0, .ref (zB E + a0)), (2, .int x68)] [.int x70, .int x69] h71 := by
        intro h71 x68 x69 x70 hf
        unfold F_X11_read_J97 at hf
        refine zr_ior C hf dX11_read_97 (fun x72 hf => ?_)
        refine zr_istore_n (lo2 := [(1, .int x72), (0, .ref (zB E + a0)), (2, .int x68)]) C dX11_read_98 rfl (by decide) rfl ?_
        refine zr_iinc (v0 := 1) (k := 2) (f := fun v => [(2, .int v), (1, .int x72), (0, .ref (zB E + a0))]) C hf (by decide) dX11_read_99 rfl (by decide) (fun v => rfl) (fun x73 hf => ?_)
        refine zr_goto (tgt := 14) C dX11_read_102 (by decide) ?_
        refine zsub [2, 1, 0] rfl ?_
        exact hk14 (h71, x72, x73) hf
      refine zr_iload_n C dX11_read_14 rfl 2 rfl ?_
      refine zr_aload_n C dX11_read_15 rfl 0 rfl ?_
      refine zr_gi C hf kg_X11_155 (fun _ _ _ => rfl) dX11_read_16 (fun x74 hf => ?_)
      refine zr_icmp_ge (tgt := 105) C hf dX11_read_19 (by decide) (fun hf => ?_) (fun hf => ?_)
      · refine zr_iload_n C dX11_read_105 rfl 1 rfl ?_
        exact zr_ireturn C hf hr (Nat.le_of_ble_eq_true rfl) (Nat.le_of_ble_eq_true rfl) dX11_read_106
      · refine zr_aload_n C dX11_read_22 rfl 0 rfl ?_
        refine zr_iload_n C dX11_read_23 rfl 2 rfl ?_
        refine zr_callVv (As := [.int x66]) (rest := []) C hf (fun x hx => c_X11_layRow l E n h67 a0 x66 x hx) kv_X11_222 rfl rfl (Nat.le_of_ble_eq_true rfl) ⟨rfl, rfl⟩ ⟨Nat.le_of_ble_eq_true rfl, Nat.le_of_ble_eq_true rfl⟩ ⟨Nat.le_of_ble_eq_true rfl, Nat.le_of_ble_eq_true rfl⟩ dX11_read_24 (fun _ h75 hf => ?_)
        refine zr_iconst (v := 1) C dX11_read_27 (by decide) ?_
        refine zr_istore_n (lo2 := [(3, .int (1 : Int32)), (0, .ref (zB E + a0)), (1, .int x65), (2, .int x66)]) C dX11_read_28 rfl (by decide) rfl ?_
        refine zr_iconst (v := 0) C dX11_read_29 (by decide) ?_
        refine zr_istore (lo2 := [(4, .int (0 : Int32)), (3, .int (1 : Int32)), (0, .ref (zB E + a0)), (1, .int x65), (2, .int x66)]) C dX11_read_30 (by decide) rfl ?_
        have L32 : ∀ (fu : Nat) (x : zH × Int32 × Int32), zloop (fun kc x => F_X11_read_B32 n kc14 kc x.1 a0 x65 x66 x.2.1 x.2.2) fu x = some res → zW p l e (headSpec (zw yX11_read cX11_read 5 (some .int)) ({ frames := 5, cells := 0, slots := 0, locals := 120 } : Room)).room s m args below meth c E 5 (MQ below (zQc E res.2 (some (.int res.1))) args s 0 0 (zfr E)) 0 0 32 [(0, .ref (zB E + a0)), (1, .int x65), (2, .int x66), (3, .int x.2.1), (4, .int x.2.2)] [] x.1 := by
          refine z_loop _ ?_
          intro kc32 hk32 x hf
          obtain ⟨h78, x76, x77⟩ := x
          dsimp only at hf ⊢
          unfold F_X11_read_B32 at hf
          have J78 : ∀ (h81 : zH) (x79 : Int32) (x80 : Int32), F_X11_read_J78 n kc14 kc32 h81 a0 x65 x66 x79 x80 = some res → zW p l e (headSpec (zw yX11_read cX11_read 5 (some .int)) ({ frames := 5, cells := 0, slots := 0, locals := 120 } : Room)).room s m args below meth c E 5 (MQ below (zQc E res.2 (some (.int res.1))) args s 0 0 (zfr E)) 0 0 78 [(0, .ref (zB E + a0)), (1, .int x65), (2, .int x66), (4, .int x79)] [.int x80] h81 := by
            intro h81 x79 x80 hf
            unfold F_X11_read_J78 at hf
            refine zr_istore_n (lo2 := [(3, .int x80), (0, .ref (zB E + a0)), (1, .int x65), (2, .int x66), (4, .int x79)]) C dX11_read_78 rfl (by decide) rfl ?_
            refine zr_iinc (v0 := 1) (k := 4) (f := fun v => [(4, .int v), (3, .int x80), (0, .ref (zB E + a0)), (1, .int x65), (2, .int x66)]) C hf (by decide) dX11_read_79 rfl (by decide) (fun v => rfl) (fun x82 hf => ?_)
            refine zr_goto (tgt := 32) C dX11_read_82 (by decide) ?_
            refine zsub [2, 3, 4, 1, 0] rfl ?_
            exact hk32 (h81, x80, x82) hf
          have J77 : ∀ (h84 : zH) (x83 : Int32), F_X11_read_J77 n kc14 kc32 h84 a0 x65 x66 x83 = some res → zW p l e (headSpec (zw yX11_read cX11_read 5 (some .int)) ({ frames := 5, cells := 0, slots := 0, locals := 120 } : Room)).room s m args below meth c E 5 (MQ below (zQc E res.2 (some (.int res.1))) args s 0 0 (zfr E)) 0 0 77 [(0, .ref (zB E + a0)), (1, .int x65), (2, .int x66), (4, .int x83)] [] h84 := by
            intro h84 x83 hf
            unfold F_X11_read_J77 at hf
            refine zr_iconst (v := 0) C dX11_read_77 (by decide) ?_
            exact J78 h84 x83 (0 : Int32) hf
          have J73 : ∀ (h86 : zH) (x85 : Int32), F_X11_read_J73 n kc14 kc32 h86 a0 x65 x66 x85 = some res → zW p l e (headSpec (zw yX11_read cX11_read 5 (some .int)) ({ frames := 5, cells := 0, slots := 0, locals := 120 } : Room)).room s m args below meth c E 5 (MQ below (zQc E res.2 (some (.int res.1))) args s 0 0 (zfr E)) 0 0 73 [(0, .ref (zB E + a0)), (1, .int x65), (2, .int x66), (4, .int x85)] [] h86 := by
            intro h86 x85 hf
            unfold F_X11_read_J73 at hf
            refine zr_iconst (v := 1) C dX11_read_73 (by decide) ?_
            refine zr_goto (tgt := 78) C dX11_read_74 (by decide) ?_
            exact J78 h86 x85 (1 : Int32) hf
          refine zr_iload C dX11_read_32 4 rfl ?_
          refine zr_aload_n C dX11_read_34 rfl 0 rfl ?_
          refine zr_gi C hf kg_X11_146 (fun _ _ _ => rfl) dX11_read_35 (fun x87 hf => ?_)
          refine zr_icmp_ge (tgt := 85) C hf dX11_read_38 (by decide) (fun hf => ?_) (fun hf => ?_)
          · refine zr_iload_n C dX11_read_85 rfl 1 rfl ?_
            refine zr_iload_n C dX11_read_86 rfl 3 rfl ?_
            refine zr_if_eq (tgt := 96) C hf dX11_read_87 (by decide) (fun hf => ?_) (fun hf => ?_)
            · refine zr_iconst (v := 0) C dX11_read_96 (by decide) ?_
              refine zsub [0, 2] rfl ?_
              exact J97 h78 x66 x65 (0 : Int32) hf
            · refine zr_iconst (v := 1) C dX11_read_90 (by decide) ?_
              refine zr_iload_n C dX11_read_91 rfl 2 rfl ?_
              refine zr_ishl C hf dX11_read_92 (fun x88 hf => ?_)
              refine zr_goto (tgt := 97) C dX11_read_93 (by decide) ?_
              refine zsub [0, 2] rfl ?_
              exact J97 h78 x66 x65 x88 hf
          · refine zr_iload_n C dX11_read_41 rfl 3 rfl ?_
            refine zr_if_eq (tgt := 77) C hf dX11_read_42 (by decide) (fun hf => ?_) (fun hf => ?_)
            · refine zsub [0, 1, 2, 4] rfl ?_
              exact J77 h78 x77 hf
            · refine zr_aload_n C dX11_read_45 rfl 0 rfl ?_
              refine zr_gr C hf kg_X11_37 (fun _ _ _ => rfl) dX11_read_46 (fun w89 hf => ?_)
              refine zr_iload C dX11_read_49 4 rfl ?_
              refine zr_iaload C hf dX11_read_51 (fun x90 hf => ?_)
              refine zr_iconst (v := -1) C dX11_read_52 (by decide) ?_
              refine zr_icmp_eq (tgt := 73) C hf dX11_read_53 (by decide) (fun hf => ?_) (fun hf => ?_)
              · refine zsub [0, 1, 2, 4] rfl ?_
                exact J73 h78 x77 hf
              · refine zr_aload_n C dX11_read_56 rfl 0 rfl ?_
                refine zr_gr C hf kg_X11_37 (fun _ _ _ => rfl) dX11_read_57 (fun w91 hf => ?_)
                refine zr_iload C dX11_read_60 4 rfl ?_
                refine zr_iaload C hf dX11_read_62 (fun x92 hf => ?_)
                refine zr_aload_n C dX11_read_63 rfl 0 rfl ?_
                refine zr_gr C hf kg_X11_40 (fun _ _ _ => rfl) dX11_read_64 (fun w93 hf => ?_)
                refine zr_iload C dX11_read_67 4 rfl ?_
                refine zr_iaload C hf dX11_read_69 (fun x94 hf => ?_)
                refine zr_icmp_ne (tgt := 77) C hf dX11_read_70 (by decide) (fun hf => ?_) (fun hf => ?_)
                · refine zsub [0, 1, 2, 4] rfl ?_
                  exact J77 h78 x77 hf
                · refine zsub [0, 1, 2, 4] rfl ?_
                  exact J73 h78 x77 hf
        refine zsub [2, 3, 4, 1, 0] rfl ?_
        exact L32 n (h75, (1 : Int32), (0 : Int32)) hf
    refine zsub [2, 1, 0] rfl ?_
    exact L14 n (h, (0 : Int32), (0 : Int32)) hf
  · refine zr_bipush (v := -103) C dX11_read_7 (by decide) ?_
    exact zr_ireturn C hf hr (Nat.le_of_ble_eq_true rfl) (Nat.le_of_ble_eq_true rfl) dX11_read_9
theorem dX11_differentNow_0 : decode cX11_differentNow 0 = .ok (.iconst 0, 1) := by decide +kernel
theorem dX11_differentNow_1 : decode cX11_differentNow 1 = .ok (.istore_n 1, 1) := by decide +kernel
theorem dX11_differentNow_2 : decode cX11_differentNow 2 = .ok (.iconst 0, 1) := by decide +kernel
theorem dX11_differentNow_3 : decode cX11_differentNow 3 = .ok (.istore_n 2, 1) := by decide +kernel
theorem dX11_differentNow_4 : decode cX11_differentNow 4 = .ok (.iload_n 2, 1) := by decide +kernel
theorem dX11_differentNow_5 : decode cX11_differentNow 5 = .ok (.aload_n 0, 1) := by decide +kernel
theorem dX11_differentNow_6 : decode cX11_differentNow 6 = .ok (.getfield 146, 3) := by decide +kernel
theorem dX11_differentNow_9 : decode cX11_differentNow 9 = .ok (.if_icmp .ge 20, 3) := by decide +kernel
theorem dX11_differentNow_12 : decode cX11_differentNow 12 = .ok (.iload_n 1, 1) := by decide +kernel
theorem dX11_differentNow_13 : decode cX11_differentNow 13 = .ok (.iconst 1, 1) := by decide +kernel
theorem dX11_differentNow_14 : decode cX11_differentNow 14 = .ok (.aload_n 0, 1) := by decide +kernel
theorem dX11_differentNow_15 : decode cX11_differentNow 15 = .ok (.getfield 40, 3) := by decide +kernel
theorem dX11_differentNow_18 : decode cX11_differentNow 18 = .ok (.iload_n 2, 1) := by decide +kernel
theorem dX11_differentNow_19 : decode cX11_differentNow 19 = .ok (.iaload, 1) := by decide +kernel
theorem dX11_differentNow_20 : decode cX11_differentNow 20 = .ok (.ishl, 1) := by decide +kernel
theorem dX11_differentNow_21 : decode cX11_differentNow 21 = .ok (.ior, 1) := by decide +kernel
theorem dX11_differentNow_22 : decode cX11_differentNow 22 = .ok (.istore_n 1, 1) := by decide +kernel
theorem dX11_differentNow_23 : decode cX11_differentNow 23 = .ok (.iinc 2 1, 3) := by decide +kernel
theorem dX11_differentNow_26 : decode cX11_differentNow 26 = .ok (.goto (-22), 3) := by decide +kernel
theorem dX11_differentNow_29 : decode cX11_differentNow 29 = .ok (.iconst 0, 1) := by decide +kernel
theorem dX11_differentNow_30 : decode cX11_differentNow 30 = .ok (.istore_n 2, 1) := by decide +kernel
theorem dX11_differentNow_31 : decode cX11_differentNow 31 = .ok (.iconst 0, 1) := by decide +kernel
theorem dX11_differentNow_32 : decode cX11_differentNow 32 = .ok (.istore_n 3, 1) := by decide +kernel
theorem dX11_differentNow_33 : decode cX11_differentNow 33 = .ok (.iload_n 3, 1) := by decide +kernel
theorem dX11_differentNow_34 : decode cX11_differentNow 34 = .ok (.bipush 6, 2) := by decide +kernel
theorem dX11_differentNow_36 : decode cX11_differentNow 36 = .ok (.if_icmp .ge 17, 3) := by decide +kernel
theorem dX11_differentNow_39 : decode cX11_differentNow 39 = .ok (.iload_n 2, 1) := by decide +kernel
theorem dX11_differentNow_40 : decode cX11_differentNow 40 = .ok (.iload_n 1, 1) := by decide +kernel
theorem dX11_differentNow_41 : decode cX11_differentNow 41 = .ok (.iload_n 3, 1) := by decide +kernel
theorem dX11_differentNow_42 : decode cX11_differentNow 42 = .ok (.ishr, 1) := by decide +kernel
theorem dX11_differentNow_43 : decode cX11_differentNow 43 = .ok (.iconst 1, 1) := by decide +kernel
theorem dX11_differentNow_44 : decode cX11_differentNow 44 = .ok (.iand, 1) := by decide +kernel
theorem dX11_differentNow_45 : decode cX11_differentNow 45 = .ok (.iadd, 1) := by decide +kernel
theorem dX11_differentNow_46 : decode cX11_differentNow 46 = .ok (.istore_n 2, 1) := by decide +kernel
theorem dX11_differentNow_47 : decode cX11_differentNow 47 = .ok (.iinc 3 1, 3) := by decide +kernel
theorem dX11_differentNow_50 : decode cX11_differentNow 50 = .ok (.goto (-17), 3) := by decide +kernel
theorem dX11_differentNow_53 : decode cX11_differentNow 53 = .ok (.iload_n 2, 1) := by decide +kernel
theorem dX11_differentNow_54 : decode cX11_differentNow 54 = .ok (.ireturn, 1) := by decide +kernel
set_option maxHeartbeats 4000000 in
set_option maxRecDepth 100000 in
theorem c_X11_differentNow (l : Launch) (E : zE) (n : Nat) (h : zH) (a0 : Nat) (res : Int32 × zH) (hf : F_X11_differentNow n h a0 = some res) : Met l yX11_differentNow (zw yX11_differentNow cX11_differentNow 4 (some .int)) ({ frames := 0, cells := 0, slots := 0, locals := 0 } : Room) (zPc E h [.ref (zB E + a0)]) (zQc E res.2 (some (.int res.1))) 0 0 (zfr E) := by
  refine zmet (lo := [(0, .ref (zB E + a0))]) (by decide +kernel) (Nat.le_of_ble_eq_true rfl) rfl ?_
  intro p e s m args below meth c C hr hin
  unfold F_X11_differentNow at hf
  refine zr_iconst (v := 0) C dX11_differentNow_0 (by decide) ?_
  refine zr_istore_n (lo2 := [(1, .int (0 : Int32)), (0, .ref (zB E + a0))]) C dX11_differentNow_1 rfl (by decide) rfl ?_
  refine zr_iconst (v := 0) C dX11_differentNow_2 (by decide) ?_
  refine zr_istore_n (lo2 := [(2, .int (0 : Int32)), (1, .int (0 : Int32)), (0, .ref (zB E + a0))]) C dX11_differentNow_3 rfl (by decide) rfl ?_
  have L4 : ∀ (fu : Nat) (x : zH × Int32 × Int32), zloop (fun kc x => F_X11_differentNow_B4 n kc x.1 a0 x.2.1 x.2.2) fu x = some res → zW p l e (headSpec (zw yX11_differentNow cX11_differentNow 4 (some .int)) ({ frames := 0, cells := 0, slots := 0, locals := 0 } : Room)).room s m args below meth c E 4 (MQ below (zQc E res.2 (some (.int res.1))) args s 0 0 (zfr E)) 0 0 4 [(0, .ref (zB E + a0)), (1, .int x.2.1), (2, .int x.2.2)] [] x.1 := by
    refine z_loop _ ?_
    intro kc4 hk4 x hf
    obtain ⟨h28, x26, x27⟩ := x
    dsimp only at hf ⊢
    unfold F_X11_differentNow_B4 at hf
    refine zr_iload_n C dX11_differentNow_4 rfl 2 rfl ?_
    refine zr_aload_n C dX11_differentNow_5 rfl 0 rfl ?_
    refine zr_gi C hf kg_X11_146 (fun _ _ _ => rfl) dX11_differentNow_6 (fun x29 hf => ?_)
    refine zr_icmp_ge (tgt := 29) C hf dX11_differentNow_9 (by decide) (fun hf => ?_) (fun hf => ?_)
    · refine zr_iconst (v := 0) C dX11_differentNow_29 (by decide) ?_
      refine zr_istore_n (lo2 := [(2, .int (0 : Int32)), (0, .ref (zB E + a0)), (1, .int x26)]) C dX11_differentNow_30 rfl (by decide) rfl ?_
      refine zr_iconst (v := 0) C dX11_differentNow_31 (by decide) ?_
      refine zr_istore_n (lo2 := [(3, .int (0 : Int32)), (2, .int (0 : Int32)), (0, .ref (zB E + a0)), (1, .int x26)]) C dX11_differentNow_32 rfl (by decide) rfl ?_
      have L33 : ∀ (fu : Nat) (x : zH × Int32 × Int32), zloop (fun kc x => F_X11_differentNow_B33 n kc x.1 x26 x.2.1 x.2.2) fu x = some res → zW p l e (headSpec (zw yX11_differentNow cX11_differentNow 4 (some .int)) ({ frames := 0, cells := 0, slots := 0, locals := 0 } : Room)).room s m args below meth c E 4 (MQ below (zQc E res.2 (some (.int res.1))) args s 0 0 (zfr E)) 0 0 33 [(1, .int x26), (2, .int x.2.1), (3, .int x.2.2)] [] x.1 := by
        refine z_loop _ ?_
        intro kc33 hk33 x hf
        obtain ⟨h32, x30, x31⟩ := x
        dsimp only at hf ⊢
        unfold F_X11_differentNow_B33 at hf
        refine zr_iload_n C dX11_differentNow_33 rfl 2 rfl ?_
        refine zr_bipush (v := 6) C dX11_differentNow_34 (by decide) ?_
        refine zr_icmp_ge (tgt := 53) C hf dX11_differentNow_36 (by decide) (fun hf => ?_) (fun hf => ?_)
        · refine zr_iload_n C dX11_differentNow_53 rfl 1 rfl ?_
          exact zr_ireturn C hf hr (Nat.le_of_ble_eq_true rfl) (Nat.le_of_ble_eq_true rfl) dX11_differentNow_54
        · refine zr_iload_n C dX11_differentNow_39 rfl 1 rfl ?_
          refine zr_iload_n C dX11_differentNow_40 rfl 0 rfl ?_
          refine zr_iload_n C dX11_differentNow_41 rfl 2 rfl ?_
          refine zr_ishr C hf dX11_differentNow_42 (fun x33 hf => ?_)
          refine zr_iconst (v := 1) C dX11_differentNow_43 (by decide) ?_
          refine zr_iand C hf dX11_differentNow_44 (fun x34 hf => ?_)
          refine zr_iadd C hf dX11_differentNow_45 (fun x35 hf => ?_)
          refine zr_istore_n (lo2 := [(2, .int x35), (1, .int x26), (3, .int x31)]) C dX11_differentNow_46 rfl (by decide) rfl ?_
          refine zr_iinc (v0 := 1) (k := 2) (f := fun v => [(3, .int v), (2, .int x35), (1, .int x26)]) C hf (by decide) dX11_differentNow_47 rfl (by decide) (fun v => rfl) (fun x36 hf => ?_)
          refine zr_goto (tgt := 33) C dX11_differentNow_50 (by decide) ?_
          refine zsub [2, 1, 0] rfl ?_
          exact hk33 (h32, x35, x36) hf
      refine zsub [3, 1, 0] rfl ?_
      exact L33 n (h28, (0 : Int32), (0 : Int32)) hf
    · refine zr_iload_n C dX11_differentNow_12 rfl 1 rfl ?_
      refine zr_iconst (v := 1) C dX11_differentNow_13 (by decide) ?_
      refine zr_aload_n C dX11_differentNow_14 rfl 0 rfl ?_
      refine zr_gr C hf kg_X11_40 (fun _ _ _ => rfl) dX11_differentNow_15 (fun w37 hf => ?_)
      refine zr_iload_n C dX11_differentNow_18 rfl 2 rfl ?_
      refine zr_iaload C hf dX11_differentNow_19 (fun x38 hf => ?_)
      refine zr_ishl C hf dX11_differentNow_20 (fun x39 hf => ?_)
      refine zr_ior C hf dX11_differentNow_21 (fun x40 hf => ?_)
      refine zr_istore_n (lo2 := [(1, .int x40), (0, .ref (zB E + a0)), (2, .int x27)]) C dX11_differentNow_22 rfl (by decide) rfl ?_
      refine zr_iinc (v0 := 1) (k := 2) (f := fun v => [(2, .int v), (1, .int x40), (0, .ref (zB E + a0))]) C hf (by decide) dX11_differentNow_23 rfl (by decide) (fun v => rfl) (fun x41 hf => ?_)
      refine zr_goto (tgt := 4) C dX11_differentNow_26 (by decide) ?_
      refine zsub [2, 1, 0] rfl ?_
      exact hk4 (h28, x40, x41) hf
  refine zsub [2, 1, 0] rfl ?_
  exact L4 n (h, (0 : Int32), (0 : Int32)) hf
theorem dX11_tells_0 : decode cX11_tells 0 = .ok (.aload_n 0, 1) := by decide +kernel
theorem dX11_tells_1 : decode cX11_tells 1 = .ok (.getfield 149, 3) := by decide +kernel
theorem dX11_tells_4 : decode cX11_tells 4 = .ok (.ifCond .ne 6, 3) := by decide +kernel
theorem dX11_tells_7 : decode cX11_tells 7 = .ok (.bipush (-103), 2) := by decide +kernel
theorem dX11_tells_9 : decode cX11_tells 9 = .ok (.ireturn, 1) := by decide +kernel
theorem dX11_tells_10 : decode cX11_tells 10 = .ok (.iconst (-1), 1) := by decide +kernel
theorem dX11_tells_11 : decode cX11_tells 11 = .ok (.istore_n 1, 1) := by decide +kernel
theorem dX11_tells_12 : decode cX11_tells 12 = .ok (.iconst (-1), 1) := by decide +kernel
theorem dX11_tells_13 : decode cX11_tells 13 = .ok (.istore_n 2, 1) := by decide +kernel
theorem dX11_tells_14 : decode cX11_tells 14 = .ok (.iconst 0, 1) := by decide +kernel
theorem dX11_tells_15 : decode cX11_tells 15 = .ok (.istore_n 3, 1) := by decide +kernel
theorem dX11_tells_16 : decode cX11_tells 16 = .ok (.iload_n 3, 1) := by decide +kernel
theorem dX11_tells_17 : decode cX11_tells 17 = .ok (.aload_n 0, 1) := by decide +kernel
theorem dX11_tells_18 : decode cX11_tells 18 = .ok (.getfield 155, 3) := by decide +kernel
theorem dX11_tells_21 : decode cX11_tells 21 = .ok (.if_icmp .ge 45, 3) := by decide +kernel
theorem dX11_tells_24 : decode cX11_tells 24 = .ok (.aload_n 0, 1) := by decide +kernel
theorem dX11_tells_25 : decode cX11_tells 25 = .ok (.iload_n 3, 1) := by decide +kernel
theorem dX11_tells_26 : decode cX11_tells 26 = .ok (.invokevirtual 222, 3) := by decide +kernel
theorem dX11_tells_29 : decode cX11_tells 29 = .ok (.aload_n 0, 1) := by decide +kernel
theorem dX11_tells_30 : decode cX11_tells 30 = .ok (.invokevirtual 243, 3) := by decide +kernel
theorem dX11_tells_33 : decode cX11_tells 33 = .ok (.istore 4, 2) := by decide +kernel
theorem dX11_tells_35 : decode cX11_tells 35 = .ok (.iload 4, 2) := by decide +kernel
theorem dX11_tells_37 : decode cX11_tells 37 = .ok (.iload_n 2, 1) := by decide +kernel
theorem dX11_tells_38 : decode cX11_tells 38 = .ok (.if_icmp .le 7, 3) := by decide +kernel
theorem dX11_tells_41 : decode cX11_tells 41 = .ok (.iload_n 3, 1) := by decide +kernel
theorem dX11_tells_42 : decode cX11_tells 42 = .ok (.goto 4, 3) := by decide +kernel
theorem dX11_tells_45 : decode cX11_tells 45 = .ok (.iload_n 1, 1) := by decide +kernel
theorem dX11_tells_46 : decode cX11_tells 46 = .ok (.istore_n 1, 1) := by decide +kernel
theorem dX11_tells_47 : decode cX11_tells 47 = .ok (.iload 4, 2) := by decide +kernel
theorem dX11_tells_49 : decode cX11_tells 49 = .ok (.iload_n 2, 1) := by decide +kernel
theorem dX11_tells_50 : decode cX11_tells 50 = .ok (.if_icmp .le 8, 3) := by decide +kernel
theorem dX11_tells_53 : decode cX11_tells 53 = .ok (.iload 4, 2) := by decide +kernel
theorem dX11_tells_55 : decode cX11_tells 55 = .ok (.goto 4, 3) := by decide +kernel
theorem dX11_tells_58 : decode cX11_tells 58 = .ok (.iload_n 2, 1) := by decide +kernel
theorem dX11_tells_59 : decode cX11_tells 59 = .ok (.istore_n 2, 1) := by decide +kernel
theorem dX11_tells_60 : decode cX11_tells 60 = .ok (.iinc 3 1, 3) := by decide +kernel
theorem dX11_tells_63 : decode cX11_tells 63 = .ok (.goto (-47), 3) := by decide +kernel
theorem dX11_tells_66 : decode cX11_tells 66 = .ok (.iload_n 1, 1) := by decide +kernel
theorem dX11_tells_67 : decode cX11_tells 67 = .ok (.ireturn, 1) := by decide +kernel
set_option maxHeartbeats 4000000 in
set_option maxRecDepth 100000 in
theorem c_X11_tells (l : Launch) (E : zE) (n : Nat) (h : zH) (a0 : Nat) (res : Int32 × zH) (hf : F_X11_tells n h a0 = some res) : Met l yX11_tells (zw yX11_tells cX11_tells 5 (some .int)) ({ frames := 5, cells := 0, slots := 0, locals := 120 } : Room) (zPc E h [.ref (zB E + a0)]) (zQc E res.2 (some (.int res.1))) 0 0 (zfr E) := by
  refine zmet (lo := [(0, .ref (zB E + a0))]) (by decide +kernel) (Nat.le_of_ble_eq_true rfl) rfl ?_
  intro p e s m args below meth c C hr hin
  unfold F_X11_tells at hf
  refine zr_aload_n C dX11_tells_0 rfl 0 rfl ?_
  refine zr_gi C hf kg_X11_149 (fun _ _ _ => rfl) dX11_tells_1 (fun x1 hf => ?_)
  refine zr_if_ne (tgt := 10) C hf dX11_tells_4 (by decide) (fun hf => ?_) (fun hf => ?_)
  · refine zr_iconst (v := -1) C dX11_tells_10 (by decide) ?_
    refine zr_istore_n (lo2 := [(1, .int (-1 : Int32)), (0, .ref (zB E + a0))]) C dX11_tells_11 rfl (by decide) rfl ?_
    refine zr_iconst (v := -1) C dX11_tells_12 (by decide) ?_
    refine zr_istore_n (lo2 := [(2, .int (-1 : Int32)), (1, .int (-1 : Int32)), (0, .ref (zB E + a0))]) C dX11_tells_13 rfl (by decide) rfl ?_
    refine zr_iconst (v := 0) C dX11_tells_14 (by decide) ?_
    refine zr_istore_n (lo2 := [(3, .int (0 : Int32)), (2, .int (-1 : Int32)), (1, .int (-1 : Int32)), (0, .ref (zB E + a0))]) C dX11_tells_15 rfl (by decide) rfl ?_
    have L16 : ∀ (fu : Nat) (x : zH × Int32 × Int32 × Int32), zloop (fun kc x => F_X11_tells_B16 n kc x.1 a0 x.2.1 x.2.2.1 x.2.2.2) fu x = some res → zW p l e (headSpec (zw yX11_tells cX11_tells 5 (some .int)) ({ frames := 5, cells := 0, slots := 0, locals := 120 } : Room)).room s m args below meth c E 5 (MQ below (zQc E res.2 (some (.int res.1))) args s 0 0 (zfr E)) 0 0 16 [(0, .ref (zB E + a0)), (1, .int x.2.1), (2, .int x.2.2.1), (3, .int x.2.2.2)] [] x.1 := by
      refine z_loop _ ?_
      intro kc16 hk16 x hf
      obtain ⟨h26, x23, x24, x25⟩ := x
      dsimp only at hf ⊢
      unfold F_X11_tells_B16 at hf
      have J59 : ∀ (h30 : zH) (x27 : Int32) (x28 : Int32) (x29 : Int32), F_X11_tells_J59 n kc16 h30 a0 x27 x28 x29 = some res → zW p l e (headSpec (zw yX11_tells cX11_tells 5 (some .int)) ({ frames := 5, cells := 0, slots := 0, locals := 120 } : Room)).room s m args below meth c E 5 (MQ below (zQc E res.2 (some (.int res.1))) args s 0 0 (zfr E)) 0 0 59 [(0, .ref (zB E + a0)), (1, .int x27), (3, .int x28)] [.int x29] h30 := by
        intro h30 x27 x28 x29 hf
        unfold F_X11_tells_J59 at hf
        refine zr_istore_n (lo2 := [(2, .int x29), (0, .ref (zB E + a0)), (1, .int x27), (3, .int x28)]) C dX11_tells_59 rfl (by decide) rfl ?_
        refine zr_iinc (v0 := 1) (k := 3) (f := fun v => [(3, .int v), (2, .int x29), (0, .ref (zB E + a0)), (1, .int x27)]) C hf (by decide) dX11_tells_60 rfl (by decide) (fun v => rfl) (fun x31 hf => ?_)
        refine zr_goto (tgt := 16) C dX11_tells_63 (by decide) ?_
        refine zsub [2, 3, 1, 0] rfl ?_
        exact hk16 (h30, x27, x29, x31) hf
      have J46 : ∀ (h36 : zH) (x32 : Int32) (x33 : Int32) (x34 : Int32) (x35 : Int32), F_X11_tells_J46 n kc16 h36 a0 x32 x33 x34 x35 = some res → zW p l e (headSpec (zw yX11_tells cX11_tells 5 (some .int)) ({ frames := 5, cells := 0, slots := 0, locals := 120 } : Room)).room s m args below meth c E 5 (MQ below (zQc E res.2 (some (.int res.1))) args s 0 0 (zfr E)) 0 0 46 [(0, .ref (zB E + a0)), (2, .int x32), (3, .int x33), (4, .int x34)] [.int x35] h36 := by
        intro h36 x32 x33 x34 x35 hf
        unfold F_X11_tells_J46 at hf
        refine zr_istore_n (lo2 := [(1, .int x35), (0, .ref (zB E + a0)), (2, .int x32), (3, .int x33), (4, .int x34)]) C dX11_tells_46 rfl (by decide) rfl ?_
        refine zr_iload C dX11_tells_47 4 rfl ?_
        refine zr_iload_n C dX11_tells_49 rfl 2 rfl ?_
        refine zr_icmp_le (tgt := 58) C hf dX11_tells_50 (by decide) (fun hf => ?_) (fun hf => ?_)
        · refine zr_iload_n C dX11_tells_58 rfl 2 rfl ?_
          refine zsub [1, 0, 3] rfl ?_
          exact J59 h36 x35 x33 x32 hf
        · refine zr_iload C dX11_tells_53 4 rfl ?_
          refine zr_goto (tgt := 59) C dX11_tells_55 (by decide) ?_
          refine zsub [1, 0, 3] rfl ?_
          exact J59 h36 x35 x33 x34 hf
      refine zr_iload_n C dX11_tells_16 rfl 3 rfl ?_
      refine zr_aload_n C dX11_tells_17 rfl 0 rfl ?_
      refine zr_gi C hf kg_X11_155 (fun _ _ _ => rfl) dX11_tells_18 (fun x37 hf => ?_)
      refine zr_icmp_ge (tgt := 66) C hf dX11_tells_21 (by decide) (fun hf => ?_) (fun hf => ?_)
      · refine zr_iload_n C dX11_tells_66 rfl 1 rfl ?_
        exact zr_ireturn C hf hr (Nat.le_of_ble_eq_true rfl) (Nat.le_of_ble_eq_true rfl) dX11_tells_67
      · refine zr_aload_n C dX11_tells_24 rfl 0 rfl ?_
        refine zr_iload_n C dX11_tells_25 rfl 3 rfl ?_
        refine zr_callVv (As := [.int x25]) (rest := []) C hf (fun x hx => c_X11_layRow l E n h26 a0 x25 x hx) kv_X11_222 rfl rfl (Nat.le_of_ble_eq_true rfl) ⟨rfl, rfl⟩ ⟨Nat.le_of_ble_eq_true rfl, Nat.le_of_ble_eq_true rfl⟩ ⟨Nat.le_of_ble_eq_true rfl, Nat.le_of_ble_eq_true rfl⟩ dX11_tells_26 (fun _ h38 hf => ?_)
        refine zr_aload_n C dX11_tells_29 rfl 0 rfl ?_
        refine zr_callVi (As := []) (rest := []) C hf (fun x hx => c_X11_differentNow l E n h38 a0 x hx) kv_X11_243 rfl rfl (Nat.le_of_ble_eq_true rfl) ⟨rfl, rfl⟩ ⟨Nat.le_of_ble_eq_true rfl, Nat.le_of_ble_eq_true rfl⟩ ⟨Nat.le_of_ble_eq_true rfl, Nat.le_of_ble_eq_true rfl⟩ dX11_tells_30 (fun x40 h39 hf => ?_)
        refine zr_istore (lo2 := [(4, .int x40), (0, .ref (zB E + a0)), (1, .int x23), (2, .int x24), (3, .int x25)]) C dX11_tells_33 (by decide) rfl ?_
        refine zr_iload C dX11_tells_35 0 rfl ?_
        refine zr_iload_n C dX11_tells_37 rfl 3 rfl ?_
        refine zr_icmp_le (tgt := 45) C hf dX11_tells_38 (by decide) (fun hf => ?_) (fun hf => ?_)
        · refine zr_iload_n C dX11_tells_45 rfl 2 rfl ?_
          refine zsub [1, 3, 4, 0] rfl ?_
          exact J46 h39 x24 x25 x40 x23 hf
        · refine zr_iload_n C dX11_tells_41 rfl 4 rfl ?_
          refine zr_goto (tgt := 46) C dX11_tells_42 (by decide) ?_
          refine zsub [1, 3, 4, 0] rfl ?_
          exact J46 h39 x24 x25 x40 x25 hf
    refine zsub [3, 2, 1, 0] rfl ?_
    exact L16 n (h, (-1 : Int32), (-1 : Int32), (0 : Int32)) hf
  · refine zr_bipush (v := -103) C dX11_tells_7 (by decide) ?_
    exact zr_ireturn C hf hr (Nat.le_of_ble_eq_true rfl) (Nat.le_of_ble_eq_true rfl) dX11_tells_9
theorem dX11_apart_0 : decode cX11_apart 0 = .ok (.aload_n 0, 1) := by decide +kernel
theorem dX11_apart_1 : decode cX11_apart 1 = .ok (.iload_n 1, 1) := by decide +kernel
theorem dX11_apart_2 : decode cX11_apart 2 = .ok (.invokevirtual 219, 3) := by decide +kernel
theorem dX11_apart_5 : decode cX11_apart 5 = .ok (.ifCond .eq 19, 3) := by decide +kernel
theorem dX11_apart_8 : decode cX11_apart 8 = .ok (.aload_n 0, 1) := by decide +kernel
theorem dX11_apart_9 : decode cX11_apart 9 = .ok (.iload_n 2, 1) := by decide +kernel
theorem dX11_apart_10 : decode cX11_apart 10 = .ok (.invokevirtual 195, 3) := by decide +kernel
theorem dX11_apart_13 : decode cX11_apart 13 = .ok (.ifCond .eq 11, 3) := by decide +kernel
theorem dX11_apart_16 : decode cX11_apart 16 = .ok (.aload_n 0, 1) := by decide +kernel
theorem dX11_apart_17 : decode cX11_apart 17 = .ok (.iload_n 3, 1) := by decide +kernel
theorem dX11_apart_18 : decode cX11_apart 18 = .ok (.invokevirtual 195, 3) := by decide +kernel
theorem dX11_apart_21 : decode cX11_apart 21 = .ok (.ifCond .ne 6, 3) := by decide +kernel
theorem dX11_apart_24 : decode cX11_apart 24 = .ok (.bipush (-101), 2) := by decide +kernel
theorem dX11_apart_26 : decode cX11_apart 26 = .ok (.ireturn, 1) := by decide +kernel
theorem dX11_apart_27 : decode cX11_apart 27 = .ok (.aload_n 0, 1) := by decide +kernel
theorem dX11_apart_28 : decode cX11_apart 28 = .ok (.iload_n 1, 1) := by decide +kernel
theorem dX11_apart_29 : decode cX11_apart 29 = .ok (.invokevirtual 222, 3) := by decide +kernel
theorem dX11_apart_32 : decode cX11_apart 32 = .ok (.aload_n 0, 1) := by decide +kernel
theorem dX11_apart_33 : decode cX11_apart 33 = .ok (.getfield 40, 3) := by decide +kernel
theorem dX11_apart_36 : decode cX11_apart 36 = .ok (.iload_n 2, 1) := by decide +kernel
theorem dX11_apart_37 : decode cX11_apart 37 = .ok (.iaload, 1) := by decide +kernel
theorem dX11_apart_38 : decode cX11_apart 38 = .ok (.aload_n 0, 1) := by decide +kernel
theorem dX11_apart_39 : decode cX11_apart 39 = .ok (.getfield 40, 3) := by decide +kernel
theorem dX11_apart_42 : decode cX11_apart 42 = .ok (.iload_n 3, 1) := by decide +kernel
theorem dX11_apart_43 : decode cX11_apart 43 = .ok (.iaload, 1) := by decide +kernel
theorem dX11_apart_44 : decode cX11_apart 44 = .ok (.isub, 1) := by decide +kernel
theorem dX11_apart_45 : decode cX11_apart 45 = .ok (.invokestatic 232, 3) := by decide +kernel
theorem dX11_apart_48 : decode cX11_apart 48 = .ok (.ireturn, 1) := by decide +kernel
set_option maxHeartbeats 4000000 in
set_option maxRecDepth 100000 in
theorem c_X11_apart (l : Launch) (E : zE) (n : Nat) (h : zH) (a0 : Nat) (p0 : Int32) (p1 : Int32) (p2 : Int32) (res : Int32 × zH) (hf : F_X11_apart n h a0 p0 p1 p2 = some res) : Met l yX11_apart (zw yX11_apart cX11_apart 4 (some .int)) ({ frames := 5, cells := 0, slots := 0, locals := 120 } : Room) (zPc E h [.ref (zB E + a0), .int p0, .int p1, .int p2]) (zQc E res.2 (some (.int res.1))) 0 0 (zfr E) := by
  refine zmet (lo := [(0, .ref (zB E + a0)), (1, .int p0), (2, .int p1), (3, .int p2)]) (by decide +kernel) (Nat.le_of_ble_eq_true rfl) rfl ?_
  intro p e s m args below meth c C hr hin
  unfold F_X11_apart at hf
  have J24 : ∀ (h2 : zH), F_X11_apart_J24 n h2 = some res → zW p l e (headSpec (zw yX11_apart cX11_apart 4 (some .int)) ({ frames := 5, cells := 0, slots := 0, locals := 120 } : Room)).room s m args below meth c E 4 (MQ below (zQc E res.2 (some (.int res.1))) args s 0 0 (zfr E)) 0 0 24 [] [] h2 := by
    intro h2 hf
    unfold F_X11_apart_J24 at hf
    refine zr_bipush (v := -101) C dX11_apart_24 (by decide) ?_
    exact zr_ireturn C hf hr (Nat.le_of_ble_eq_true rfl) (Nat.le_of_ble_eq_true rfl) dX11_apart_26
  refine zr_aload_n C dX11_apart_0 rfl 0 rfl ?_
  refine zr_iload_n C dX11_apart_1 rfl 1 rfl ?_
  refine zr_callVi (As := [.int p0]) (rest := []) C hf (fun x hx => c_X11_isRow l E n h a0 p0 x hx) kv_X11_219 rfl rfl (Nat.le_of_ble_eq_true rfl) ⟨rfl, rfl⟩ ⟨Nat.le_of_ble_eq_true rfl, Nat.le_of_ble_eq_true rfl⟩ ⟨Nat.le_of_ble_eq_true rfl, Nat.le_of_ble_eq_true rfl⟩ dX11_apart_2 (fun x4 h3 hf => ?_)
  refine zr_if_eq (tgt := 24) C hf dX11_apart_5 (by decide) (fun hf => ?_) (fun hf => ?_)
  · refine zsub [] rfl ?_
    exact J24 h3 hf
  · refine zr_aload_n C dX11_apart_8 rfl 0 rfl ?_
    refine zr_iload_n C dX11_apart_9 rfl 2 rfl ?_
    refine zr_callVi (As := [.int p1]) (rest := []) C hf (fun x hx => c_X11_isLeaf l E n h3 a0 p1 x hx) kv_X11_195 rfl rfl (Nat.le_of_ble_eq_true rfl) ⟨rfl, rfl⟩ ⟨Nat.le_of_ble_eq_true rfl, Nat.le_of_ble_eq_true rfl⟩ ⟨Nat.le_of_ble_eq_true rfl, Nat.le_of_ble_eq_true rfl⟩ dX11_apart_10 (fun x6 h5 hf => ?_)
    refine zr_if_eq (tgt := 24) C hf dX11_apart_13 (by decide) (fun hf => ?_) (fun hf => ?_)
    · refine zsub [] rfl ?_
      exact J24 h5 hf
    · refine zr_aload_n C dX11_apart_16 rfl 0 rfl ?_
      refine zr_iload_n C dX11_apart_17 rfl 3 rfl ?_
      refine zr_callVi (As := [.int p2]) (rest := []) C hf (fun x hx => c_X11_isLeaf l E n h5 a0 p2 x hx) kv_X11_195 rfl rfl (Nat.le_of_ble_eq_true rfl) ⟨rfl, rfl⟩ ⟨Nat.le_of_ble_eq_true rfl, Nat.le_of_ble_eq_true rfl⟩ ⟨Nat.le_of_ble_eq_true rfl, Nat.le_of_ble_eq_true rfl⟩ dX11_apart_18 (fun x8 h7 hf => ?_)
      refine zr_if_ne (tgt := 27) C hf dX11_apart_21 (by decide) (fun hf => ?_) (fun hf => ?_)
      · refine zr_aload_n C dX11_apart_27 rfl 0 rfl ?_
        refine zr_iload_n C dX11_apart_28 rfl 1 rfl ?_
        refine zr_callVv (As := [.int p0]) (rest := []) C hf (fun x hx => c_X11_layRow l E n h7 a0 p0 x hx) kv_X11_222 rfl rfl (Nat.le_of_ble_eq_true rfl) ⟨rfl, rfl⟩ ⟨Nat.le_of_ble_eq_true rfl, Nat.le_of_ble_eq_true rfl⟩ ⟨Nat.le_of_ble_eq_true rfl, Nat.le_of_ble_eq_true rfl⟩ dX11_apart_29 (fun _ h9 hf => ?_)
        refine zr_aload_n C dX11_apart_32 rfl 0 rfl ?_
        refine zr_gr C hf kg_X11_40 (fun _ _ _ => rfl) dX11_apart_33 (fun w10 hf => ?_)
        refine zr_iload_n C dX11_apart_36 rfl 2 rfl ?_
        refine zr_iaload C hf dX11_apart_37 (fun x11 hf => ?_)
        refine zr_aload_n C dX11_apart_38 rfl 0 rfl ?_
        refine zr_gr C hf kg_X11_40 (fun _ _ _ => rfl) dX11_apart_39 (fun w12 hf => ?_)
        refine zr_iload_n C dX11_apart_42 rfl 3 rfl ?_
        refine zr_iaload C hf dX11_apart_43 (fun x13 hf => ?_)
        refine zr_isub C hf dX11_apart_44 (fun x14 hf => ?_)
        refine zr_callSi (As := [.int x14]) (rest := []) C hf (fun x hx => c_X11_size l E n h9 x14 x hx) ks_X11_232 rfl rfl (Nat.le_of_ble_eq_true rfl) ⟨rfl, rfl⟩ ⟨Nat.le_of_ble_eq_true rfl, Nat.le_of_ble_eq_true rfl⟩ ⟨Nat.le_of_ble_eq_true rfl, Nat.le_of_ble_eq_true rfl⟩ dX11_apart_45 (fun x16 h15 hf => ?_)
        exact zr_ireturn C hf hr (Nat.le_of_ble_eq_true rfl) (Nat.le_of_ble_eq_true rfl) dX11_apart_48
      · refine zsub [] rfl ?_
        exact J24 h7 hf
theorem dX11_picture_0 : decode cX11_picture 0 = .ok (.iload_n 1, 1) := by decide +kernel
theorem dX11_picture_1 : decode cX11_picture 1 = .ok (.bipush (-99), 2) := by decide +kernel
theorem dX11_picture_3 : decode cX11_picture 3 = .ok (.bipush 99, 2) := by decide +kernel
theorem dX11_picture_5 : decode cX11_picture 5 = .ok (.invokestatic 111, 3) := by decide +kernel
theorem dX11_picture_8 : decode cX11_picture 8 = .ok (.ifCond .eq 14, 3) := by decide +kernel
theorem dX11_picture_11 : decode cX11_picture 11 = .ok (.iload_n 2, 1) := by decide +kernel
theorem dX11_picture_12 : decode cX11_picture 12 = .ok (.bipush (-99), 2) := by decide +kernel
theorem dX11_picture_14 : decode cX11_picture 14 = .ok (.bipush 99, 2) := by decide +kernel
theorem dX11_picture_16 : decode cX11_picture 16 = .ok (.invokestatic 111, 3) := by decide +kernel
theorem dX11_picture_19 : decode cX11_picture 19 = .ok (.ifCond .ne 6, 3) := by decide +kernel
theorem dX11_picture_22 : decode cX11_picture 22 = .ok (.bipush (-102), 2) := by decide +kernel
theorem dX11_picture_24 : decode cX11_picture 24 = .ok (.ireturn, 1) := by decide +kernel
theorem dX11_picture_25 : decode cX11_picture 25 = .ok (.aload_n 0, 1) := by decide +kernel
theorem dX11_picture_26 : decode cX11_picture 26 = .ok (.getfield 246, 3) := by decide +kernel
theorem dX11_picture_29 : decode cX11_picture 29 = .ok (.bipush 12, 2) := by decide +kernel
theorem dX11_picture_31 : decode cX11_picture 31 = .ok (.if_icmp .ne 6, 3) := by decide +kernel
theorem dX11_picture_34 : decode cX11_picture 34 = .ok (.bipush (-104), 2) := by decide +kernel
theorem dX11_picture_36 : decode cX11_picture 36 = .ok (.ireturn, 1) := by decide +kernel
theorem dX11_picture_37 : decode cX11_picture 37 = .ok (.aload_n 0, 1) := by decide +kernel
theorem dX11_picture_38 : decode cX11_picture 38 = .ok (.getfield 55, 3) := by decide +kernel
theorem dX11_picture_41 : decode cX11_picture 41 = .ok (.aload_n 0, 1) := by decide +kernel
theorem dX11_picture_42 : decode cX11_picture 42 = .ok (.getfield 246, 3) := by decide +kernel
theorem dX11_picture_45 : decode cX11_picture 45 = .ok (.iload_n 1, 1) := by decide +kernel
theorem dX11_picture_46 : decode cX11_picture 46 = .ok (.iastore, 1) := by decide +kernel
theorem dX11_picture_47 : decode cX11_picture 47 = .ok (.aload_n 0, 1) := by decide +kernel
theorem dX11_picture_48 : decode cX11_picture 48 = .ok (.getfield 58, 3) := by decide +kernel
theorem dX11_picture_51 : decode cX11_picture 51 = .ok (.aload_n 0, 1) := by decide +kernel
theorem dX11_picture_52 : decode cX11_picture 52 = .ok (.getfield 246, 3) := by decide +kernel
theorem dX11_picture_55 : decode cX11_picture 55 = .ok (.iload_n 2, 1) := by decide +kernel
theorem dX11_picture_56 : decode cX11_picture 56 = .ok (.iastore, 1) := by decide +kernel
theorem dX11_picture_57 : decode cX11_picture 57 = .ok (.aload_n 0, 1) := by decide +kernel
theorem dX11_picture_58 : decode cX11_picture 58 = .ok (.dup, 1) := by decide +kernel
theorem dX11_picture_59 : decode cX11_picture 59 = .ok (.getfield 246, 3) := by decide +kernel
theorem dX11_picture_62 : decode cX11_picture 62 = .ok (.iconst 1, 1) := by decide +kernel
theorem dX11_picture_63 : decode cX11_picture 63 = .ok (.iadd, 1) := by decide +kernel
theorem dX11_picture_64 : decode cX11_picture 64 = .ok (.putfield 246, 3) := by decide +kernel
theorem dX11_picture_67 : decode cX11_picture 67 = .ok (.aload_n 0, 1) := by decide +kernel
theorem dX11_picture_68 : decode cX11_picture 68 = .ok (.getfield 246, 3) := by decide +kernel
theorem dX11_picture_71 : decode cX11_picture 71 = .ok (.ireturn, 1) := by decide +kernel
set_option maxHeartbeats 4000000 in
set_option maxRecDepth 100000 in
theorem c_X11_picture (l : Launch) (E : zE) (n : Nat) (h : zH) (a0 : Nat) (p0 : Int32) (p1 : Int32) (res : Int32 × zH) (hf : F_X11_picture n h a0 p0 p1 = some res) : Met l yX11_picture (zw yX11_picture cX11_picture 3 (some .int)) ({ frames := 1, cells := 0, slots := 0, locals := 22 } : Room) (zPc E h [.ref (zB E + a0), .int p0, .int p1]) (zQc E res.2 (some (.int res.1))) 0 0 (zfr E) := by
  refine zmet (lo := [(0, .ref (zB E + a0)), (1, .int p0), (2, .int p1)]) (by decide +kernel) (Nat.le_of_ble_eq_true rfl) rfl ?_
  intro p e s m args below meth c C hr hin
  unfold F_X11_picture at hf
  have J22 : ∀ (h2 : zH), F_X11_picture_J22 n h2 = some res → zW p l e (headSpec (zw yX11_picture cX11_picture 3 (some .int)) ({ frames := 1, cells := 0, slots := 0, locals := 22 } : Room)).room s m args below meth c E 3 (MQ below (zQc E res.2 (some (.int res.1))) args s 0 0 (zfr E)) 0 0 22 [] [] h2 := by
    intro h2 hf
    unfold F_X11_picture_J22 at hf
    refine zr_bipush (v := -102) C dX11_picture_22 (by decide) ?_
    exact zr_ireturn C hf hr (Nat.le_of_ble_eq_true rfl) (Nat.le_of_ble_eq_true rfl) dX11_picture_24
  refine zr_iload_n C dX11_picture_0 rfl 1 rfl ?_
  refine zr_bipush (v := -99) C dX11_picture_1 (by decide) ?_
  refine zr_bipush (v := 99) C dX11_picture_3 (by decide) ?_
  refine zr_callSi (As := [.int p0, .int (-99 : Int32), .int (99 : Int32)]) (rest := []) C hf (fun x hx => c_X11_within l E n h p0 (-99 : Int32) (99 : Int32) x hx) ks_X11_111 rfl rfl (Nat.le_of_ble_eq_true rfl) ⟨rfl, rfl⟩ ⟨Nat.le_of_ble_eq_true rfl, Nat.le_of_ble_eq_true rfl⟩ ⟨Nat.le_of_ble_eq_true rfl, Nat.le_of_ble_eq_true rfl⟩ dX11_picture_5 (fun x4 h3 hf => ?_)
  refine zr_if_eq (tgt := 22) C hf dX11_picture_8 (by decide) (fun hf => ?_) (fun hf => ?_)
  · refine zsub [] rfl ?_
    exact J22 h3 hf
  · refine zr_iload_n C dX11_picture_11 rfl 2 rfl ?_
    refine zr_bipush (v := -99) C dX11_picture_12 (by decide) ?_
    refine zr_bipush (v := 99) C dX11_picture_14 (by decide) ?_
    refine zr_callSi (As := [.int p1, .int (-99 : Int32), .int (99 : Int32)]) (rest := []) C hf (fun x hx => c_X11_within l E n h3 p1 (-99 : Int32) (99 : Int32) x hx) ks_X11_111 rfl rfl (Nat.le_of_ble_eq_true rfl) ⟨rfl, rfl⟩ ⟨Nat.le_of_ble_eq_true rfl, Nat.le_of_ble_eq_true rfl⟩ ⟨Nat.le_of_ble_eq_true rfl, Nat.le_of_ble_eq_true rfl⟩ dX11_picture_16 (fun x6 h5 hf => ?_)
    refine zr_if_ne (tgt := 25) C hf dX11_picture_19 (by decide) (fun hf => ?_) (fun hf => ?_)
    · refine zr_aload_n C dX11_picture_25 rfl 0 rfl ?_
      refine zr_gi C hf kg_X11_246 (fun _ _ _ => rfl) dX11_picture_26 (fun x7 hf => ?_)
      refine zr_bipush (v := 12) C dX11_picture_29 (by decide) ?_
      refine zr_icmp_ne (tgt := 37) C hf dX11_picture_31 (by decide) (fun hf => ?_) (fun hf => ?_)
      · refine zr_aload_n C dX11_picture_37 rfl 0 rfl ?_
        refine zr_gr C hf kg_X11_55 (fun _ _ _ => rfl) dX11_picture_38 (fun w8 hf => ?_)
        refine zr_aload_n C dX11_picture_41 rfl 0 rfl ?_
        refine zr_gi C hf kg_X11_246 (fun _ _ _ => rfl) dX11_picture_42 (fun x9 hf => ?_)
        refine zr_iload_n C dX11_picture_45 rfl 1 rfl ?_
        refine zr_iastore C hf dX11_picture_46 (fun h10 hf => ?_)
        refine zr_aload_n C dX11_picture_47 rfl 0 rfl ?_
        refine zr_gr C hf kg_X11_58 (fun _ _ _ => rfl) dX11_picture_48 (fun w11 hf => ?_)
        refine zr_aload_n C dX11_picture_51 rfl 0 rfl ?_
        refine zr_gi C hf kg_X11_246 (fun _ _ _ => rfl) dX11_picture_52 (fun x12 hf => ?_)
        refine zr_iload_n C dX11_picture_55 rfl 2 rfl ?_
        refine zr_iastore C hf dX11_picture_56 (fun h13 hf => ?_)
        refine zr_aload_n C dX11_picture_57 rfl 0 rfl ?_
        refine zr_dup C dX11_picture_58 rfl ?_
        refine zr_gi C hf kg_X11_246 (fun _ _ _ => rfl) dX11_picture_59 (fun x14 hf => ?_)
        refine zr_iconst (v := 1) C dX11_picture_62 (by decide) ?_
        refine zr_iadd C hf dX11_picture_63 (fun x15 hf => ?_)
        refine zr_si C hf kp_X11_246 (fun _ _ _ => rfl) rfl dX11_picture_64 (fun h16 hf => ?_)
        refine zr_aload_n C dX11_picture_67 rfl 0 rfl ?_
        refine zr_gi C hf kg_X11_246 (fun _ _ _ => rfl) dX11_picture_68 (fun x17 hf => ?_)
        exact zr_ireturn C hf hr (Nat.le_of_ble_eq_true rfl) (Nat.le_of_ble_eq_true rfl) dX11_picture_71
      · refine zr_bipush (v := -104) C dX11_picture_34 (by decide) ?_
        exact zr_ireturn C hf hr (Nat.le_of_ble_eq_true rfl) (Nat.le_of_ble_eq_true rfl) dX11_picture_36
    · refine zsub [] rfl ?_
      exact J22 h5 hf
theorem dX11_drag_0 : decode cX11_drag 0 = .ok (.iconst 0, 1) := by decide +kernel
theorem dX11_drag_1 : decode cX11_drag 1 = .ok (.istore_n 1, 1) := by decide +kernel
theorem dX11_drag_2 : decode cX11_drag 2 = .ok (.ldc 242, 2) := by decide +kernel
theorem dX11_drag_4 : decode cX11_drag 4 = .ok (.istore_n 2, 1) := by decide +kernel
theorem dX11_drag_5 : decode cX11_drag 5 = .ok (.iconst 0, 1) := by decide +kernel
theorem dX11_drag_6 : decode cX11_drag 6 = .ok (.istore_n 3, 1) := by decide +kernel
theorem dX11_drag_7 : decode cX11_drag 7 = .ok (.iload_n 3, 1) := by decide +kernel
theorem dX11_drag_8 : decode cX11_drag 8 = .ok (.bipush 10, 2) := by decide +kernel
theorem dX11_drag_10 : decode cX11_drag 10 = .ok (.if_icmp .ge 86, 3) := by decide +kernel
theorem dX11_drag_13 : decode cX11_drag 13 = .ok (.iconst 0, 1) := by decide +kernel
theorem dX11_drag_14 : decode cX11_drag 14 = .ok (.istore 4, 2) := by decide +kernel
theorem dX11_drag_16 : decode cX11_drag 16 = .ok (.iconst 0, 1) := by decide +kernel
theorem dX11_drag_17 : decode cX11_drag 17 = .ok (.istore 5, 2) := by decide +kernel
theorem dX11_drag_19 : decode cX11_drag 19 = .ok (.iload 5, 2) := by decide +kernel
theorem dX11_drag_21 : decode cX11_drag 21 = .ok (.aload_n 0, 1) := by decide +kernel
theorem dX11_drag_22 : decode cX11_drag 22 = .ok (.getfield 246, 3) := by decide +kernel
theorem dX11_drag_25 : decode cX11_drag 25 = .ok (.if_icmp .ge 40, 3) := by decide +kernel
theorem dX11_drag_28 : decode cX11_drag 28 = .ok (.iload 4, 2) := by decide +kernel
theorem dX11_drag_30 : decode cX11_drag 30 = .ok (.aload_n 0, 1) := by decide +kernel
theorem dX11_drag_31 : decode cX11_drag 31 = .ok (.getfield 55, 3) := by decide +kernel
theorem dX11_drag_34 : decode cX11_drag 34 = .ok (.iload 5, 2) := by decide +kernel
theorem dX11_drag_36 : decode cX11_drag 36 = .ok (.iaload, 1) := by decide +kernel
theorem dX11_drag_37 : decode cX11_drag 37 = .ok (.bipush 10, 2) := by decide +kernel
theorem dX11_drag_39 : decode cX11_drag 39 = .ok (.iload_n 3, 1) := by decide +kernel
theorem dX11_drag_40 : decode cX11_drag 40 = .ok (.isub, 1) := by decide +kernel
theorem dX11_drag_41 : decode cX11_drag 41 = .ok (.imul, 1) := by decide +kernel
theorem dX11_drag_42 : decode cX11_drag 42 = .ok (.bipush 10, 2) := by decide +kernel
theorem dX11_drag_44 : decode cX11_drag 44 = .ok (.idiv, 1) := by decide +kernel
theorem dX11_drag_45 : decode cX11_drag 45 = .ok (.aload_n 0, 1) := by decide +kernel
theorem dX11_drag_46 : decode cX11_drag 46 = .ok (.getfield 58, 3) := by decide +kernel
theorem dX11_drag_49 : decode cX11_drag 49 = .ok (.iload 5, 2) := by decide +kernel
theorem dX11_drag_51 : decode cX11_drag 51 = .ok (.iaload, 1) := by decide +kernel
theorem dX11_drag_52 : decode cX11_drag 52 = .ok (.isub, 1) := by decide +kernel
theorem dX11_drag_53 : decode cX11_drag 53 = .ok (.invokestatic 232, 3) := by decide +kernel
theorem dX11_drag_56 : decode cX11_drag 56 = .ok (.iadd, 1) := by decide +kernel
theorem dX11_drag_57 : decode cX11_drag 57 = .ok (.istore 4, 2) := by decide +kernel
theorem dX11_drag_59 : decode cX11_drag 59 = .ok (.iinc 5 1, 3) := by decide +kernel
theorem dX11_drag_62 : decode cX11_drag 62 = .ok (.goto (-43), 3) := by decide +kernel
theorem dX11_drag_65 : decode cX11_drag 65 = .ok (.iload 4, 2) := by decide +kernel
theorem dX11_drag_67 : decode cX11_drag 67 = .ok (.iload_n 2, 1) := by decide +kernel
theorem dX11_drag_68 : decode cX11_drag 68 = .ok (.if_icmp .ge 7, 3) := by decide +kernel
theorem dX11_drag_71 : decode cX11_drag 71 = .ok (.iload_n 3, 1) := by decide +kernel
theorem dX11_drag_72 : decode cX11_drag 72 = .ok (.goto 4, 3) := by decide +kernel
theorem dX11_drag_75 : decode cX11_drag 75 = .ok (.iload_n 1, 1) := by decide +kernel
theorem dX11_drag_76 : decode cX11_drag 76 = .ok (.istore_n 1, 1) := by decide +kernel
theorem dX11_drag_77 : decode cX11_drag 77 = .ok (.iload 4, 2) := by decide +kernel
theorem dX11_drag_79 : decode cX11_drag 79 = .ok (.iload_n 2, 1) := by decide +kernel
theorem dX11_drag_80 : decode cX11_drag 80 = .ok (.if_icmp .ge 8, 3) := by decide +kernel
theorem dX11_drag_83 : decode cX11_drag 83 = .ok (.iload 4, 2) := by decide +kernel
theorem dX11_drag_85 : decode cX11_drag 85 = .ok (.goto 4, 3) := by decide +kernel
theorem dX11_drag_88 : decode cX11_drag 88 = .ok (.iload_n 2, 1) := by decide +kernel
theorem dX11_drag_89 : decode cX11_drag 89 = .ok (.istore_n 2, 1) := by decide +kernel
theorem dX11_drag_90 : decode cX11_drag 90 = .ok (.iinc 3 1, 3) := by decide +kernel
theorem dX11_drag_93 : decode cX11_drag 93 = .ok (.goto (-86), 3) := by decide +kernel
theorem dX11_drag_96 : decode cX11_drag 96 = .ok (.iload_n 1, 1) := by decide +kernel
theorem dX11_drag_97 : decode cX11_drag 97 = .ok (.ireturn, 1) := by decide +kernel
set_option maxHeartbeats 4000000 in
set_option maxRecDepth 100000 in
theorem c_X11_drag (l : Launch) (E : zE) (n : Nat) (h : zH) (a0 : Nat) (res : Int32 × zH) (hf : F_X11_drag n h a0 = some res) : Met l yX11_drag (zw yX11_drag cX11_drag 6 (some .int)) ({ frames := 1, cells := 0, slots := 0, locals := 20 } : Room) (zPc E h [.ref (zB E + a0)]) (zQc E res.2 (some (.int res.1))) 0 0 (zfr E) := by
  refine zmet (lo := [(0, .ref (zB E + a0))]) (by decide +kernel) (Nat.le_of_ble_eq_true rfl) rfl ?_
  intro p e s m args below meth c C hr hin
  unfold F_X11_drag at hf
  refine zr_iconst (v := 0) C dX11_drag_0 (by decide) ?_
  refine zr_istore_n (lo2 := [(1, .int (0 : Int32)), (0, .ref (zB E + a0))]) C dX11_drag_1 rfl (by decide) rfl ?_
  refine zr_ldc (v := 268435456) C zt1245 dX11_drag_2 ?_
  refine zr_istore_n (lo2 := [(2, .int (268435456 : Int32)), (1, .int (0 : Int32)), (0, .ref (zB E + a0))]) C dX11_drag_4 rfl (by decide) rfl ?_
  refine zr_iconst (v := 0) C dX11_drag_5 (by decide) ?_
  refine zr_istore_n (lo2 := [(3, .int (0 : Int32)), (2, .int (268435456 : Int32)), (1, .int (0 : Int32)), (0, .ref (zB E + a0))]) C dX11_drag_6 rfl (by decide) rfl ?_
  have L7 : ∀ (fu : Nat) (x : zH × Int32 × Int32 × Int32), zloop (fun kc x => F_X11_drag_B7 n kc x.1 a0 x.2.1 x.2.2.1 x.2.2.2) fu x = some res → zW p l e (headSpec (zw yX11_drag cX11_drag 6 (some .int)) ({ frames := 1, cells := 0, slots := 0, locals := 20 } : Room)).room s m args below meth c E 6 (MQ below (zQc E res.2 (some (.int res.1))) args s 0 0 (zfr E)) 0 0 7 [(0, .ref (zB E + a0)), (1, .int x.2.1), (2, .int x.2.2.1), (3, .int x.2.2.2)] [] x.1 := by
    refine z_loop _ ?_
    intro kc7 hk7 x hf
    obtain ⟨h57, x54, x55, x56⟩ := x
    dsimp only at hf ⊢
    unfold F_X11_drag_B7 at hf
    have J89 : ∀ (h61 : zH) (x58 : Int32) (x59 : Int32) (x60 : Int32), F_X11_drag_J89 n kc7 h61 a0 x58 x59 x60 = some res → zW p l e (headSpec (zw yX11_drag cX11_drag 6 (some .int)) ({ frames := 1, cells := 0, slots := 0, locals := 20 } : Room)).room s m args below meth c E 6 (MQ below (zQc E res.2 (some (.int res.1))) args s 0 0 (zfr E)) 0 0 89 [(0, .ref (zB E + a0)), (1, .int x58), (3, .int x59)] [.int x60] h61 := by
      intro h61 x58 x59 x60 hf
      unfold F_X11_drag_J89 at hf
      refine zr_istore_n (lo2 := [(2, .int x60), (0, .ref (zB E + a0)), (1, .int x58), (3, .int x59)]) C dX11_drag_89 rfl (by decide) rfl ?_
      refine zr_iinc (v0 := 1) (k := 3) (f := fun v => [(3, .int v), (2, .int x60), (0, .ref (zB E + a0)), (1, .int x58)]) C hf (by decide) dX11_drag_90 rfl (by decide) (fun v => rfl) (fun x62 hf => ?_)
      refine zr_goto (tgt := 7) C dX11_drag_93 (by decide) ?_
      refine zsub [2, 3, 1, 0] rfl ?_
      exact hk7 (h61, x58, x60, x62) hf
    have J76 : ∀ (h67 : zH) (x63 : Int32) (x64 : Int32) (x65 : Int32) (x66 : Int32), F_X11_drag_J76 n kc7 h67 a0 x63 x64 x65 x66 = some res → zW p l e (headSpec (zw yX11_drag cX11_drag 6 (some .int)) ({ frames := 1, cells := 0, slots := 0, locals := 20 } : Room)).room s m args below meth c E 6 (MQ below (zQc E res.2 (some (.int res.1))) args s 0 0 (zfr E)) 0 0 76 [(0, .ref (zB E + a0)), (2, .int x63), (3, .int x64), (4, .int x65)] [.int x66] h67 := by
      intro h67 x63 x64 x65 x66 hf
      unfold F_X11_drag_J76 at hf
      refine zr_istore_n (lo2 := [(1, .int x66), (0, .ref (zB E + a0)), (2, .int x63), (3, .int x64), (4, .int x65)]) C dX11_drag_76 rfl (by decide) rfl ?_
      refine zr_iload C dX11_drag_77 4 rfl ?_
      refine zr_iload_n C dX11_drag_79 rfl 2 rfl ?_
      refine zr_icmp_ge (tgt := 88) C hf dX11_drag_80 (by decide) (fun hf => ?_) (fun hf => ?_)
      · refine zr_iload_n C dX11_drag_88 rfl 2 rfl ?_
        refine zsub [1, 0, 3] rfl ?_
        exact J89 h67 x66 x64 x63 hf
      · refine zr_iload C dX11_drag_83 4 rfl ?_
        refine zr_goto (tgt := 89) C dX11_drag_85 (by decide) ?_
        refine zsub [1, 0, 3] rfl ?_
        exact J89 h67 x66 x64 x65 hf
    refine zr_iload_n C dX11_drag_7 rfl 3 rfl ?_
    refine zr_bipush (v := 10) C dX11_drag_8 (by decide) ?_
    refine zr_icmp_ge (tgt := 96) C hf dX11_drag_10 (by decide) (fun hf => ?_) (fun hf => ?_)
    · refine zr_iload_n C dX11_drag_96 rfl 1 rfl ?_
      exact zr_ireturn C hf hr (Nat.le_of_ble_eq_true rfl) (Nat.le_of_ble_eq_true rfl) dX11_drag_97
    · refine zr_iconst (v := 0) C dX11_drag_13 (by decide) ?_
      refine zr_istore (lo2 := [(4, .int (0 : Int32)), (0, .ref (zB E + a0)), (1, .int x54), (2, .int x55), (3, .int x56)]) C dX11_drag_14 (by decide) rfl ?_
      refine zr_iconst (v := 0) C dX11_drag_16 (by decide) ?_
      refine zr_istore (lo2 := [(5, .int (0 : Int32)), (4, .int (0 : Int32)), (0, .ref (zB E + a0)), (1, .int x54), (2, .int x55), (3, .int x56)]) C dX11_drag_17 (by decide) rfl ?_
      have L19 : ∀ (fu : Nat) (x : zH × Int32 × Int32), zloop (fun kc x => F_X11_drag_B19 n kc7 kc x.1 a0 x54 x55 x56 x.2.1 x.2.2) fu x = some res → zW p l e (headSpec (zw yX11_drag cX11_drag 6 (some .int)) ({ frames := 1, cells := 0, slots := 0, locals := 20 } : Room)).room s m args below meth c E 6 (MQ below (zQc E res.2 (some (.int res.1))) args s 0 0 (zfr E)) 0 0 19 [(0, .ref (zB E + a0)), (1, .int x54), (2, .int x55), (3, .int x56), (4, .int x.2.1), (5, .int x.2.2)] [] x.1 := by
        refine z_loop _ ?_
        intro kc19 hk19 x hf
        obtain ⟨h70, x68, x69⟩ := x
        dsimp only at hf ⊢
        unfold F_X11_drag_B19 at hf
        refine zr_iload C dX11_drag_19 5 rfl ?_
        refine zr_aload_n C dX11_drag_21 rfl 0 rfl ?_
        refine zr_gi C hf kg_X11_246 (fun _ _ _ => rfl) dX11_drag_22 (fun x71 hf => ?_)
        refine zr_icmp_ge (tgt := 65) C hf dX11_drag_25 (by decide) (fun hf => ?_) (fun hf => ?_)
        · refine zr_iload C dX11_drag_65 4 rfl ?_
          refine zr_iload_n C dX11_drag_67 rfl 2 rfl ?_
          refine zr_icmp_ge (tgt := 75) C hf dX11_drag_68 (by decide) (fun hf => ?_) (fun hf => ?_)
          · refine zr_iload_n C dX11_drag_75 rfl 1 rfl ?_
            refine zsub [0, 2, 3, 4] rfl ?_
            exact J76 h70 x55 x56 x68 x54 hf
          · refine zr_iload_n C dX11_drag_71 rfl 3 rfl ?_
            refine zr_goto (tgt := 76) C dX11_drag_72 (by decide) ?_
            refine zsub [0, 2, 3, 4] rfl ?_
            exact J76 h70 x55 x56 x68 x56 hf
        · refine zr_iload C dX11_drag_28 4 rfl ?_
          refine zr_aload_n C dX11_drag_30 rfl 0 rfl ?_
          refine zr_gr C hf kg_X11_55 (fun _ _ _ => rfl) dX11_drag_31 (fun w72 hf => ?_)
          refine zr_iload C dX11_drag_34 5 rfl ?_
          refine zr_iaload C hf dX11_drag_36 (fun x73 hf => ?_)
          refine zr_bipush (v := 10) C dX11_drag_37 (by decide) ?_
          refine zr_iload_n C dX11_drag_39 rfl 3 rfl ?_
          refine zr_isub C hf dX11_drag_40 (fun x74 hf => ?_)
          refine zr_imul C hf dX11_drag_41 (fun x75 hf => ?_)
          refine zr_bipush (v := 10) C dX11_drag_42 (by decide) ?_
          refine zr_idiv C hf dX11_drag_44 (fun x76 hf => ?_)
          refine zr_aload_n C dX11_drag_45 rfl 0 rfl ?_
          refine zr_gr C hf kg_X11_58 (fun _ _ _ => rfl) dX11_drag_46 (fun w77 hf => ?_)
          refine zr_iload C dX11_drag_49 5 rfl ?_
          refine zr_iaload C hf dX11_drag_51 (fun x78 hf => ?_)
          refine zr_isub C hf dX11_drag_52 (fun x79 hf => ?_)
          refine zr_callSi (As := [.int x79]) (rest := [.int x68]) C hf (fun x hx => c_X11_size l E n h70 x79 x hx) ks_X11_232 rfl rfl (Nat.le_of_ble_eq_true rfl) ⟨rfl, rfl⟩ ⟨Nat.le_of_ble_eq_true rfl, Nat.le_of_ble_eq_true rfl⟩ ⟨Nat.le_of_ble_eq_true rfl, Nat.le_of_ble_eq_true rfl⟩ dX11_drag_53 (fun x81 h80 hf => ?_)
          refine zr_iadd C hf dX11_drag_56 (fun x82 hf => ?_)
          refine zr_istore (lo2 := [(4, .int x82), (0, .ref (zB E + a0)), (1, .int x54), (2, .int x55), (3, .int x56), (5, .int x69)]) C dX11_drag_57 (by decide) rfl ?_
          refine zr_iinc (v0 := 1) (k := 5) (f := fun v => [(5, .int v), (4, .int x82), (0, .ref (zB E + a0)), (1, .int x54), (2, .int x55), (3, .int x56)]) C hf (by decide) dX11_drag_59 rfl (by decide) (fun v => rfl) (fun x83 hf => ?_)
          refine zr_goto (tgt := 19) C dX11_drag_62 (by decide) ?_
          refine zsub [2, 3, 4, 5, 1, 0] rfl ?_
          exact hk19 (h80, x82, x83) hf
      refine zsub [2, 3, 4, 5, 1, 0] rfl ?_
      exact L19 n (h57, (0 : Int32), (0 : Int32)) hf
  refine zsub [3, 2, 1, 0] rfl ?_
  exact L7 n (h, (0 : Int32), (268435456 : Int32), (0 : Int32)) hf
theorem dX11_layBends_0 : decode cX11_layBends 0 = .ok (.iconst 1, 1) := by decide +kernel
theorem dX11_layBends_1 : decode cX11_layBends 1 = .ok (.istore_n 1, 1) := by decide +kernel
theorem dX11_layBends_2 : decode cX11_layBends 2 = .ok (.iload_n 1, 1) := by decide +kernel
theorem dX11_layBends_3 : decode cX11_layBends 3 = .ok (.aload_n 0, 1) := by decide +kernel
theorem dX11_layBends_4 : decode cX11_layBends 4 = .ok (.getfield 158, 3) := by decide +kernel
theorem dX11_layBends_7 : decode cX11_layBends 7 = .ok (.iconst 1, 1) := by decide +kernel
theorem dX11_layBends_8 : decode cX11_layBends 8 = .ok (.isub, 1) := by decide +kernel
theorem dX11_layBends_9 : decode cX11_layBends 9 = .ok (.if_icmp .ge 41, 3) := by decide +kernel
theorem dX11_layBends_12 : decode cX11_layBends 12 = .ok (.aload_n 0, 1) := by decide +kernel
theorem dX11_layBends_13 : decode cX11_layBends 13 = .ok (.getfield 102, 3) := by decide +kernel
theorem dX11_layBends_16 : decode cX11_layBends 16 = .ok (.iload_n 1, 1) := by decide +kernel
theorem dX11_layBends_17 : decode cX11_layBends 17 = .ok (.iconst 2, 1) := by decide +kernel
theorem dX11_layBends_18 : decode cX11_layBends 18 = .ok (.aload_n 0, 1) := by decide +kernel
theorem dX11_layBends_19 : decode cX11_layBends 19 = .ok (.getfield 99, 3) := by decide +kernel
theorem dX11_layBends_22 : decode cX11_layBends 22 = .ok (.iload_n 1, 1) := by decide +kernel
theorem dX11_layBends_23 : decode cX11_layBends 23 = .ok (.iaload, 1) := by decide +kernel
theorem dX11_layBends_24 : decode cX11_layBends 24 = .ok (.imul, 1) := by decide +kernel
theorem dX11_layBends_25 : decode cX11_layBends 25 = .ok (.aload_n 0, 1) := by decide +kernel
theorem dX11_layBends_26 : decode cX11_layBends 26 = .ok (.getfield 99, 3) := by decide +kernel
theorem dX11_layBends_29 : decode cX11_layBends 29 = .ok (.iload_n 1, 1) := by decide +kernel
theorem dX11_layBends_30 : decode cX11_layBends 30 = .ok (.iconst 1, 1) := by decide +kernel
theorem dX11_layBends_31 : decode cX11_layBends 31 = .ok (.isub, 1) := by decide +kernel
theorem dX11_layBends_32 : decode cX11_layBends 32 = .ok (.iaload, 1) := by decide +kernel
theorem dX11_layBends_33 : decode cX11_layBends 33 = .ok (.isub, 1) := by decide +kernel
theorem dX11_layBends_34 : decode cX11_layBends 34 = .ok (.aload_n 0, 1) := by decide +kernel
theorem dX11_layBends_35 : decode cX11_layBends 35 = .ok (.getfield 99, 3) := by decide +kernel
theorem dX11_layBends_38 : decode cX11_layBends 38 = .ok (.iload_n 1, 1) := by decide +kernel
theorem dX11_layBends_39 : decode cX11_layBends 39 = .ok (.iconst 1, 1) := by decide +kernel
theorem dX11_layBends_40 : decode cX11_layBends 40 = .ok (.iadd, 1) := by decide +kernel
theorem dX11_layBends_41 : decode cX11_layBends 41 = .ok (.iaload, 1) := by decide +kernel
theorem dX11_layBends_42 : decode cX11_layBends 42 = .ok (.isub, 1) := by decide +kernel
theorem dX11_layBends_43 : decode cX11_layBends 43 = .ok (.iastore, 1) := by decide +kernel
theorem dX11_layBends_44 : decode cX11_layBends 44 = .ok (.iinc 1 1, 3) := by decide +kernel
theorem dX11_layBends_47 : decode cX11_layBends 47 = .ok (.goto (-45), 3) := by decide +kernel
theorem dX11_layBends_50 : decode cX11_layBends 50 = .ok (.return_, 1) := by decide +kernel
set_option maxHeartbeats 4000000 in
set_option maxRecDepth 100000 in
theorem c_X11_layBends (l : Launch) (E : zE) (n : Nat) (h : zH) (a0 : Nat) (res : Unit × zH) (hf : F_X11_layBends n h a0 = some res) : Met l yX11_layBends (zw yX11_layBends cX11_layBends 2 none) ({ frames := 0, cells := 0, slots := 0, locals := 0 } : Room) (zPc E h [.ref (zB E + a0)]) (zQc E res.2 none) 0 0 (zfr E) := by
  refine zmet (lo := [(0, .ref (zB E + a0))]) (by decide +kernel) (Nat.le_of_ble_eq_true rfl) rfl ?_
  intro p e s m args below meth c C hr hin
  unfold F_X11_layBends at hf
  refine zr_iconst (v := 1) C dX11_layBends_0 (by decide) ?_
  refine zr_istore_n (lo2 := [(1, .int (1 : Int32)), (0, .ref (zB E + a0))]) C dX11_layBends_1 rfl (by decide) rfl ?_
  have L2 : ∀ (fu : Nat) (x : zH × Int32), zloop (fun kc x => F_X11_layBends_B2 n kc x.1 a0 x.2) fu x = some res → zW p l e (headSpec (zw yX11_layBends cX11_layBends 2 none) ({ frames := 0, cells := 0, slots := 0, locals := 0 } : Room)).room s m args below meth c E 2 (MQ below (zQc E res.2 none) args s 0 0 (zfr E)) 0 0 2 [(0, .ref (zB E + a0)), (1, .int x.2)] [] x.1 := by
    refine z_loop _ ?_
    intro kc2 hk2 x hf
    obtain ⟨h21, x20⟩ := x
    dsimp only at hf ⊢
    unfold F_X11_layBends_B2 at hf
    refine zr_iload_n C dX11_layBends_2 rfl 1 rfl ?_
    refine zr_aload_n C dX11_layBends_3 rfl 0 rfl ?_
    refine zr_gi C hf kg_X11_158 (fun _ _ _ => rfl) dX11_layBends_4 (fun x22 hf => ?_)
    refine zr_iconst (v := 1) C dX11_layBends_7 (by decide) ?_
    refine zr_isub C hf dX11_layBends_8 (fun x23 hf => ?_)
    refine zr_icmp_ge (tgt := 50) C hf dX11_layBends_9 (by decide) (fun hf => ?_) (fun hf => ?_)
    · exact zr_return C hf hr (Nat.le_of_ble_eq_true rfl) (Nat.le_of_ble_eq_true rfl) dX11_layBends_50
    · refine zr_aload_n C dX11_layBends_12 rfl 0 rfl ?_
      refine zr_gr C hf kg_X11_102 (fun _ _ _ => rfl) dX11_layBends_13 (fun w24 hf => ?_)
      refine zr_iload_n C dX11_layBends_16 rfl 1 rfl ?_
      refine zr_iconst (v := 2) C dX11_layBends_17 (by decide) ?_
      refine zr_aload_n C dX11_layBends_18 rfl 0 rfl ?_
      refine zr_gr C hf kg_X11_99 (fun _ _ _ => rfl) dX11_layBends_19 (fun w25 hf => ?_)
      refine zr_iload_n C dX11_layBends_22 rfl 1 rfl ?_
      refine zr_iaload C hf dX11_layBends_23 (fun x26 hf => ?_)
      refine zr_imul C hf dX11_layBends_24 (fun x27 hf => ?_)
      refine zr_aload_n C dX11_layBends_25 rfl 0 rfl ?_
      refine zr_gr C hf kg_X11_99 (fun _ _ _ => rfl) dX11_layBends_26 (fun w28 hf => ?_)
      refine zr_iload_n C dX11_layBends_29 rfl 1 rfl ?_
      refine zr_iconst (v := 1) C dX11_layBends_30 (by decide) ?_
      refine zr_isub C hf dX11_layBends_31 (fun x29 hf => ?_)
      refine zr_iaload C hf dX11_layBends_32 (fun x30 hf => ?_)
      refine zr_isub C hf dX11_layBends_33 (fun x31 hf => ?_)
      refine zr_aload_n C dX11_layBends_34 rfl 0 rfl ?_
      refine zr_gr C hf kg_X11_99 (fun _ _ _ => rfl) dX11_layBends_35 (fun w32 hf => ?_)
      refine zr_iload_n C dX11_layBends_38 rfl 1 rfl ?_
      refine zr_iconst (v := 1) C dX11_layBends_39 (by decide) ?_
      refine zr_iadd C hf dX11_layBends_40 (fun x33 hf => ?_)
      refine zr_iaload C hf dX11_layBends_41 (fun x34 hf => ?_)
      refine zr_isub C hf dX11_layBends_42 (fun x35 hf => ?_)
      refine zr_iastore C hf dX11_layBends_43 (fun h36 hf => ?_)
      refine zr_iinc (v0 := 1) (k := 1) (f := fun v => [(1, .int v), (0, .ref (zB E + a0))]) C hf (by decide) dX11_layBends_44 rfl (by decide) (fun v => rfl) (fun x37 hf => ?_)
      refine zr_goto (tgt := 2) C dX11_layBends_47 (by decide) ?_
      refine zsub [1, 0] rfl ?_
      exact hk2 (h36, x37) hf
  refine zsub [1, 0] rfl ?_
  exact L2 n (h, (1 : Int32)) hf
theorem dX11_isFree_0 : decode cX11_isFree 0 = .ok (.aload_n 0, 1) := by decide +kernel
theorem dX11_isFree_1 : decode cX11_isFree 1 = .ok (.getfield 64, 3) := by decide +kernel
theorem dX11_isFree_4 : decode cX11_isFree 4 = .ok (.iload_n 1, 1) := by decide +kernel
theorem dX11_isFree_5 : decode cX11_isFree 5 = .ok (.baload, 1) := by decide +kernel
theorem dX11_isFree_6 : decode cX11_isFree 6 = .ok (.ifCond .ne 15, 3) := by decide +kernel
theorem dX11_isFree_9 : decode cX11_isFree 9 = .ok (.iload_n 1, 1) := by decide +kernel
theorem dX11_isFree_10 : decode cX11_isFree 10 = .ok (.aload_n 0, 1) := by decide +kernel
theorem dX11_isFree_11 : decode cX11_isFree 11 = .ok (.getfield 249, 3) := by decide +kernel
theorem dX11_isFree_14 : decode cX11_isFree 14 = .ok (.if_icmp .eq 7, 3) := by decide +kernel
theorem dX11_isFree_17 : decode cX11_isFree 17 = .ok (.iconst 1, 1) := by decide +kernel
theorem dX11_isFree_18 : decode cX11_isFree 18 = .ok (.goto 4, 3) := by decide +kernel
theorem dX11_isFree_21 : decode cX11_isFree 21 = .ok (.iconst 0, 1) := by decide +kernel
theorem dX11_isFree_22 : decode cX11_isFree 22 = .ok (.ireturn, 1) := by decide +kernel
set_option maxHeartbeats 4000000 in
set_option maxRecDepth 100000 in
theorem c_X11_isFree (l : Launch) (E : zE) (n : Nat) (h : zH) (a0 : Nat) (p0 : Int32) (res : Int32 × zH) (hf : F_X11_isFree n h a0 p0 = some res) : Met l yX11_isFree (zw yX11_isFree cX11_isFree 2 (some .boolean)) ({ frames := 0, cells := 0, slots := 0, locals := 0 } : Room) (zPc E h [.ref (zB E + a0), .int p0]) (zQc E res.2 (some (.int res.1))) 0 0 (zfr E) := by
  refine zmet (lo := [(0, .ref (zB E + a0)), (1, .int p0)]) (by decide +kernel) (Nat.le_of_ble_eq_true rfl) rfl ?_
  intro p e s m args below meth c C hr hin
  unfold F_X11_isFree at hf
  have J22 : ∀ (h4 : zH) (x3 : Int32), F_X11_isFree_J22 n h4 x3 = some res → zW p l e (headSpec (zw yX11_isFree cX11_isFree 2 (some .boolean)) ({ frames := 0, cells := 0, slots := 0, locals := 0 } : Room)).room s m args below meth c E 2 (MQ below (zQc E res.2 (some (.int res.1))) args s 0 0 (zfr E)) 0 0 22 [] [.int x3] h4 := by
    intro h4 x3 hf
    unfold F_X11_isFree_J22 at hf
    exact zr_zreturn C hf hr (Nat.le_of_ble_eq_true rfl) (Nat.le_of_ble_eq_true rfl) dX11_isFree_22
  have J21 : ∀ (h6 : zH), F_X11_isFree_J21 n h6 = some res → zW p l e (headSpec (zw yX11_isFree cX11_isFree 2 (some .boolean)) ({ frames := 0, cells := 0, slots := 0, locals := 0 } : Room)).room s m args below meth c E 2 (MQ below (zQc E res.2 (some (.int res.1))) args s 0 0 (zfr E)) 0 0 21 [] [] h6 := by
    intro h6 hf
    unfold F_X11_isFree_J21 at hf
    refine zr_iconst (v := 0) C dX11_isFree_21 (by decide) ?_
    exact J22 h6 (0 : Int32) hf
  refine zr_aload_n C dX11_isFree_0 rfl 0 rfl ?_
  refine zr_gr C hf kg_X11_64 (fun _ _ _ => rfl) dX11_isFree_1 (fun w7 hf => ?_)
  refine zr_iload_n C dX11_isFree_4 rfl 1 rfl ?_
  refine zr_zaload C hf dX11_isFree_5 (fun x8 hf => ?_)
  refine zr_if_ne (tgt := 21) C hf dX11_isFree_6 (by decide) (fun hf => ?_) (fun hf => ?_)
  · refine zsub [] rfl ?_
    exact J21 h hf
  · refine zr_iload_n C dX11_isFree_9 rfl 1 rfl ?_
    refine zr_aload_n C dX11_isFree_10 rfl 0 rfl ?_
    refine zr_gi C hf kg_X11_249 (fun _ _ _ => rfl) dX11_isFree_11 (fun x9 hf => ?_)
    refine zr_icmp_eq (tgt := 21) C hf dX11_isFree_14 (by decide) (fun hf => ?_) (fun hf => ?_)
    · refine zsub [] rfl ?_
      exact J21 h hf
    · refine zr_iconst (v := 1) C dX11_isFree_17 (by decide) ?_
      refine zr_goto (tgt := 22) C dX11_isFree_18 (by decide) ?_
      refine zsub [] rfl ?_
      exact J22 h (1 : Int32) hf
theorem dX11_goYear_0 : decode cX11_goYear 0 = .ok (.aload_n 0, 1) := by decide +kernel
theorem dX11_goYear_1 : decode cX11_goYear 1 = .ok (.invokevirtual 252, 3) := by decide +kernel
theorem dX11_goYear_4 : decode cX11_goYear 4 = .ok (.iconst 1, 1) := by decide +kernel
theorem dX11_goYear_5 : decode cX11_goYear 5 = .ok (.istore 4, 2) := by decide +kernel
theorem dX11_goYear_7 : decode cX11_goYear 7 = .ok (.iload 4, 2) := by decide +kernel
theorem dX11_goYear_9 : decode cX11_goYear 9 = .ok (.aload_n 0, 1) := by decide +kernel
theorem dX11_goYear_10 : decode cX11_goYear 10 = .ok (.getfield 158, 3) := by decide +kernel
theorem dX11_goYear_13 : decode cX11_goYear 13 = .ok (.iconst 1, 1) := by decide +kernel
theorem dX11_goYear_14 : decode cX11_goYear 14 = .ok (.isub, 1) := by decide +kernel
theorem dX11_goYear_15 : decode cX11_goYear 15 = .ok (.if_icmp .ge 70, 3) := by decide +kernel
theorem dX11_goYear_18 : decode cX11_goYear 18 = .ok (.aload_n 0, 1) := by decide +kernel
theorem dX11_goYear_19 : decode cX11_goYear 19 = .ok (.iload 4, 2) := by decide +kernel
theorem dX11_goYear_21 : decode cX11_goYear 21 = .ok (.invokevirtual 255, 3) := by decide +kernel
theorem dX11_goYear_24 : decode cX11_goYear 24 = .ok (.ifCond .eq 55, 3) := by decide +kernel
theorem dX11_goYear_27 : decode cX11_goYear 27 = .ok (.aload_n 0, 1) := by decide +kernel
theorem dX11_goYear_28 : decode cX11_goYear 28 = .ok (.getfield 99, 3) := by decide +kernel
theorem dX11_goYear_31 : decode cX11_goYear 31 = .ok (.iload 4, 2) := by decide +kernel
theorem dX11_goYear_33 : decode cX11_goYear 33 = .ok (.iaload, 1) := by decide +kernel
theorem dX11_goYear_34 : decode cX11_goYear 34 = .ok (.aload_n 0, 1) := by decide +kernel
theorem dX11_goYear_35 : decode cX11_goYear 35 = .ok (.getfield 102, 3) := by decide +kernel
theorem dX11_goYear_38 : decode cX11_goYear 38 = .ok (.iload 4, 2) := by decide +kernel
theorem dX11_goYear_40 : decode cX11_goYear 40 = .ok (.iaload, 1) := by decide +kernel
theorem dX11_goYear_41 : decode cX11_goYear 41 = .ok (.iload_n 2, 1) := by decide +kernel
theorem dX11_goYear_42 : decode cX11_goYear 42 = .ok (.imul, 1) := by decide +kernel
theorem dX11_goYear_43 : decode cX11_goYear 43 = .ok (.bipush 20, 2) := by decide +kernel
theorem dX11_goYear_45 : decode cX11_goYear 45 = .ok (.idiv, 1) := by decide +kernel
theorem dX11_goYear_46 : decode cX11_goYear 46 = .ok (.iadd, 1) := by decide +kernel
theorem dX11_goYear_47 : decode cX11_goYear 47 = .ok (.istore 5, 2) := by decide +kernel
theorem dX11_goYear_49 : decode cX11_goYear 49 = .ok (.aload_n 0, 1) := by decide +kernel
theorem dX11_goYear_50 : decode cX11_goYear 50 = .ok (.getfield 99, 3) := by decide +kernel
theorem dX11_goYear_53 : decode cX11_goYear 53 = .ok (.iload 4, 2) := by decide +kernel
theorem dX11_goYear_55 : decode cX11_goYear 55 = .ok (.iload 5, 2) := by decide +kernel
theorem dX11_goYear_57 : decode cX11_goYear 57 = .ok (.ifCond .ge 7, 3) := by decide +kernel
theorem dX11_goYear_60 : decode cX11_goYear 60 = .ok (.iconst 0, 1) := by decide +kernel
theorem dX11_goYear_61 : decode cX11_goYear 61 = .ok (.goto 17, 3) := by decide +kernel
theorem dX11_goYear_64 : decode cX11_goYear 64 = .ok (.iload 5, 2) := by decide +kernel
theorem dX11_goYear_66 : decode cX11_goYear 66 = .ok (.bipush 99, 2) := by decide +kernel
theorem dX11_goYear_68 : decode cX11_goYear 68 = .ok (.if_icmp .le 8, 3) := by decide +kernel
theorem dX11_goYear_71 : decode cX11_goYear 71 = .ok (.bipush 99, 2) := by decide +kernel
theorem dX11_goYear_73 : decode cX11_goYear 73 = .ok (.goto 5, 3) := by decide +kernel
theorem dX11_goYear_76 : decode cX11_goYear 76 = .ok (.iload 5, 2) := by decide +kernel
theorem dX11_goYear_78 : decode cX11_goYear 78 = .ok (.iastore, 1) := by decide +kernel
theorem dX11_goYear_79 : decode cX11_goYear 79 = .ok (.iinc 4 1, 3) := by decide +kernel
theorem dX11_goYear_82 : decode cX11_goYear 82 = .ok (.goto (-75), 3) := by decide +kernel
theorem dX11_goYear_85 : decode cX11_goYear 85 = .ok (.iconst 1, 1) := by decide +kernel
theorem dX11_goYear_86 : decode cX11_goYear 86 = .ok (.istore 4, 2) := by decide +kernel
theorem dX11_goYear_88 : decode cX11_goYear 88 = .ok (.iload 4, 2) := by decide +kernel
theorem dX11_goYear_90 : decode cX11_goYear 90 = .ok (.aload_n 0, 1) := by decide +kernel
theorem dX11_goYear_91 : decode cX11_goYear 91 = .ok (.getfield 158, 3) := by decide +kernel
theorem dX11_goYear_94 : decode cX11_goYear 94 = .ok (.iconst 1, 1) := by decide +kernel
theorem dX11_goYear_95 : decode cX11_goYear 95 = .ok (.isub, 1) := by decide +kernel
theorem dX11_goYear_96 : decode cX11_goYear 96 = .ok (.if_icmp .ge 152, 3) := by decide +kernel
theorem dX11_goYear_99 : decode cX11_goYear 99 = .ok (.aload_n 0, 1) := by decide +kernel
theorem dX11_goYear_100 : decode cX11_goYear 100 = .ok (.getfield 99, 3) := by decide +kernel
theorem dX11_goYear_103 : decode cX11_goYear 103 = .ok (.iload 4, 2) := by decide +kernel
theorem dX11_goYear_105 : decode cX11_goYear 105 = .ok (.iaload, 1) := by decide +kernel
theorem dX11_goYear_106 : decode cX11_goYear 106 = .ok (.aload_n 0, 1) := by decide +kernel
theorem dX11_goYear_107 : decode cX11_goYear 107 = .ok (.getfield 99, 3) := by decide +kernel
theorem dX11_goYear_110 : decode cX11_goYear 110 = .ok (.iload 4, 2) := by decide +kernel
theorem dX11_goYear_112 : decode cX11_goYear 112 = .ok (.iconst 1, 1) := by decide +kernel
theorem dX11_goYear_113 : decode cX11_goYear 113 = .ok (.isub, 1) := by decide +kernel
theorem dX11_goYear_114 : decode cX11_goYear 114 = .ok (.iaload, 1) := by decide +kernel
theorem dX11_goYear_115 : decode cX11_goYear 115 = .ok (.isub, 1) := by decide +kernel
theorem dX11_goYear_116 : decode cX11_goYear 116 = .ok (.istore 5, 2) := by decide +kernel
theorem dX11_goYear_118 : decode cX11_goYear 118 = .ok (.aload_n 0, 1) := by decide +kernel
theorem dX11_goYear_119 : decode cX11_goYear 119 = .ok (.getfield 99, 3) := by decide +kernel
theorem dX11_goYear_122 : decode cX11_goYear 122 = .ok (.iload 4, 2) := by decide +kernel
theorem dX11_goYear_124 : decode cX11_goYear 124 = .ok (.iaload, 1) := by decide +kernel
theorem dX11_goYear_125 : decode cX11_goYear 125 = .ok (.aload_n 0, 1) := by decide +kernel
theorem dX11_goYear_126 : decode cX11_goYear 126 = .ok (.getfield 99, 3) := by decide +kernel
theorem dX11_goYear_129 : decode cX11_goYear 129 = .ok (.iload 4, 2) := by decide +kernel
theorem dX11_goYear_131 : decode cX11_goYear 131 = .ok (.iconst 1, 1) := by decide +kernel
theorem dX11_goYear_132 : decode cX11_goYear 132 = .ok (.iadd, 1) := by decide +kernel
theorem dX11_goYear_133 : decode cX11_goYear 133 = .ok (.iaload, 1) := by decide +kernel
theorem dX11_goYear_134 : decode cX11_goYear 134 = .ok (.isub, 1) := by decide +kernel
theorem dX11_goYear_135 : decode cX11_goYear 135 = .ok (.istore 6, 2) := by decide +kernel
theorem dX11_goYear_137 : decode cX11_goYear 137 = .ok (.iload 5, 2) := by decide +kernel
theorem dX11_goYear_139 : decode cX11_goYear 139 = .ok (.iload_n 3, 1) := by decide +kernel
theorem dX11_goYear_140 : decode cX11_goYear 140 = .ok (.if_icmp .le 9, 3) := by decide +kernel
theorem dX11_goYear_143 : decode cX11_goYear 143 = .ok (.iload 6, 2) := by decide +kernel
theorem dX11_goYear_145 : decode cX11_goYear 145 = .ok (.iload_n 3, 1) := by decide +kernel
theorem dX11_goYear_146 : decode cX11_goYear 146 = .ok (.if_icmp .gt 17, 3) := by decide +kernel
theorem dX11_goYear_149 : decode cX11_goYear 149 = .ok (.iload 5, 2) := by decide +kernel
theorem dX11_goYear_151 : decode cX11_goYear 151 = .ok (.iload_n 3, 1) := by decide +kernel
theorem dX11_goYear_152 : decode cX11_goYear 152 = .ok (.ineg, 1) := by decide +kernel
theorem dX11_goYear_153 : decode cX11_goYear 153 = .ok (.if_icmp .ge 14, 3) := by decide +kernel
theorem dX11_goYear_156 : decode cX11_goYear 156 = .ok (.iload 6, 2) := by decide +kernel
theorem dX11_goYear_158 : decode cX11_goYear 158 = .ok (.iload_n 3, 1) := by decide +kernel
theorem dX11_goYear_159 : decode cX11_goYear 159 = .ok (.ineg, 1) := by decide +kernel
theorem dX11_goYear_160 : decode cX11_goYear 160 = .ok (.if_icmp .ge 7, 3) := by decide +kernel
theorem dX11_goYear_163 : decode cX11_goYear 163 = .ok (.iconst 1, 1) := by decide +kernel
theorem dX11_goYear_164 : decode cX11_goYear 164 = .ok (.goto 4, 3) := by decide +kernel
theorem dX11_goYear_167 : decode cX11_goYear 167 = .ok (.iconst 0, 1) := by decide +kernel
theorem dX11_goYear_168 : decode cX11_goYear 168 = .ok (.istore 7, 2) := by decide +kernel
theorem dX11_goYear_170 : decode cX11_goYear 170 = .ok (.aload_n 0, 1) := by decide +kernel
theorem dX11_goYear_171 : decode cX11_goYear 171 = .ok (.iload 4, 2) := by decide +kernel
theorem dX11_goYear_173 : decode cX11_goYear 173 = .ok (.invokevirtual 255, 3) := by decide +kernel
theorem dX11_goYear_176 : decode cX11_goYear 176 = .ok (.ifCond .eq 66, 3) := by decide +kernel
theorem dX11_goYear_179 : decode cX11_goYear 179 = .ok (.iload 7, 2) := by decide +kernel
theorem dX11_goYear_181 : decode cX11_goYear 181 = .ok (.ifCond .eq 61, 3) := by decide +kernel
theorem dX11_goYear_184 : decode cX11_goYear 184 = .ok (.aload_n 0, 1) := by decide +kernel
theorem dX11_goYear_185 : decode cX11_goYear 185 = .ok (.getfield 99, 3) := by decide +kernel
theorem dX11_goYear_188 : decode cX11_goYear 188 = .ok (.iload 4, 2) := by decide +kernel
theorem dX11_goYear_190 : decode cX11_goYear 190 = .ok (.aload_n 0, 1) := by decide +kernel
theorem dX11_goYear_191 : decode cX11_goYear 191 = .ok (.getfield 99, 3) := by decide +kernel
theorem dX11_goYear_194 : decode cX11_goYear 194 = .ok (.iload 4, 2) := by decide +kernel
theorem dX11_goYear_196 : decode cX11_goYear 196 = .ok (.iconst 1, 1) := by decide +kernel
theorem dX11_goYear_197 : decode cX11_goYear 197 = .ok (.isub, 1) := by decide +kernel
theorem dX11_goYear_198 : decode cX11_goYear 198 = .ok (.iaload, 1) := by decide +kernel
theorem dX11_goYear_199 : decode cX11_goYear 199 = .ok (.aload_n 0, 1) := by decide +kernel
theorem dX11_goYear_200 : decode cX11_goYear 200 = .ok (.getfield 99, 3) := by decide +kernel
theorem dX11_goYear_203 : decode cX11_goYear 203 = .ok (.iload 4, 2) := by decide +kernel
theorem dX11_goYear_205 : decode cX11_goYear 205 = .ok (.iconst 1, 1) := by decide +kernel
theorem dX11_goYear_206 : decode cX11_goYear 206 = .ok (.iadd, 1) := by decide +kernel
theorem dX11_goYear_207 : decode cX11_goYear 207 = .ok (.iaload, 1) := by decide +kernel
theorem dX11_goYear_208 : decode cX11_goYear 208 = .ok (.iadd, 1) := by decide +kernel
theorem dX11_goYear_209 : decode cX11_goYear 209 = .ok (.iconst 2, 1) := by decide +kernel
theorem dX11_goYear_210 : decode cX11_goYear 210 = .ok (.idiv, 1) := by decide +kernel
theorem dX11_goYear_211 : decode cX11_goYear 211 = .ok (.iastore, 1) := by decide +kernel
theorem dX11_goYear_212 : decode cX11_goYear 212 = .ok (.aload_n 0, 1) := by decide +kernel
theorem dX11_goYear_213 : decode cX11_goYear 213 = .ok (.dup, 1) := by decide +kernel
theorem dX11_goYear_214 : decode cX11_goYear 214 = .ok (.getfield 258, 3) := by decide +kernel
theorem dX11_goYear_217 : decode cX11_goYear 217 = .ok (.iconst 1, 1) := by decide +kernel
theorem dX11_goYear_218 : decode cX11_goYear 218 = .ok (.iadd, 1) := by decide +kernel
theorem dX11_goYear_219 : decode cX11_goYear 219 = .ok (.putfield 258, 3) := by decide +kernel
theorem dX11_goYear_222 : decode cX11_goYear 222 = .ok (.aload_n 0, 1) := by decide +kernel
theorem dX11_goYear_223 : decode cX11_goYear 223 = .ok (.aload_n 0, 1) := by decide +kernel
theorem dX11_goYear_224 : decode cX11_goYear 224 = .ok (.getfield 261, 3) := by decide +kernel
theorem dX11_goYear_227 : decode cX11_goYear 227 = .ok (.iconst (-1), 1) := by decide +kernel
theorem dX11_goYear_228 : decode cX11_goYear 228 = .ok (.if_icmp .ne 7, 3) := by decide +kernel
theorem dX11_goYear_231 : decode cX11_goYear 231 = .ok (.iload_n 1, 1) := by decide +kernel
theorem dX11_goYear_232 : decode cX11_goYear 232 = .ok (.goto 7, 3) := by decide +kernel
theorem dX11_goYear_235 : decode cX11_goYear 235 = .ok (.aload_n 0, 1) := by decide +kernel
theorem dX11_goYear_236 : decode cX11_goYear 236 = .ok (.getfield 261, 3) := by decide +kernel
theorem dX11_goYear_239 : decode cX11_goYear 239 = .ok (.putfield 261, 3) := by decide +kernel
theorem dX11_goYear_242 : decode cX11_goYear 242 = .ok (.iinc 4 1, 3) := by decide +kernel
theorem dX11_goYear_245 : decode cX11_goYear 245 = .ok (.goto (-157), 3) := by decide +kernel
theorem dX11_goYear_248 : decode cX11_goYear 248 = .ok (.return_, 1) := by decide +kernel
set_option maxHeartbeats 4000000 in
set_option maxRecDepth 100000 in
theorem c_X11_goYear (l : Launch) (E : zE) (n : Nat) (h : zH) (a0 : Nat) (p0 : Int32) (p1 : Int32) (p2 : Int32) (res : Unit × zH) (hf : F_X11_goYear n h a0 p0 p1 p2 = some res) : Met l yX11_goYear (zw yX11_goYear cX11_goYear 8 none) ({ frames := 1, cells := 0, slots := 0, locals := 21 } : Room) (zPc E h [.ref (zB E + a0), .int p0, .int p1, .int p2]) (zQc E res.2 none) 0 0 (zfr E) := by
  refine zmet (lo := [(0, .ref (zB E + a0)), (1, .int p0), (2, .int p1), (3, .int p2)]) (by decide +kernel) (Nat.le_of_ble_eq_true rfl) rfl ?_
  intro p e s m args below meth c C hr hin
  unfold F_X11_goYear at hf
  refine zr_aload_n C dX11_goYear_0 rfl 0 rfl ?_
  refine zr_callVv (As := []) (rest := []) C hf (fun x hx => c_X11_layBends l E n h a0 x hx) kv_X11_252 rfl rfl (Nat.le_of_ble_eq_true rfl) ⟨rfl, rfl⟩ ⟨Nat.le_of_ble_eq_true rfl, Nat.le_of_ble_eq_true rfl⟩ ⟨Nat.le_of_ble_eq_true rfl, Nat.le_of_ble_eq_true rfl⟩ dX11_goYear_1 (fun _ h1 hf => ?_)
  refine zr_iconst (v := 1) C dX11_goYear_4 (by decide) ?_
  refine zr_istore (lo2 := [(4, .int (1 : Int32)), (0, .ref (zB E + a0)), (1, .int p0), (2, .int p1), (3, .int p2)]) C dX11_goYear_5 (by decide) rfl ?_
  have L7 : ∀ (fu : Nat) (x : zH × Int32), zloop (fun kc x => F_X11_goYear_B7 n kc x.1 a0 p0 p1 p2 x.2) fu x = some res → zW p l e (headSpec (zw yX11_goYear cX11_goYear 8 none) ({ frames := 1, cells := 0, slots := 0, locals := 21 } : Room)).room s m args below meth c E 8 (MQ below (zQc E res.2 none) args s 0 0 (zfr E)) 0 0 7 [(0, .ref (zB E + a0)), (1, .int p0), (2, .int p1), (3, .int p2), (4, .int x.2)] [] x.1 := by
    refine z_loop _ ?_
    intro kc7 hk7 x hf
    obtain ⟨h167, x166⟩ := x
    dsimp only at hf ⊢
    unfold F_X11_goYear_B7 at hf
    have J79 : ∀ (h169 : zH) (x168 : Int32), F_X11_goYear_J79 n kc7 h169 a0 p0 p1 p2 x168 = some res → zW p l e (headSpec (zw yX11_goYear cX11_goYear 8 none) ({ frames := 1, cells := 0, slots := 0, locals := 21 } : Room)).room s m args below meth c E 8 (MQ below (zQc E res.2 none) args s 0 0 (zfr E)) 0 0 79 [(0, .ref (zB E + a0)), (1, .int p0), (2, .int p1), (3, .int p2), (4, .int x168)] [] h169 := by
      intro h169 x168 hf
      unfold F_X11_goYear_J79 at hf
      refine zr_iinc (v0 := 1) (k := 4) (f := fun v => [(4, .int v), (0, .ref (zB E + a0)), (1, .int p0), (2, .int p1), (3, .int p2)]) C hf (by decide) dX11_goYear_79 rfl (by decide) (fun v => rfl) (fun x170 hf => ?_)
      refine zr_goto (tgt := 7) C dX11_goYear_82 (by decide) ?_
      refine zsub [1, 2, 3, 4, 0] rfl ?_
      exact hk7 (h169, x170) hf
    have J78 : ∀ (h175 : zH) (x171 : Int32) (w172 : Nat) (x173 : Int32) (x174 : Int32), F_X11_goYear_J78 n kc7 h175 a0 p0 p1 p2 x171 w172 x173 x174 = some res → zW p l e (headSpec (zw yX11_goYear cX11_goYear 8 none) ({ frames := 1, cells := 0, slots := 0, locals := 21 } : Room)).room s m args below meth c E 8 (MQ below (zQc E res.2 none) args s 0 0 (zfr E)) 0 0 78 [(0, .ref (zB E + a0)), (1, .int p0), (2, .int p1), (3, .int p2), (4, .int x171)] [.int x174, .int x173, .ref (zB E + w172)] h175 := by
      intro h175 x171 w172 x173 x174 hf
      unfold F_X11_goYear_J78 at hf
      refine zr_iastore C hf dX11_goYear_78 (fun h176 hf => ?_)
      exact J79 h176 x171 hf
    refine zr_iload C dX11_goYear_7 4 rfl ?_
    refine zr_aload_n C dX11_goYear_9 rfl 0 rfl ?_
    refine zr_gi C hf kg_X11_158 (fun _ _ _ => rfl) dX11_goYear_10 (fun x177 hf => ?_)
    refine zr_iconst (v := 1) C dX11_goYear_13 (by decide) ?_
    refine zr_isub C hf dX11_goYear_14 (fun x178 hf => ?_)
    refine zr_icmp_ge (tgt := 85) C hf dX11_goYear_15 (by decide) (fun hf => ?_) (fun hf => ?_)
    · refine zr_iconst (v := 1) C dX11_goYear_85 (by decide) ?_
      refine zr_istore (lo2 := [(4, .int (1 : Int32)), (0, .ref (zB E + a0)), (1, .int p0), (2, .int p1), (3, .int p2)]) C dX11_goYear_86 (by decide) rfl ?_
      have L88 : ∀ (fu : Nat) (x : zH × Int32), zloop (fun kc x => F_X11_goYear_B88 n kc x.1 a0 p0 p2 x.2) fu x = some res → zW p l e (headSpec (zw yX11_goYear cX11_goYear 8 none) ({ frames := 1, cells := 0, slots := 0, locals := 21 } : Room)).room s m args below meth c E 8 (MQ below (zQc E res.2 none) args s 0 0 (zfr E)) 0 0 88 [(0, .ref (zB E + a0)), (1, .int p0), (3, .int p2), (4, .int x.2)] [] x.1 := by
        refine z_loop _ ?_
        intro kc88 hk88 x hf
        obtain ⟨h180, x179⟩ := x
        dsimp only at hf ⊢
        unfold F_X11_goYear_B88 at hf
        have J242 : ∀ (h182 : zH) (x181 : Int32), F_X11_goYear_J242 n kc88 h182 a0 p0 p2 x181 = some res → zW p l e (headSpec (zw yX11_goYear cX11_goYear 8 none) ({ frames := 1, cells := 0, slots := 0, locals := 21 } : Room)).room s m args below meth c E 8 (MQ below (zQc E res.2 none) args s 0 0 (zfr E)) 0 0 242 [(0, .ref (zB E + a0)), (1, .int p0), (3, .int p2), (4, .int x181)] [] h182 := by
          intro h182 x181 hf
          unfold F_X11_goYear_J242 at hf
          refine zr_iinc (v0 := 1) (k := 3) (f := fun v => [(4, .int v), (0, .ref (zB E + a0)), (1, .int p0), (3, .int p2)]) C hf (by decide) dX11_goYear_242 rfl (by decide) (fun v => rfl) (fun x183 hf => ?_)
          refine zr_goto (tgt := 88) C dX11_goYear_245 (by decide) ?_
          refine zsub [1, 2, 3, 0] rfl ?_
          exact hk88 (h182, x183) hf
        have J239 : ∀ (h187 : zH) (x184 : Int32) (w185 : Nat) (x186 : Int32), F_X11_goYear_J239 n kc88 h187 a0 p0 p2 x184 w185 x186 = some res → zW p l e (headSpec (zw yX11_goYear cX11_goYear 8 none) ({ frames := 1, cells := 0, slots := 0, locals := 21 } : Room)).room s m args below meth c E 8 (MQ below (zQc E res.2 none) args s 0 0 (zfr E)) 0 0 239 [(0, .ref (zB E + a0)), (1, .int p0), (3, .int p2), (4, .int x184)] [.int x186, .ref (zB E + w185)] h187 := by
          intro h187 x184 w185 x186 hf
          unfold F_X11_goYear_J239 at hf
          refine zr_si C hf kp_X11_261 (fun _ _ _ => rfl) rfl dX11_goYear_239 (fun h188 hf => ?_)
          exact J242 h188 x184 hf
        have J168 : ∀ (h191 : zH) (x189 : Int32) (x190 : Int32), F_X11_goYear_J168 n kc88 h191 a0 p0 p2 x189 x190 = some res → zW p l e (headSpec (zw yX11_goYear cX11_goYear 8 none) ({ frames := 1, cells := 0, slots := 0, locals := 21 } : Room)).room s m args below meth c E 8 (MQ below (zQc E res.2 none) args s 0 0 (zfr E)) 0 0 168 [(0, .ref (zB E + a0)), (1, .int p0), (3, .int p2), (4, .int x189)] [.int x190] h191 := by
          intro h191 x189 x190 hf
          unfold F_X11_goYear_J168 at hf
          refine zr_istore (lo2 := [(7, .int x190), (0, .ref (zB E + a0)), (1, .int p0), (3, .int p2), (4, .int x189)]) C dX11_goYear_168 (by decide) rfl ?_
          refine zr_aload_n C dX11_goYear_170 rfl 1 rfl ?_
          refine zr_iload C dX11_goYear_171 4 rfl ?_
          refine zr_callVi (As := [.int x189]) (rest := []) C hf (fun x hx => c_X11_isFree l E n h191 a0 x189 x hx) kv_X11_255 rfl rfl (Nat.le_of_ble_eq_true rfl) ⟨rfl, rfl⟩ ⟨Nat.le_of_ble_eq_true rfl, Nat.le_of_ble_eq_true rfl⟩ ⟨Nat.le_of_ble_eq_true rfl, Nat.le_of_ble_eq_true rfl⟩ dX11_goYear_173 (fun x193 h192 hf => ?_)
          refine zr_if_eq (tgt := 242) C hf dX11_goYear_176 (by decide) (fun hf => ?_) (fun hf => ?_)
          · refine zsub [1, 2, 3, 4] rfl ?_
            exact J242 h192 x189 hf
          · refine zr_iload C dX11_goYear_179 0 rfl ?_
            refine zr_if_eq (tgt := 242) C hf dX11_goYear_181 (by decide) (fun hf => ?_) (fun hf => ?_)
            · refine zsub [1, 2, 3, 4] rfl ?_
              exact J242 h192 x189 hf
            · refine zr_aload_n C dX11_goYear_184 rfl 1 rfl ?_
              refine zr_gr C hf kg_X11_99 (fun _ _ _ => rfl) dX11_goYear_185 (fun w194 hf => ?_)
              refine zr_iload C dX11_goYear_188 4 rfl ?_
              refine zr_aload_n C dX11_goYear_190 rfl 1 rfl ?_
              refine zr_gr C hf kg_X11_99 (fun _ _ _ => rfl) dX11_goYear_191 (fun w195 hf => ?_)
              refine zr_iload C dX11_goYear_194 4 rfl ?_
              refine zr_iconst (v := 1) C dX11_goYear_196 (by decide) ?_
              refine zr_isub C hf dX11_goYear_197 (fun x196 hf => ?_)
              refine zr_iaload C hf dX11_goYear_198 (fun x197 hf => ?_)
              refine zr_aload_n C dX11_goYear_199 rfl 1 rfl ?_
              refine zr_gr C hf kg_X11_99 (fun _ _ _ => rfl) dX11_goYear_200 (fun w198 hf => ?_)
              refine zr_iload C dX11_goYear_203 4 rfl ?_
              refine zr_iconst (v := 1) C dX11_goYear_205 (by decide) ?_
              refine zr_iadd C hf dX11_goYear_206 (fun x199 hf => ?_)
              refine zr_iaload C hf dX11_goYear_207 (fun x200 hf => ?_)
              refine zr_iadd C hf dX11_goYear_208 (fun x201 hf => ?_)
              refine zr_iconst (v := 2) C dX11_goYear_209 (by decide) ?_
              refine zr_idiv C hf dX11_goYear_210 (fun x202 hf => ?_)
              refine zr_iastore C hf dX11_goYear_211 (fun h203 hf => ?_)
              refine zr_aload_n C dX11_goYear_212 rfl 1 rfl ?_
              refine zr_dup C dX11_goYear_213 rfl ?_
              refine zr_gi C hf kg_X11_258 (fun _ _ _ => rfl) dX11_goYear_214 (fun x204 hf => ?_)
              refine zr_iconst (v := 1) C dX11_goYear_217 (by decide) ?_
              refine zr_iadd C hf dX11_goYear_218 (fun x205 hf => ?_)
              refine zr_si C hf kp_X11_258 (fun _ _ _ => rfl) rfl dX11_goYear_219 (fun h206 hf => ?_)
              refine zr_aload_n C dX11_goYear_222 rfl 1 rfl ?_
              refine zr_aload_n C dX11_goYear_223 rfl 1 rfl ?_
              refine zr_gi C hf kg_X11_261 (fun _ _ _ => rfl) dX11_goYear_224 (fun x207 hf => ?_)
              refine zr_iconst (v := -1) C dX11_goYear_227 (by decide) ?_
              refine zr_icmp_ne (tgt := 235) C hf dX11_goYear_228 (by decide) (fun hf => ?_) (fun hf => ?_)
              · refine zr_aload_n C dX11_goYear_235 rfl 1 rfl ?_
                refine zr_gi C hf kg_X11_261 (fun _ _ _ => rfl) dX11_goYear_236 (fun x208 hf => ?_)
                refine zsub [1, 2, 3, 4] rfl ?_
                exact J239 h206 x189 a0 x208 hf
              · refine zr_iload_n C dX11_goYear_231 rfl 2 rfl ?_
                refine zr_goto (tgt := 239) C dX11_goYear_232 (by decide) ?_
                refine zsub [1, 2, 3, 4] rfl ?_
                exact J239 h206 x189 a0 p0 hf
        have J167 : ∀ (h210 : zH) (x209 : Int32), F_X11_goYear_J167 n kc88 h210 a0 p0 p2 x209 = some res → zW p l e (headSpec (zw yX11_goYear cX11_goYear 8 none) ({ frames := 1, cells := 0, slots := 0, locals := 21 } : Room)).room s m args below meth c E 8 (MQ below (zQc E res.2 none) args s 0 0 (zfr E)) 0 0 167 [(0, .ref (zB E + a0)), (1, .int p0), (3, .int p2), (4, .int x209)] [] h210 := by
          intro h210 x209 hf
          unfold F_X11_goYear_J167 at hf
          refine zr_iconst (v := 0) C dX11_goYear_167 (by decide) ?_
          exact J168 h210 x209 (0 : Int32) hf
        have J163 : ∀ (h212 : zH) (x211 : Int32), F_X11_goYear_J163 n kc88 h212 a0 p0 p2 x211 = some res → zW p l e (headSpec (zw yX11_goYear cX11_goYear 8 none) ({ frames := 1, cells := 0, slots := 0, locals := 21 } : Room)).room s m args below meth c E 8 (MQ below (zQc E res.2 none) args s 0 0 (zfr E)) 0 0 163 [(0, .ref (zB E + a0)), (1, .int p0), (3, .int p2), (4, .int x211)] [] h212 := by
          intro h212 x211 hf
          unfold F_X11_goYear_J163 at hf
          refine zr_iconst (v := 1) C dX11_goYear_163 (by decide) ?_
          refine zr_goto (tgt := 168) C dX11_goYear_164 (by decide) ?_
          exact J168 h212 x211 (1 : Int32) hf
        have J149 : ∀ (h216 : zH) (x213 : Int32) (x214 : Int32) (x215 : Int32), F_X11_goYear_J149 n kc88 h216 a0 p0 p2 x213 x214 x215 = some res → zW p l e (headSpec (zw yX11_goYear cX11_goYear 8 none) ({ frames := 1, cells := 0, slots := 0, locals := 21 } : Room)).room s m args below meth c E 8 (MQ below (zQc E res.2 none) args s 0 0 (zfr E)) 0 0 149 [(0, .ref (zB E + a0)), (1, .int p0), (3, .int p2), (4, .int x213), (5, .int x214), (6, .int x215)] [] h216 := by
          intro h216 x213 x214 x215 hf
          unfold F_X11_goYear_J149 at hf
          refine zr_iload C dX11_goYear_149 4 rfl ?_
          refine zr_iload_n C dX11_goYear_151 rfl 2 rfl ?_
          refine zr_ineg C hf dX11_goYear_152 (fun x217 hf => ?_)
          refine zr_icmp_ge (tgt := 167) C hf dX11_goYear_153 (by decide) (fun hf => ?_) (fun hf => ?_)
          · refine zsub [0, 1, 2, 3] rfl ?_
            exact J167 h216 x213 hf
          · refine zr_iload C dX11_goYear_156 5 rfl ?_
            refine zr_iload_n C dX11_goYear_158 rfl 2 rfl ?_
            refine zr_ineg C hf dX11_goYear_159 (fun x218 hf => ?_)
            refine zr_icmp_ge (tgt := 167) C hf dX11_goYear_160 (by decide) (fun hf => ?_) (fun hf => ?_)
            · refine zsub [0, 1, 2, 3] rfl ?_
              exact J167 h216 x213 hf
            · refine zsub [0, 1, 2, 3] rfl ?_
              exact J163 h216 x213 hf
        refine zr_iload C dX11_goYear_88 3 rfl ?_
        refine zr_aload_n C dX11_goYear_90 rfl 0 rfl ?_
        refine zr_gi C hf kg_X11_158 (fun _ _ _ => rfl) dX11_goYear_91 (fun x219 hf => ?_)
        refine zr_iconst (v := 1) C dX11_goYear_94 (by decide) ?_
        refine zr_isub C hf dX11_goYear_95 (fun x220 hf => ?_)
        refine zr_icmp_ge (tgt := 248) C hf dX11_goYear_96 (by decide) (fun hf => ?_) (fun hf => ?_)
        · exact zr_return C hf hr (Nat.le_of_ble_eq_true rfl) (Nat.le_of_ble_eq_true rfl) dX11_goYear_248
        · refine zr_aload_n C dX11_goYear_99 rfl 0 rfl ?_
          refine zr_gr C hf kg_X11_99 (fun _ _ _ => rfl) dX11_goYear_100 (fun w221 hf => ?_)
          refine zr_iload C dX11_goYear_103 3 rfl ?_
          refine zr_iaload C hf dX11_goYear_105 (fun x222 hf => ?_)
          refine zr_aload_n C dX11_goYear_106 rfl 0 rfl ?_
          refine zr_gr C hf kg_X11_99 (fun _ _ _ => rfl) dX11_goYear_107 (fun w223 hf => ?_)
          refine zr_iload C dX11_goYear_110 3 rfl ?_
          refine zr_iconst (v := 1) C dX11_goYear_112 (by decide) ?_
          refine zr_isub C hf dX11_goYear_113 (fun x224 hf => ?_)
          refine zr_iaload C hf dX11_goYear_114 (fun x225 hf => ?_)
          refine zr_isub C hf dX11_goYear_115 (fun x226 hf => ?_)
          refine zr_istore (lo2 := [(5, .int x226), (0, .ref (zB E + a0)), (1, .int p0), (3, .int p2), (4, .int x179)]) C dX11_goYear_116 (by decide) rfl ?_
          refine zr_aload_n C dX11_goYear_118 rfl 1 rfl ?_
          refine zr_gr C hf kg_X11_99 (fun _ _ _ => rfl) dX11_goYear_119 (fun w227 hf => ?_)
          refine zr_iload C dX11_goYear_122 4 rfl ?_
          refine zr_iaload C hf dX11_goYear_124 (fun x228 hf => ?_)
          refine zr_aload_n C dX11_goYear_125 rfl 1 rfl ?_
          refine zr_gr C hf kg_X11_99 (fun _ _ _ => rfl) dX11_goYear_126 (fun w229 hf => ?_)
          refine zr_iload C dX11_goYear_129 4 rfl ?_
          refine zr_iconst (v := 1) C dX11_goYear_131 (by decide) ?_
          refine zr_iadd C hf dX11_goYear_132 (fun x230 hf => ?_)
          refine zr_iaload C hf dX11_goYear_133 (fun x231 hf => ?_)
          refine zr_isub C hf dX11_goYear_134 (fun x232 hf => ?_)
          refine zr_istore (lo2 := [(6, .int x232), (5, .int x226), (0, .ref (zB E + a0)), (1, .int p0), (3, .int p2), (4, .int x179)]) C dX11_goYear_135 (by decide) rfl ?_
          refine zr_iload C dX11_goYear_137 1 rfl ?_
          refine zr_iload_n C dX11_goYear_139 rfl 4 rfl ?_
          refine zr_icmp_le (tgt := 149) C hf dX11_goYear_140 (by decide) (fun hf => ?_) (fun hf => ?_)
          · refine zsub [2, 3, 4, 5, 1, 0] rfl ?_
            exact J149 h180 x179 x226 x232 hf
          · refine zr_iload C dX11_goYear_143 0 rfl ?_
            refine zr_iload_n C dX11_goYear_145 rfl 4 rfl ?_
            refine zr_icmp_gt (tgt := 163) C hf dX11_goYear_146 (by decide) (fun hf => ?_) (fun hf => ?_)
            · refine zsub [2, 3, 4, 5] rfl ?_
              exact J163 h180 x179 hf
            · refine zsub [2, 3, 4, 5, 1, 0] rfl ?_
              exact J149 h180 x179 x226 x232 hf
      refine zsub [1, 2, 4, 0] rfl ?_
      exact L88 n (h167, (1 : Int32)) hf
    · refine zr_aload_n C dX11_goYear_18 rfl 0 rfl ?_
      refine zr_iload C dX11_goYear_19 4 rfl ?_
      refine zr_callVi (As := [.int x166]) (rest := []) C hf (fun x hx => c_X11_isFree l E n h167 a0 x166 x hx) kv_X11_255 rfl rfl (Nat.le_of_ble_eq_true rfl) ⟨rfl, rfl⟩ ⟨Nat.le_of_ble_eq_true rfl, Nat.le_of_ble_eq_true rfl⟩ ⟨Nat.le_of_ble_eq_true rfl, Nat.le_of_ble_eq_true rfl⟩ dX11_goYear_21 (fun x234 h233 hf => ?_)
      refine zr_if_eq (tgt := 79) C hf dX11_goYear_24 (by decide) (fun hf => ?_) (fun hf => ?_)
      · exact J79 h233 x166 hf
      · refine zr_aload_n C dX11_goYear_27 rfl 0 rfl ?_
        refine zr_gr C hf kg_X11_99 (fun _ _ _ => rfl) dX11_goYear_28 (fun w235 hf => ?_)
        refine zr_iload C dX11_goYear_31 4 rfl ?_
        refine zr_iaload C hf dX11_goYear_33 (fun x236 hf => ?_)
        refine zr_aload_n C dX11_goYear_34 rfl 0 rfl ?_
        refine zr_gr C hf kg_X11_102 (fun _ _ _ => rfl) dX11_goYear_35 (fun w237 hf => ?_)
        refine zr_iload C dX11_goYear_38 4 rfl ?_
        refine zr_iaload C hf dX11_goYear_40 (fun x238 hf => ?_)
        refine zr_iload_n C dX11_goYear_41 rfl 2 rfl ?_
        refine zr_imul C hf dX11_goYear_42 (fun x239 hf => ?_)
        refine zr_bipush (v := 20) C dX11_goYear_43 (by decide) ?_
        refine zr_idiv C hf dX11_goYear_45 (fun x240 hf => ?_)
        refine zr_iadd C hf dX11_goYear_46 (fun x241 hf => ?_)
        refine zr_istore (lo2 := [(5, .int x241), (0, .ref (zB E + a0)), (1, .int p0), (2, .int p1), (3, .int p2), (4, .int x166)]) C dX11_goYear_47 (by decide) rfl ?_
        refine zr_aload_n C dX11_goYear_49 rfl 1 rfl ?_
        refine zr_gr C hf kg_X11_99 (fun _ _ _ => rfl) dX11_goYear_50 (fun w242 hf => ?_)
        refine zr_iload C dX11_goYear_53 5 rfl ?_
        refine zr_iload C dX11_goYear_55 0 rfl ?_
        refine zr_if_ge (tgt := 64) C hf dX11_goYear_57 (by decide) (fun hf => ?_) (fun hf => ?_)
        · refine zr_iload C dX11_goYear_64 0 rfl ?_
          refine zr_bipush (v := 99) C dX11_goYear_66 (by decide) ?_
          refine zr_icmp_le (tgt := 76) C hf dX11_goYear_68 (by decide) (fun hf => ?_) (fun hf => ?_)
          · refine zr_iload C dX11_goYear_76 0 rfl ?_
            refine zsub [1, 2, 3, 4, 5] rfl ?_
            exact J78 h233 x166 w242 x166 x241 hf
          · refine zr_bipush (v := 99) C dX11_goYear_71 (by decide) ?_
            refine zr_goto (tgt := 78) C dX11_goYear_73 (by decide) ?_
            refine zsub [1, 2, 3, 4, 5] rfl ?_
            exact J78 h233 x166 w242 x166 (99 : Int32) hf
        · refine zr_iconst (v := 0) C dX11_goYear_60 (by decide) ?_
          refine zr_goto (tgt := 78) C dX11_goYear_61 (by decide) ?_
          refine zsub [1, 2, 3, 4, 5] rfl ?_
          exact J78 h233 x166 w242 x166 (0 : Int32) hf
  refine zsub [1, 2, 3, 4, 0] rfl ?_
  exact L7 n (h1, (1 : Int32)) hf
theorem dX11_layYears_0 : decode cX11_layYears 0 = .ok (.aload_n 0, 1) := by decide +kernel
theorem dX11_layYears_1 : decode cX11_layYears 1 = .ok (.iload 4, 2) := by decide +kernel
theorem dX11_layYears_3 : decode cX11_layYears 3 = .ok (.putfield 249, 3) := by decide +kernel
theorem dX11_layYears_6 : decode cX11_layYears 6 = .ok (.aload_n 0, 1) := by decide +kernel
theorem dX11_layYears_7 : decode cX11_layYears 7 = .ok (.iconst 0, 1) := by decide +kernel
theorem dX11_layYears_8 : decode cX11_layYears 8 = .ok (.putfield 258, 3) := by decide +kernel
theorem dX11_layYears_11 : decode cX11_layYears 11 = .ok (.aload_n 0, 1) := by decide +kernel
theorem dX11_layYears_12 : decode cX11_layYears 12 = .ok (.iconst (-1), 1) := by decide +kernel
theorem dX11_layYears_13 : decode cX11_layYears 13 = .ok (.putfield 261, 3) := by decide +kernel
theorem dX11_layYears_16 : decode cX11_layYears 16 = .ok (.iconst 0, 1) := by decide +kernel
theorem dX11_layYears_17 : decode cX11_layYears 17 = .ok (.istore 5, 2) := by decide +kernel
theorem dX11_layYears_19 : decode cX11_layYears 19 = .ok (.iload 5, 2) := by decide +kernel
theorem dX11_layYears_21 : decode cX11_layYears 21 = .ok (.aload_n 0, 1) := by decide +kernel
theorem dX11_layYears_22 : decode cX11_layYears 22 = .ok (.getfield 158, 3) := by decide +kernel
theorem dX11_layYears_25 : decode cX11_layYears 25 = .ok (.if_icmp .ge 23, 3) := by decide +kernel
theorem dX11_layYears_28 : decode cX11_layYears 28 = .ok (.aload_n 0, 1) := by decide +kernel
theorem dX11_layYears_29 : decode cX11_layYears 29 = .ok (.getfield 99, 3) := by decide +kernel
theorem dX11_layYears_32 : decode cX11_layYears 32 = .ok (.iload 5, 2) := by decide +kernel
theorem dX11_layYears_34 : decode cX11_layYears 34 = .ok (.aload_n 0, 1) := by decide +kernel
theorem dX11_layYears_35 : decode cX11_layYears 35 = .ok (.getfield 61, 3) := by decide +kernel
theorem dX11_layYears_38 : decode cX11_layYears 38 = .ok (.iload 5, 2) := by decide +kernel
theorem dX11_layYears_40 : decode cX11_layYears 40 = .ok (.iaload, 1) := by decide +kernel
theorem dX11_layYears_41 : decode cX11_layYears 41 = .ok (.iastore, 1) := by decide +kernel
theorem dX11_layYears_42 : decode cX11_layYears 42 = .ok (.iinc 5 1, 3) := by decide +kernel
theorem dX11_layYears_45 : decode cX11_layYears 45 = .ok (.goto (-26), 3) := by decide +kernel
theorem dX11_layYears_48 : decode cX11_layYears 48 = .ok (.iconst 0, 1) := by decide +kernel
theorem dX11_layYears_49 : decode cX11_layYears 49 = .ok (.istore 5, 2) := by decide +kernel
theorem dX11_layYears_51 : decode cX11_layYears 51 = .ok (.iload 5, 2) := by decide +kernel
theorem dX11_layYears_53 : decode cX11_layYears 53 = .ok (.iload_n 1, 1) := by decide +kernel
theorem dX11_layYears_54 : decode cX11_layYears 54 = .ok (.if_icmp .ge 17, 3) := by decide +kernel
theorem dX11_layYears_57 : decode cX11_layYears 57 = .ok (.aload_n 0, 1) := by decide +kernel
theorem dX11_layYears_58 : decode cX11_layYears 58 = .ok (.iload 5, 2) := by decide +kernel
theorem dX11_layYears_60 : decode cX11_layYears 60 = .ok (.iload_n 2, 1) := by decide +kernel
theorem dX11_layYears_61 : decode cX11_layYears 61 = .ok (.iload_n 3, 1) := by decide +kernel
theorem dX11_layYears_62 : decode cX11_layYears 62 = .ok (.invokevirtual 264, 3) := by decide +kernel
theorem dX11_layYears_65 : decode cX11_layYears 65 = .ok (.iinc 5 1, 3) := by decide +kernel
theorem dX11_layYears_68 : decode cX11_layYears 68 = .ok (.goto (-17), 3) := by decide +kernel
theorem dX11_layYears_71 : decode cX11_layYears 71 = .ok (.return_, 1) := by decide +kernel
set_option maxHeartbeats 4000000 in
set_option maxRecDepth 100000 in
theorem c_X11_layYears (l : Launch) (E : zE) (n : Nat) (h : zH) (a0 : Nat) (p0 : Int32) (p1 : Int32) (p2 : Int32) (p3 : Int32) (res : Unit × zH) (hf : F_X11_layYears n h a0 p0 p1 p2 p3 = some res) : Met l yX11_layYears (zw yX11_layYears cX11_layYears 6 none) ({ frames := 2, cells := 0, slots := 0, locals := 48 } : Room) (zPc E h [.ref (zB E + a0), .int p0, .int p1, .int p2, .int p3]) (zQc E res.2 none) 0 0 (zfr E) := by
  refine zmet (lo := [(0, .ref (zB E + a0)), (1, .int p0), (2, .int p1), (3, .int p2), (4, .int p3)]) (by decide +kernel) (Nat.le_of_ble_eq_true rfl) rfl ?_
  intro p e s m args below meth c C hr hin
  unfold F_X11_layYears at hf
  refine zr_aload_n C dX11_layYears_0 rfl 0 rfl ?_
  refine zr_iload C dX11_layYears_1 4 rfl ?_
  refine zr_si C hf kp_X11_249 (fun _ _ _ => rfl) rfl dX11_layYears_3 (fun h1 hf => ?_)
  refine zr_aload_n C dX11_layYears_6 rfl 0 rfl ?_
  refine zr_iconst (v := 0) C dX11_layYears_7 (by decide) ?_
  refine zr_si C hf kp_X11_258 (fun _ _ _ => rfl) rfl dX11_layYears_8 (fun h2 hf => ?_)
  refine zr_aload_n C dX11_layYears_11 rfl 0 rfl ?_
  refine zr_iconst (v := -1) C dX11_layYears_12 (by decide) ?_
  refine zr_si C hf kp_X11_261 (fun _ _ _ => rfl) rfl dX11_layYears_13 (fun h3 hf => ?_)
  refine zr_iconst (v := 0) C dX11_layYears_16 (by decide) ?_
  refine zr_istore (lo2 := [(5, .int (0 : Int32)), (0, .ref (zB E + a0)), (1, .int p0), (2, .int p1), (3, .int p2), (4, .int p3)]) C dX11_layYears_17 (by decide) rfl ?_
  have L19 : ∀ (fu : Nat) (x : zH × Int32), zloop (fun kc x => F_X11_layYears_B19 n kc x.1 a0 p0 p1 p2 x.2) fu x = some res → zW p l e (headSpec (zw yX11_layYears cX11_layYears 6 none) ({ frames := 2, cells := 0, slots := 0, locals := 48 } : Room)).room s m args below meth c E 6 (MQ below (zQc E res.2 none) args s 0 0 (zfr E)) 0 0 19 [(0, .ref (zB E + a0)), (1, .int p0), (2, .int p1), (3, .int p2), (5, .int x.2)] [] x.1 := by
    refine z_loop _ ?_
    intro kc19 hk19 x hf
    obtain ⟨h29, x28⟩ := x
    dsimp only at hf ⊢
    unfold F_X11_layYears_B19 at hf
    refine zr_iload C dX11_layYears_19 4 rfl ?_
    refine zr_aload_n C dX11_layYears_21 rfl 0 rfl ?_
    refine zr_gi C hf kg_X11_158 (fun _ _ _ => rfl) dX11_layYears_22 (fun x30 hf => ?_)
    refine zr_icmp_ge (tgt := 48) C hf dX11_layYears_25 (by decide) (fun hf => ?_) (fun hf => ?_)
    · refine zr_iconst (v := 0) C dX11_layYears_48 (by decide) ?_
      refine zr_istore (lo2 := [(5, .int (0 : Int32)), (0, .ref (zB E + a0)), (1, .int p0), (2, .int p1), (3, .int p2)]) C dX11_layYears_49 (by decide) rfl ?_
      have L51 : ∀ (fu : Nat) (x : zH × Int32), zloop (fun kc x => F_X11_layYears_B51 n kc x.1 a0 p0 p1 p2 x.2) fu x = some res → zW p l e (headSpec (zw yX11_layYears cX11_layYears 6 none) ({ frames := 2, cells := 0, slots := 0, locals := 48 } : Room)).room s m args below meth c E 6 (MQ below (zQc E res.2 none) args s 0 0 (zfr E)) 0 0 51 [(0, .ref (zB E + a0)), (1, .int p0), (2, .int p1), (3, .int p2), (5, .int x.2)] [] x.1 := by
        refine z_loop _ ?_
        intro kc51 hk51 x hf
        obtain ⟨h32, x31⟩ := x
        dsimp only at hf ⊢
        unfold F_X11_layYears_B51 at hf
        refine zr_iload C dX11_layYears_51 4 rfl ?_
        refine zr_iload_n C dX11_layYears_53 rfl 1 rfl ?_
        refine zr_icmp_ge (tgt := 71) C hf dX11_layYears_54 (by decide) (fun hf => ?_) (fun hf => ?_)
        · exact zr_return C hf hr (Nat.le_of_ble_eq_true rfl) (Nat.le_of_ble_eq_true rfl) dX11_layYears_71
        · refine zr_aload_n C dX11_layYears_57 rfl 0 rfl ?_
          refine zr_iload C dX11_layYears_58 4 rfl ?_
          refine zr_iload_n C dX11_layYears_60 rfl 2 rfl ?_
          refine zr_iload_n C dX11_layYears_61 rfl 3 rfl ?_
          refine zr_callVv (As := [.int x31, .int p1, .int p2]) (rest := []) C hf (fun x hx => c_X11_goYear l E n h32 a0 x31 p1 p2 x hx) kv_X11_264 rfl rfl (Nat.le_of_ble_eq_true rfl) ⟨rfl, rfl⟩ ⟨Nat.le_of_ble_eq_true rfl, Nat.le_of_ble_eq_true rfl⟩ ⟨Nat.le_of_ble_eq_true rfl, Nat.le_of_ble_eq_true rfl⟩ dX11_layYears_62 (fun _ h33 hf => ?_)
          refine zr_iinc (v0 := 1) (k := 4) (f := fun v => [(5, .int v), (0, .ref (zB E + a0)), (1, .int p0), (2, .int p1), (3, .int p2)]) C hf (by decide) dX11_layYears_65 rfl (by decide) (fun v => rfl) (fun x34 hf => ?_)
          refine zr_goto (tgt := 51) C dX11_layYears_68 (by decide) ?_
          refine zsub [1, 2, 3, 4, 0] rfl ?_
          exact hk51 (h33, x34) hf
      refine zsub [1, 2, 3, 4, 0] rfl ?_
      exact L51 n (h29, (0 : Int32)) hf
    · refine zr_aload_n C dX11_layYears_28 rfl 0 rfl ?_
      refine zr_gr C hf kg_X11_99 (fun _ _ _ => rfl) dX11_layYears_29 (fun w35 hf => ?_)
      refine zr_iload C dX11_layYears_32 4 rfl ?_
      refine zr_aload_n C dX11_layYears_34 rfl 0 rfl ?_
      refine zr_gr C hf kg_X11_61 (fun _ _ _ => rfl) dX11_layYears_35 (fun w36 hf => ?_)
      refine zr_iload C dX11_layYears_38 4 rfl ?_
      refine zr_iaload C hf dX11_layYears_40 (fun x37 hf => ?_)
      refine zr_iastore C hf dX11_layYears_41 (fun h38 hf => ?_)
      refine zr_iinc (v0 := 1) (k := 4) (f := fun v => [(5, .int v), (0, .ref (zB E + a0)), (1, .int p0), (2, .int p1), (3, .int p2)]) C hf (by decide) dX11_layYears_42 rfl (by decide) (fun v => rfl) (fun x39 hf => ?_)
      refine zr_goto (tgt := 19) C dX11_layYears_45 (by decide) ?_
      refine zsub [1, 2, 3, 4, 0] rfl ?_
      exact hk19 (h38, x39) hf
  refine zsub [1, 2, 3, 4, 0] rfl ?_
  exact L19 n (h3, (0 : Int32)) hf
theorem dX11_areYears_0 : decode cX11_areYears 0 = .ok (.iload_n 0, 1) := by decide +kernel
theorem dX11_areYears_1 : decode cX11_areYears 1 = .ok (.iconst 0, 1) := by decide +kernel
theorem dX11_areYears_2 : decode cX11_areYears 2 = .ok (.bipush 99, 2) := by decide +kernel
theorem dX11_areYears_4 : decode cX11_areYears 4 = .ok (.invokestatic 111, 3) := by decide +kernel
theorem dX11_areYears_7 : decode cX11_areYears 7 = .ok (.ifCond .eq 27, 3) := by decide +kernel
theorem dX11_areYears_10 : decode cX11_areYears 10 = .ok (.iload_n 1, 1) := by decide +kernel
theorem dX11_areYears_11 : decode cX11_areYears 11 = .ok (.iconst 0, 1) := by decide +kernel
theorem dX11_areYears_12 : decode cX11_areYears 12 = .ok (.bipush 9, 2) := by decide +kernel
theorem dX11_areYears_14 : decode cX11_areYears 14 = .ok (.invokestatic 111, 3) := by decide +kernel
theorem dX11_areYears_17 : decode cX11_areYears 17 = .ok (.ifCond .eq 17, 3) := by decide +kernel
theorem dX11_areYears_20 : decode cX11_areYears 20 = .ok (.iload_n 2, 1) := by decide +kernel
theorem dX11_areYears_21 : decode cX11_areYears 21 = .ok (.iconst 1, 1) := by decide +kernel
theorem dX11_areYears_22 : decode cX11_areYears 22 = .ok (.bipush 99, 2) := by decide +kernel
theorem dX11_areYears_24 : decode cX11_areYears 24 = .ok (.invokestatic 111, 3) := by decide +kernel
theorem dX11_areYears_27 : decode cX11_areYears 27 = .ok (.ifCond .eq 7, 3) := by decide +kernel
theorem dX11_areYears_30 : decode cX11_areYears 30 = .ok (.iconst 1, 1) := by decide +kernel
theorem dX11_areYears_31 : decode cX11_areYears 31 = .ok (.goto 4, 3) := by decide +kernel
theorem dX11_areYears_34 : decode cX11_areYears 34 = .ok (.iconst 0, 1) := by decide +kernel
theorem dX11_areYears_35 : decode cX11_areYears 35 = .ok (.ireturn, 1) := by decide +kernel
set_option maxHeartbeats 4000000 in
set_option maxRecDepth 100000 in
theorem c_X11_areYears (l : Launch) (E : zE) (n : Nat) (h : zH) (p0 : Int32) (p1 : Int32) (p2 : Int32) (res : Int32 × zH) (hf : F_X11_areYears n h p0 p1 p2 = some res) : Met l yX11_areYears (zw yX11_areYears cX11_areYears 3 (some .boolean)) ({ frames := 1, cells := 0, slots := 0, locals := 22 } : Room) (zPc E h [.int p0, .int p1, .int p2]) (zQc E res.2 (some (.int res.1))) 0 0 (zfr E) := by
  refine zmet (lo := [(0, .int p0), (1, .int p1), (2, .int p2)]) (by decide +kernel) (Nat.le_of_ble_eq_true rfl) rfl ?_
  intro p e s m args below meth c C hr hin
  unfold F_X11_areYears at hf
  have J35 : ∀ (h4 : zH) (x3 : Int32), F_X11_areYears_J35 n h4 x3 = some res → zW p l e (headSpec (zw yX11_areYears cX11_areYears 3 (some .boolean)) ({ frames := 1, cells := 0, slots := 0, locals := 22 } : Room)).room s m args below meth c E 3 (MQ below (zQc E res.2 (some (.int res.1))) args s 0 0 (zfr E)) 0 0 35 [] [.int x3] h4 := by
    intro h4 x3 hf
    unfold F_X11_areYears_J35 at hf
    exact zr_zreturn C hf hr (Nat.le_of_ble_eq_true rfl) (Nat.le_of_ble_eq_true rfl) dX11_areYears_35
  have J34 : ∀ (h6 : zH), F_X11_areYears_J34 n h6 = some res → zW p l e (headSpec (zw yX11_areYears cX11_areYears 3 (some .boolean)) ({ frames := 1, cells := 0, slots := 0, locals := 22 } : Room)).room s m args below meth c E 3 (MQ below (zQc E res.2 (some (.int res.1))) args s 0 0 (zfr E)) 0 0 34 [] [] h6 := by
    intro h6 hf
    unfold F_X11_areYears_J34 at hf
    refine zr_iconst (v := 0) C dX11_areYears_34 (by decide) ?_
    exact J35 h6 (0 : Int32) hf
  refine zr_iload_n C dX11_areYears_0 rfl 0 rfl ?_
  refine zr_iconst (v := 0) C dX11_areYears_1 (by decide) ?_
  refine zr_bipush (v := 99) C dX11_areYears_2 (by decide) ?_
  refine zr_callSi (As := [.int p0, .int (0 : Int32), .int (99 : Int32)]) (rest := []) C hf (fun x hx => c_X11_within l E n h p0 (0 : Int32) (99 : Int32) x hx) ks_X11_111 rfl rfl (Nat.le_of_ble_eq_true rfl) ⟨rfl, rfl⟩ ⟨Nat.le_of_ble_eq_true rfl, Nat.le_of_ble_eq_true rfl⟩ ⟨Nat.le_of_ble_eq_true rfl, Nat.le_of_ble_eq_true rfl⟩ dX11_areYears_4 (fun x8 h7 hf => ?_)
  refine zr_if_eq (tgt := 34) C hf dX11_areYears_7 (by decide) (fun hf => ?_) (fun hf => ?_)
  · refine zsub [] rfl ?_
    exact J34 h7 hf
  · refine zr_iload_n C dX11_areYears_10 rfl 1 rfl ?_
    refine zr_iconst (v := 0) C dX11_areYears_11 (by decide) ?_
    refine zr_bipush (v := 9) C dX11_areYears_12 (by decide) ?_
    refine zr_callSi (As := [.int p1, .int (0 : Int32), .int (9 : Int32)]) (rest := []) C hf (fun x hx => c_X11_within l E n h7 p1 (0 : Int32) (9 : Int32) x hx) ks_X11_111 rfl rfl (Nat.le_of_ble_eq_true rfl) ⟨rfl, rfl⟩ ⟨Nat.le_of_ble_eq_true rfl, Nat.le_of_ble_eq_true rfl⟩ ⟨Nat.le_of_ble_eq_true rfl, Nat.le_of_ble_eq_true rfl⟩ dX11_areYears_14 (fun x10 h9 hf => ?_)
    refine zr_if_eq (tgt := 34) C hf dX11_areYears_17 (by decide) (fun hf => ?_) (fun hf => ?_)
    · refine zsub [] rfl ?_
      exact J34 h9 hf
    · refine zr_iload_n C dX11_areYears_20 rfl 2 rfl ?_
      refine zr_iconst (v := 1) C dX11_areYears_21 (by decide) ?_
      refine zr_bipush (v := 99) C dX11_areYears_22 (by decide) ?_
      refine zr_callSi (As := [.int p2, .int (1 : Int32), .int (99 : Int32)]) (rest := []) C hf (fun x hx => c_X11_within l E n h9 p2 (1 : Int32) (99 : Int32) x hx) ks_X11_111 rfl rfl (Nat.le_of_ble_eq_true rfl) ⟨rfl, rfl⟩ ⟨Nat.le_of_ble_eq_true rfl, Nat.le_of_ble_eq_true rfl⟩ ⟨Nat.le_of_ble_eq_true rfl, Nat.le_of_ble_eq_true rfl⟩ dX11_areYears_24 (fun x12 h11 hf => ?_)
      refine zr_if_eq (tgt := 34) C hf dX11_areYears_27 (by decide) (fun hf => ?_) (fun hf => ?_)
      · refine zsub [] rfl ?_
        exact J34 h11 hf
      · refine zr_iconst (v := 1) C dX11_areYears_30 (by decide) ?_
        refine zr_goto (tgt := 35) C dX11_areYears_31 (by decide) ?_
        refine zsub [] rfl ?_
        exact J35 h11 (1 : Int32) hf
theorem dX11_point_0 : decode cX11_point 0 = .ok (.iload_n 1, 1) := by decide +kernel
theorem dX11_point_1 : decode cX11_point 1 = .ok (.iconst 0, 1) := by decide +kernel
theorem dX11_point_2 : decode cX11_point 2 = .ok (.aload_n 0, 1) := by decide +kernel
theorem dX11_point_3 : decode cX11_point 3 = .ok (.getfield 158, 3) := by decide +kernel
theorem dX11_point_6 : decode cX11_point 6 = .ok (.iconst 1, 1) := by decide +kernel
theorem dX11_point_7 : decode cX11_point 7 = .ok (.isub, 1) := by decide +kernel
theorem dX11_point_8 : decode cX11_point 8 = .ok (.invokestatic 111, 3) := by decide +kernel
theorem dX11_point_11 : decode cX11_point 11 = .ok (.ifCond .ne 6, 3) := by decide +kernel
theorem dX11_point_14 : decode cX11_point 14 = .ok (.bipush (-101), 2) := by decide +kernel
theorem dX11_point_16 : decode cX11_point 16 = .ok (.ireturn, 1) := by decide +kernel
theorem dX11_point_17 : decode cX11_point 17 = .ok (.iload_n 2, 1) := by decide +kernel
theorem dX11_point_18 : decode cX11_point 18 = .ok (.iload_n 3, 1) := by decide +kernel
theorem dX11_point_19 : decode cX11_point 19 = .ok (.iload 4, 2) := by decide +kernel
theorem dX11_point_21 : decode cX11_point 21 = .ok (.invokestatic 267, 3) := by decide +kernel
theorem dX11_point_24 : decode cX11_point 24 = .ok (.ifCond .ne 6, 3) := by decide +kernel
theorem dX11_point_27 : decode cX11_point 27 = .ok (.bipush (-102), 2) := by decide +kernel
theorem dX11_point_29 : decode cX11_point 29 = .ok (.ireturn, 1) := by decide +kernel
theorem dX11_point_30 : decode cX11_point 30 = .ok (.aload_n 0, 1) := by decide +kernel
theorem dX11_point_31 : decode cX11_point 31 = .ok (.iload_n 2, 1) := by decide +kernel
theorem dX11_point_32 : decode cX11_point 32 = .ok (.iload_n 3, 1) := by decide +kernel
theorem dX11_point_33 : decode cX11_point 33 = .ok (.iload 4, 2) := by decide +kernel
theorem dX11_point_35 : decode cX11_point 35 = .ok (.iconst (-1), 1) := by decide +kernel
theorem dX11_point_36 : decode cX11_point 36 = .ok (.invokevirtual 270, 3) := by decide +kernel
theorem dX11_point_39 : decode cX11_point 39 = .ok (.aload_n 0, 1) := by decide +kernel
theorem dX11_point_40 : decode cX11_point 40 = .ok (.getfield 99, 3) := by decide +kernel
theorem dX11_point_43 : decode cX11_point 43 = .ok (.iload_n 1, 1) := by decide +kernel
theorem dX11_point_44 : decode cX11_point 44 = .ok (.iaload, 1) := by decide +kernel
theorem dX11_point_45 : decode cX11_point 45 = .ok (.ireturn, 1) := by decide +kernel
set_option maxHeartbeats 4000000 in
set_option maxRecDepth 100000 in
theorem c_X11_point (l : Launch) (E : zE) (n : Nat) (h : zH) (a0 : Nat) (p0 : Int32) (p1 : Int32) (p2 : Int32) (p3 : Int32) (res : Int32 × zH) (hf : F_X11_point n h a0 p0 p1 p2 p3 = some res) : Met l yX11_point (zw yX11_point cX11_point 5 (some .int)) ({ frames := 3, cells := 0, slots := 0, locals := 73 } : Room) (zPc E h [.ref (zB E + a0), .int p0, .int p1, .int p2, .int p3]) (zQc E res.2 (some (.int res.1))) 0 0 (zfr E) := by
  refine zmet (lo := [(0, .ref (zB E + a0)), (1, .int p0), (2, .int p1), (3, .int p2), (4, .int p3)]) (by decide +kernel) (Nat.le_of_ble_eq_true rfl) rfl ?_
  intro p e s m args below meth c C hr hin
  unfold F_X11_point at hf
  refine zr_iload_n C dX11_point_0 rfl 1 rfl ?_
  refine zr_iconst (v := 0) C dX11_point_1 (by decide) ?_
  refine zr_aload_n C dX11_point_2 rfl 0 rfl ?_
  refine zr_gi C hf kg_X11_158 (fun _ _ _ => rfl) dX11_point_3 (fun x1 hf => ?_)
  refine zr_iconst (v := 1) C dX11_point_6 (by decide) ?_
  refine zr_isub C hf dX11_point_7 (fun x2 hf => ?_)
  refine zr_callSi (As := [.int p0, .int (0 : Int32), .int x2]) (rest := []) C hf (fun x hx => c_X11_within l E n h p0 (0 : Int32) x2 x hx) ks_X11_111 rfl rfl (Nat.le_of_ble_eq_true rfl) ⟨rfl, rfl⟩ ⟨Nat.le_of_ble_eq_true rfl, Nat.le_of_ble_eq_true rfl⟩ ⟨Nat.le_of_ble_eq_true rfl, Nat.le_of_ble_eq_true rfl⟩ dX11_point_8 (fun x4 h3 hf => ?_)
  refine zr_if_ne (tgt := 17) C hf dX11_point_11 (by decide) (fun hf => ?_) (fun hf => ?_)
  · refine zr_iload_n C dX11_point_17 rfl 2 rfl ?_
    refine zr_iload_n C dX11_point_18 rfl 3 rfl ?_
    refine zr_iload C dX11_point_19 4 rfl ?_
    refine zr_callSi (As := [.int p1, .int p2, .int p3]) (rest := []) C hf (fun x hx => c_X11_areYears l E n h3 p1 p2 p3 x hx) ks_X11_267 rfl rfl (Nat.le_of_ble_eq_true rfl) ⟨rfl, rfl⟩ ⟨Nat.le_of_ble_eq_true rfl, Nat.le_of_ble_eq_true rfl⟩ ⟨Nat.le_of_ble_eq_true rfl, Nat.le_of_ble_eq_true rfl⟩ dX11_point_21 (fun x6 h5 hf => ?_)
    refine zr_if_ne (tgt := 30) C hf dX11_point_24 (by decide) (fun hf => ?_) (fun hf => ?_)
    · refine zr_aload_n C dX11_point_30 rfl 0 rfl ?_
      refine zr_iload_n C dX11_point_31 rfl 2 rfl ?_
      refine zr_iload_n C dX11_point_32 rfl 3 rfl ?_
      refine zr_iload C dX11_point_33 4 rfl ?_
      refine zr_iconst (v := -1) C dX11_point_35 (by decide) ?_
      refine zr_callVv (As := [.int p1, .int p2, .int p3, .int (-1 : Int32)]) (rest := []) C hf (fun x hx => c_X11_layYears l E n h5 a0 p1 p2 p3 (-1 : Int32) x hx) kv_X11_270 rfl rfl (Nat.le_of_ble_eq_true rfl) ⟨rfl, rfl⟩ ⟨Nat.le_of_ble_eq_true rfl, Nat.le_of_ble_eq_true rfl⟩ ⟨Nat.le_of_ble_eq_true rfl, Nat.le_of_ble_eq_true rfl⟩ dX11_point_36 (fun _ h7 hf => ?_)
      refine zr_aload_n C dX11_point_39 rfl 0 rfl ?_
      refine zr_gr C hf kg_X11_99 (fun _ _ _ => rfl) dX11_point_40 (fun w8 hf => ?_)
      refine zr_iload_n C dX11_point_43 rfl 1 rfl ?_
      refine zr_iaload C hf dX11_point_44 (fun x9 hf => ?_)
      exact zr_ireturn C hf hr (Nat.le_of_ble_eq_true rfl) (Nat.le_of_ble_eq_true rfl) dX11_point_45
    · refine zr_bipush (v := -102) C dX11_point_27 (by decide) ?_
      exact zr_ireturn C hf hr (Nat.le_of_ble_eq_true rfl) (Nat.le_of_ble_eq_true rfl) dX11_point_29
  · refine zr_bipush (v := -101) C dX11_point_14 (by decide) ?_
    exact zr_ireturn C hf hr (Nat.le_of_ble_eq_true rfl) (Nat.le_of_ble_eq_true rfl) dX11_point_16
theorem dX11_cuts_0 : decode cX11_cuts 0 = .ok (.aload_n 0, 1) := by decide +kernel
theorem dX11_cuts_1 : decode cX11_cuts 1 = .ok (.getfield 158, 3) := by decide +kernel
theorem dX11_cuts_4 : decode cX11_cuts 4 = .ok (.ifCond .ne 6, 3) := by decide +kernel
theorem dX11_cuts_7 : decode cX11_cuts 7 = .ok (.bipush (-103), 2) := by decide +kernel
theorem dX11_cuts_9 : decode cX11_cuts 9 = .ok (.ireturn, 1) := by decide +kernel
theorem dX11_cuts_10 : decode cX11_cuts 10 = .ok (.iload_n 1, 1) := by decide +kernel
theorem dX11_cuts_11 : decode cX11_cuts 11 = .ok (.iload_n 2, 1) := by decide +kernel
theorem dX11_cuts_12 : decode cX11_cuts 12 = .ok (.iload_n 3, 1) := by decide +kernel
theorem dX11_cuts_13 : decode cX11_cuts 13 = .ok (.invokestatic 267, 3) := by decide +kernel
theorem dX11_cuts_16 : decode cX11_cuts 16 = .ok (.ifCond .ne 6, 3) := by decide +kernel
theorem dX11_cuts_19 : decode cX11_cuts 19 = .ok (.bipush (-102), 2) := by decide +kernel
theorem dX11_cuts_21 : decode cX11_cuts 21 = .ok (.ireturn, 1) := by decide +kernel
theorem dX11_cuts_22 : decode cX11_cuts 22 = .ok (.aload_n 0, 1) := by decide +kernel
theorem dX11_cuts_23 : decode cX11_cuts 23 = .ok (.iload_n 1, 1) := by decide +kernel
theorem dX11_cuts_24 : decode cX11_cuts 24 = .ok (.iload_n 2, 1) := by decide +kernel
theorem dX11_cuts_25 : decode cX11_cuts 25 = .ok (.iload_n 3, 1) := by decide +kernel
theorem dX11_cuts_26 : decode cX11_cuts 26 = .ok (.iconst (-1), 1) := by decide +kernel
theorem dX11_cuts_27 : decode cX11_cuts 27 = .ok (.invokevirtual 270, 3) := by decide +kernel
theorem dX11_cuts_30 : decode cX11_cuts 30 = .ok (.aload_n 0, 1) := by decide +kernel
theorem dX11_cuts_31 : decode cX11_cuts 31 = .ok (.getfield 258, 3) := by decide +kernel
theorem dX11_cuts_34 : decode cX11_cuts 34 = .ok (.ireturn, 1) := by decide +kernel
set_option maxHeartbeats 4000000 in
set_option maxRecDepth 100000 in
theorem c_X11_cuts (l : Launch) (E : zE) (n : Nat) (h : zH) (a0 : Nat) (p0 : Int32) (p1 : Int32) (p2 : Int32) (res : Int32 × zH) (hf : F_X11_cuts n h a0 p0 p1 p2 = some res) : Met l yX11_cuts (zw yX11_cuts cX11_cuts 4 (some .int)) ({ frames := 3, cells := 0, slots := 0, locals := 73 } : Room) (zPc E h [.ref (zB E + a0), .int p0, .int p1, .int p2]) (zQc E res.2 (some (.int res.1))) 0 0 (zfr E) := by
  refine zmet (lo := [(0, .ref (zB E + a0)), (1, .int p0), (2, .int p1), (3, .int p2)]) (by decide +kernel) (Nat.le_of_ble_eq_true rfl) rfl ?_
  intro p e s m args below meth c C hr hin
  unfold F_X11_cuts at hf
  refine zr_aload_n C dX11_cuts_0 rfl 0 rfl ?_
  refine zr_gi C hf kg_X11_158 (fun _ _ _ => rfl) dX11_cuts_1 (fun x1 hf => ?_)
  refine zr_if_ne (tgt := 10) C hf dX11_cuts_4 (by decide) (fun hf => ?_) (fun hf => ?_)
  · refine zr_iload_n C dX11_cuts_10 rfl 1 rfl ?_
    refine zr_iload_n C dX11_cuts_11 rfl 2 rfl ?_
    refine zr_iload_n C dX11_cuts_12 rfl 3 rfl ?_
    refine zr_callSi (As := [.int p0, .int p1, .int p2]) (rest := []) C hf (fun x hx => c_X11_areYears l E n h p0 p1 p2 x hx) ks_X11_267 rfl rfl (Nat.le_of_ble_eq_true rfl) ⟨rfl, rfl⟩ ⟨Nat.le_of_ble_eq_true rfl, Nat.le_of_ble_eq_true rfl⟩ ⟨Nat.le_of_ble_eq_true rfl, Nat.le_of_ble_eq_true rfl⟩ dX11_cuts_13 (fun x3 h2 hf => ?_)
    refine zr_if_ne (tgt := 22) C hf dX11_cuts_16 (by decide) (fun hf => ?_) (fun hf => ?_)
    · refine zr_aload_n C dX11_cuts_22 rfl 0 rfl ?_
      refine zr_iload_n C dX11_cuts_23 rfl 1 rfl ?_
      refine zr_iload_n C dX11_cuts_24 rfl 2 rfl ?_
      refine zr_iload_n C dX11_cuts_25 rfl 3 rfl ?_
      refine zr_iconst (v := -1) C dX11_cuts_26 (by decide) ?_
      refine zr_callVv (As := [.int p0, .int p1, .int p2, .int (-1 : Int32)]) (rest := []) C hf (fun x hx => c_X11_layYears l E n h2 a0 p0 p1 p2 (-1 : Int32) x hx) kv_X11_270 rfl rfl (Nat.le_of_ble_eq_true rfl) ⟨rfl, rfl⟩ ⟨Nat.le_of_ble_eq_true rfl, Nat.le_of_ble_eq_true rfl⟩ ⟨Nat.le_of_ble_eq_true rfl, Nat.le_of_ble_eq_true rfl⟩ dX11_cuts_27 (fun _ h4 hf => ?_)
      refine zr_aload_n C dX11_cuts_30 rfl 0 rfl ?_
      refine zr_gi C hf kg_X11_258 (fun _ _ _ => rfl) dX11_cuts_31 (fun x5 hf => ?_)
      exact zr_ireturn C hf hr (Nat.le_of_ble_eq_true rfl) (Nat.le_of_ble_eq_true rfl) dX11_cuts_34
    · refine zr_bipush (v := -102) C dX11_cuts_19 (by decide) ?_
      exact zr_ireturn C hf hr (Nat.le_of_ble_eq_true rfl) (Nat.le_of_ble_eq_true rfl) dX11_cuts_21
  · refine zr_bipush (v := -103) C dX11_cuts_7 (by decide) ?_
    exact zr_ireturn C hf hr (Nat.le_of_ble_eq_true rfl) (Nat.le_of_ble_eq_true rfl) dX11_cuts_9
theorem dX11_firstCut_0 : decode cX11_firstCut 0 = .ok (.aload_n 0, 1) := by decide +kernel
theorem dX11_firstCut_1 : decode cX11_firstCut 1 = .ok (.getfield 158, 3) := by decide +kernel
theorem dX11_firstCut_4 : decode cX11_firstCut 4 = .ok (.ifCond .ne 6, 3) := by decide +kernel
theorem dX11_firstCut_7 : decode cX11_firstCut 7 = .ok (.bipush (-103), 2) := by decide +kernel
theorem dX11_firstCut_9 : decode cX11_firstCut 9 = .ok (.ireturn, 1) := by decide +kernel
theorem dX11_firstCut_10 : decode cX11_firstCut 10 = .ok (.iconst 0, 1) := by decide +kernel
theorem dX11_firstCut_11 : decode cX11_firstCut 11 = .ok (.iload_n 1, 1) := by decide +kernel
theorem dX11_firstCut_12 : decode cX11_firstCut 12 = .ok (.iload_n 2, 1) := by decide +kernel
theorem dX11_firstCut_13 : decode cX11_firstCut 13 = .ok (.invokestatic 267, 3) := by decide +kernel
theorem dX11_firstCut_16 : decode cX11_firstCut 16 = .ok (.ifCond .ne 6, 3) := by decide +kernel
theorem dX11_firstCut_19 : decode cX11_firstCut 19 = .ok (.bipush (-102), 2) := by decide +kernel
theorem dX11_firstCut_21 : decode cX11_firstCut 21 = .ok (.ireturn, 1) := by decide +kernel
theorem dX11_firstCut_22 : decode cX11_firstCut 22 = .ok (.aload_n 0, 1) := by decide +kernel
theorem dX11_firstCut_23 : decode cX11_firstCut 23 = .ok (.bipush 100, 2) := by decide +kernel
theorem dX11_firstCut_25 : decode cX11_firstCut 25 = .ok (.iload_n 1, 1) := by decide +kernel
theorem dX11_firstCut_26 : decode cX11_firstCut 26 = .ok (.iload_n 2, 1) := by decide +kernel
theorem dX11_firstCut_27 : decode cX11_firstCut 27 = .ok (.iconst (-1), 1) := by decide +kernel
theorem dX11_firstCut_28 : decode cX11_firstCut 28 = .ok (.invokevirtual 270, 3) := by decide +kernel
theorem dX11_firstCut_31 : decode cX11_firstCut 31 = .ok (.aload_n 0, 1) := by decide +kernel
theorem dX11_firstCut_32 : decode cX11_firstCut 32 = .ok (.getfield 261, 3) := by decide +kernel
theorem dX11_firstCut_35 : decode cX11_firstCut 35 = .ok (.ireturn, 1) := by decide +kernel
set_option maxHeartbeats 4000000 in
set_option maxRecDepth 100000 in
theorem c_X11_firstCut (l : Launch) (E : zE) (n : Nat) (h : zH) (a0 : Nat) (p0 : Int32) (p1 : Int32) (res : Int32 × zH) (hf : F_X11_firstCut n h a0 p0 p1 = some res) : Met l yX11_firstCut (zw yX11_firstCut cX11_firstCut 3 (some .int)) ({ frames := 3, cells := 0, slots := 0, locals := 73 } : Room) (zPc E h [.ref (zB E + a0), .int p0, .int p1]) (zQc E res.2 (some (.int res.1))) 0 0 (zfr E) := by
  refine zmet (lo := [(0, .ref (zB E + a0)), (1, .int p0), (2, .int p1)]) (by decide +kernel) (Nat.le_of_ble_eq_true rfl) rfl ?_
  intro p e s m args below meth c C hr hin
  unfold F_X11_firstCut at hf
  refine zr_aload_n C dX11_firstCut_0 rfl 0 rfl ?_
  refine zr_gi C hf kg_X11_158 (fun _ _ _ => rfl) dX11_firstCut_1 (fun x1 hf => ?_)
  refine zr_if_ne (tgt := 10) C hf dX11_firstCut_4 (by decide) (fun hf => ?_) (fun hf => ?_)
  · refine zr_iconst (v := 0) C dX11_firstCut_10 (by decide) ?_
    refine zr_iload_n C dX11_firstCut_11 rfl 1 rfl ?_
    refine zr_iload_n C dX11_firstCut_12 rfl 2 rfl ?_
    refine zr_callSi (As := [.int (0 : Int32), .int p0, .int p1]) (rest := []) C hf (fun x hx => c_X11_areYears l E n h (0 : Int32) p0 p1 x hx) ks_X11_267 rfl rfl (Nat.le_of_ble_eq_true rfl) ⟨rfl, rfl⟩ ⟨Nat.le_of_ble_eq_true rfl, Nat.le_of_ble_eq_true rfl⟩ ⟨Nat.le_of_ble_eq_true rfl, Nat.le_of_ble_eq_true rfl⟩ dX11_firstCut_13 (fun x3 h2 hf => ?_)
    refine zr_if_ne (tgt := 22) C hf dX11_firstCut_16 (by decide) (fun hf => ?_) (fun hf => ?_)
    · refine zr_aload_n C dX11_firstCut_22 rfl 0 rfl ?_
      refine zr_bipush (v := 100) C dX11_firstCut_23 (by decide) ?_
      refine zr_iload_n C dX11_firstCut_25 rfl 1 rfl ?_
      refine zr_iload_n C dX11_firstCut_26 rfl 2 rfl ?_
      refine zr_iconst (v := -1) C dX11_firstCut_27 (by decide) ?_
      refine zr_callVv (As := [.int (100 : Int32), .int p0, .int p1, .int (-1 : Int32)]) (rest := []) C hf (fun x hx => c_X11_layYears l E n h2 a0 (100 : Int32) p0 p1 (-1 : Int32) x hx) kv_X11_270 rfl rfl (Nat.le_of_ble_eq_true rfl) ⟨rfl, rfl⟩ ⟨Nat.le_of_ble_eq_true rfl, Nat.le_of_ble_eq_true rfl⟩ ⟨Nat.le_of_ble_eq_true rfl, Nat.le_of_ble_eq_true rfl⟩ dX11_firstCut_28 (fun _ h4 hf => ?_)
      refine zr_aload_n C dX11_firstCut_31 rfl 0 rfl ?_
      refine zr_gi C hf kg_X11_261 (fun _ _ _ => rfl) dX11_firstCut_32 (fun x5 hf => ?_)
      exact zr_ireturn C hf hr (Nat.le_of_ble_eq_true rfl) (Nat.le_of_ble_eq_true rfl) dX11_firstCut_35
    · refine zr_bipush (v := -102) C dX11_firstCut_19 (by decide) ?_
      exact zr_ireturn C hf hr (Nat.le_of_ble_eq_true rfl) (Nat.le_of_ble_eq_true rfl) dX11_firstCut_21
  · refine zr_bipush (v := -103) C dX11_firstCut_7 (by decide) ?_
    exact zr_ireturn C hf hr (Nat.le_of_ble_eq_true rfl) (Nat.le_of_ble_eq_true rfl) dX11_firstCut_9
