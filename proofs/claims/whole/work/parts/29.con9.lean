theorem dX11_saves_0 : decode cX11_saves 0 = .ok (.aload_n 0, 1) := by decide +kernel
theorem dX11_saves_1 : decode cX11_saves 1 = .ok (.getfield 158, 3) := by decide +kernel
theorem dX11_saves_4 : decode cX11_saves 4 = .ok (.ifCond .ne 6, 3) := by decide +kernel
theorem dX11_saves_7 : decode cX11_saves 7 = .ok (.bipush (-103), 2) := by decide +kernel
theorem dX11_saves_9 : decode cX11_saves 9 = .ok (.ireturn, 1) := by decide +kernel
theorem dX11_saves_10 : decode cX11_saves 10 = .ok (.iload_n 1, 1) := by decide +kernel
theorem dX11_saves_11 : decode cX11_saves 11 = .ok (.iload_n 2, 1) := by decide +kernel
theorem dX11_saves_12 : decode cX11_saves 12 = .ok (.iload_n 3, 1) := by decide +kernel
theorem dX11_saves_13 : decode cX11_saves 13 = .ok (.invokestatic 267, 3) := by decide +kernel
theorem dX11_saves_16 : decode cX11_saves 16 = .ok (.ifCond .ne 6, 3) := by decide +kernel
theorem dX11_saves_19 : decode cX11_saves 19 = .ok (.bipush (-102), 2) := by decide +kernel
theorem dX11_saves_21 : decode cX11_saves 21 = .ok (.ireturn, 1) := by decide +kernel
theorem dX11_saves_22 : decode cX11_saves 22 = .ok (.iconst (-1), 1) := by decide +kernel
theorem dX11_saves_23 : decode cX11_saves 23 = .ok (.istore 4, 2) := by decide +kernel
theorem dX11_saves_25 : decode cX11_saves 25 = .ok (.iconst 0, 1) := by decide +kernel
theorem dX11_saves_26 : decode cX11_saves 26 = .ok (.istore 5, 2) := by decide +kernel
theorem dX11_saves_28 : decode cX11_saves 28 = .ok (.iconst 0, 1) := by decide +kernel
theorem dX11_saves_29 : decode cX11_saves 29 = .ok (.istore 6, 2) := by decide +kernel
theorem dX11_saves_31 : decode cX11_saves 31 = .ok (.iconst 1, 1) := by decide +kernel
theorem dX11_saves_32 : decode cX11_saves 32 = .ok (.istore 7, 2) := by decide +kernel
theorem dX11_saves_34 : decode cX11_saves 34 = .ok (.iload 7, 2) := by decide +kernel
theorem dX11_saves_36 : decode cX11_saves 36 = .ok (.aload_n 0, 1) := by decide +kernel
theorem dX11_saves_37 : decode cX11_saves 37 = .ok (.getfield 158, 3) := by decide +kernel
theorem dX11_saves_40 : decode cX11_saves 40 = .ok (.iconst 1, 1) := by decide +kernel
theorem dX11_saves_41 : decode cX11_saves 41 = .ok (.isub, 1) := by decide +kernel
theorem dX11_saves_42 : decode cX11_saves 42 = .ok (.if_icmp .ge 152, 3) := by decide +kernel
theorem dX11_saves_45 : decode cX11_saves 45 = .ok (.aload_n 0, 1) := by decide +kernel
theorem dX11_saves_46 : decode cX11_saves 46 = .ok (.getfield 64, 3) := by decide +kernel
theorem dX11_saves_49 : decode cX11_saves 49 = .ok (.iload 7, 2) := by decide +kernel
theorem dX11_saves_51 : decode cX11_saves 51 = .ok (.baload, 1) := by decide +kernel
theorem dX11_saves_52 : decode cX11_saves 52 = .ok (.ifCond .ne 136, 3) := by decide +kernel
theorem dX11_saves_55 : decode cX11_saves 55 = .ok (.aload_n 0, 1) := by decide +kernel
theorem dX11_saves_56 : decode cX11_saves 56 = .ok (.iload_n 1, 1) := by decide +kernel
theorem dX11_saves_57 : decode cX11_saves 57 = .ok (.iload_n 2, 1) := by decide +kernel
theorem dX11_saves_58 : decode cX11_saves 58 = .ok (.iload_n 3, 1) := by decide +kernel
theorem dX11_saves_59 : decode cX11_saves 59 = .ok (.iload 7, 2) := by decide +kernel
theorem dX11_saves_61 : decode cX11_saves 61 = .ok (.invokevirtual 270, 3) := by decide +kernel
theorem dX11_saves_64 : decode cX11_saves 64 = .ok (.aload_n 0, 1) := by decide +kernel
theorem dX11_saves_65 : decode cX11_saves 65 = .ok (.invokevirtual 252, 3) := by decide +kernel
theorem dX11_saves_68 : decode cX11_saves 68 = .ok (.iconst 0, 1) := by decide +kernel
theorem dX11_saves_69 : decode cX11_saves 69 = .ok (.istore 8, 2) := by decide +kernel
theorem dX11_saves_71 : decode cX11_saves 71 = .ok (.iconst 1, 1) := by decide +kernel
theorem dX11_saves_72 : decode cX11_saves 72 = .ok (.istore 9, 2) := by decide +kernel
theorem dX11_saves_74 : decode cX11_saves 74 = .ok (.iload 9, 2) := by decide +kernel
theorem dX11_saves_76 : decode cX11_saves 76 = .ok (.aload_n 0, 1) := by decide +kernel
theorem dX11_saves_77 : decode cX11_saves 77 = .ok (.getfield 158, 3) := by decide +kernel
theorem dX11_saves_80 : decode cX11_saves 80 = .ok (.iconst 1, 1) := by decide +kernel
theorem dX11_saves_81 : decode cX11_saves 81 = .ok (.isub, 1) := by decide +kernel
theorem dX11_saves_82 : decode cX11_saves 82 = .ok (.if_icmp .ge 24, 3) := by decide +kernel
theorem dX11_saves_85 : decode cX11_saves 85 = .ok (.iload 8, 2) := by decide +kernel
theorem dX11_saves_87 : decode cX11_saves 87 = .ok (.aload_n 0, 1) := by decide +kernel
theorem dX11_saves_88 : decode cX11_saves 88 = .ok (.getfield 102, 3) := by decide +kernel
theorem dX11_saves_91 : decode cX11_saves 91 = .ok (.iload 9, 2) := by decide +kernel
theorem dX11_saves_93 : decode cX11_saves 93 = .ok (.iaload, 1) := by decide +kernel
theorem dX11_saves_94 : decode cX11_saves 94 = .ok (.invokestatic 232, 3) := by decide +kernel
theorem dX11_saves_97 : decode cX11_saves 97 = .ok (.iadd, 1) := by decide +kernel
theorem dX11_saves_98 : decode cX11_saves 98 = .ok (.istore 8, 2) := by decide +kernel
theorem dX11_saves_100 : decode cX11_saves 100 = .ok (.iinc 9 1, 3) := by decide +kernel
theorem dX11_saves_103 : decode cX11_saves 103 = .ok (.goto (-29), 3) := by decide +kernel
theorem dX11_saves_106 : decode cX11_saves 106 = .ok (.iload 4, 2) := by decide +kernel
theorem dX11_saves_108 : decode cX11_saves 108 = .ok (.iconst (-1), 1) := by decide +kernel
theorem dX11_saves_109 : decode cX11_saves 109 = .ok (.if_icmp .eq 28, 3) := by decide +kernel
theorem dX11_saves_112 : decode cX11_saves 112 = .ok (.aload_n 0, 1) := by decide +kernel
theorem dX11_saves_113 : decode cX11_saves 113 = .ok (.getfield 258, 3) := by decide +kernel
theorem dX11_saves_116 : decode cX11_saves 116 = .ok (.iload 5, 2) := by decide +kernel
theorem dX11_saves_118 : decode cX11_saves 118 = .ok (.if_icmp .lt 19, 3) := by decide +kernel
theorem dX11_saves_121 : decode cX11_saves 121 = .ok (.aload_n 0, 1) := by decide +kernel
theorem dX11_saves_122 : decode cX11_saves 122 = .ok (.getfield 258, 3) := by decide +kernel
theorem dX11_saves_125 : decode cX11_saves 125 = .ok (.iload 5, 2) := by decide +kernel
theorem dX11_saves_127 : decode cX11_saves 127 = .ok (.if_icmp .ne 14, 3) := by decide +kernel
theorem dX11_saves_130 : decode cX11_saves 130 = .ok (.iload 8, 2) := by decide +kernel
theorem dX11_saves_132 : decode cX11_saves 132 = .ok (.iload 6, 2) := by decide +kernel
theorem dX11_saves_134 : decode cX11_saves 134 = .ok (.if_icmp .ge 7, 3) := by decide +kernel
theorem dX11_saves_137 : decode cX11_saves 137 = .ok (.iconst 1, 1) := by decide +kernel
theorem dX11_saves_138 : decode cX11_saves 138 = .ok (.goto 4, 3) := by decide +kernel
theorem dX11_saves_141 : decode cX11_saves 141 = .ok (.iconst 0, 1) := by decide +kernel
theorem dX11_saves_142 : decode cX11_saves 142 = .ok (.istore 9, 2) := by decide +kernel
theorem dX11_saves_144 : decode cX11_saves 144 = .ok (.iload 9, 2) := by decide +kernel
theorem dX11_saves_146 : decode cX11_saves 146 = .ok (.ifCond .eq 8, 3) := by decide +kernel
theorem dX11_saves_149 : decode cX11_saves 149 = .ok (.iload 7, 2) := by decide +kernel
theorem dX11_saves_151 : decode cX11_saves 151 = .ok (.goto 5, 3) := by decide +kernel
theorem dX11_saves_154 : decode cX11_saves 154 = .ok (.iload 4, 2) := by decide +kernel
theorem dX11_saves_156 : decode cX11_saves 156 = .ok (.istore 4, 2) := by decide +kernel
theorem dX11_saves_158 : decode cX11_saves 158 = .ok (.iload 9, 2) := by decide +kernel
theorem dX11_saves_160 : decode cX11_saves 160 = .ok (.ifCond .eq 10, 3) := by decide +kernel
theorem dX11_saves_163 : decode cX11_saves 163 = .ok (.aload_n 0, 1) := by decide +kernel
theorem dX11_saves_164 : decode cX11_saves 164 = .ok (.getfield 258, 3) := by decide +kernel
theorem dX11_saves_167 : decode cX11_saves 167 = .ok (.goto 5, 3) := by decide +kernel
theorem dX11_saves_170 : decode cX11_saves 170 = .ok (.iload 5, 2) := by decide +kernel
theorem dX11_saves_172 : decode cX11_saves 172 = .ok (.istore 5, 2) := by decide +kernel
theorem dX11_saves_174 : decode cX11_saves 174 = .ok (.iload 9, 2) := by decide +kernel
theorem dX11_saves_176 : decode cX11_saves 176 = .ok (.ifCond .eq 8, 3) := by decide +kernel
theorem dX11_saves_179 : decode cX11_saves 179 = .ok (.iload 8, 2) := by decide +kernel
theorem dX11_saves_181 : decode cX11_saves 181 = .ok (.goto 5, 3) := by decide +kernel
theorem dX11_saves_184 : decode cX11_saves 184 = .ok (.iload 6, 2) := by decide +kernel
theorem dX11_saves_186 : decode cX11_saves 186 = .ok (.istore 6, 2) := by decide +kernel
theorem dX11_saves_188 : decode cX11_saves 188 = .ok (.iinc 7 1, 3) := by decide +kernel
theorem dX11_saves_191 : decode cX11_saves 191 = .ok (.goto (-157), 3) := by decide +kernel
theorem dX11_saves_194 : decode cX11_saves 194 = .ok (.iload 4, 2) := by decide +kernel
theorem dX11_saves_196 : decode cX11_saves 196 = .ok (.ireturn, 1) := by decide +kernel
set_option maxHeartbeats 4000000 in
set_option maxRecDepth 100000 in
theorem c_X11_saves (l : Launch) (E : zE) (n : Nat) (h : zH) (a0 : Nat) (p0 : Int32) (p1 : Int32) (p2 : Int32) (res : Int32 × zH) (hf : F_X11_saves n h a0 p0 p1 p2 = some res) : Met l yX11_saves (zw yX11_saves cX11_saves 10 (some .int)) ({ frames := 3, cells := 0, slots := 0, locals := 73 } : Room) (zPc E h [.ref (zB E + a0), .int p0, .int p1, .int p2]) (zQc E res.2 (some (.int res.1))) 0 0 (zfr E) := by
  refine zmet (lo := [(0, .ref (zB E + a0)), (1, .int p0), (2, .int p1), (3, .int p2)]) (by decide +kernel) (Nat.le_of_ble_eq_true rfl) rfl ?_
  intro p e s m args below meth c C hr hin
  unfold F_X11_saves at hf
  refine zr_aload_n C dX11_saves_0 rfl 0 rfl ?_
  refine zr_gi C hf kg_X11_158 (fun _ _ _ => rfl) dX11_saves_1 (fun x1 hf => ?_)
  refine zr_if_ne (tgt := 10) C hf dX11_saves_4 (by decide) (fun hf => ?_) (fun hf => ?_)
  · refine zr_iload_n C dX11_saves_10 rfl 1 rfl ?_
    refine zr_iload_n C dX11_saves_11 rfl 2 rfl ?_
    refine zr_iload_n C dX11_saves_12 rfl 3 rfl ?_
    refine zr_callSi (As := [.int p0, .int p1, .int p2]) (rest := []) C hf (fun x hx => c_X11_areYears l E n h p0 p1 p2 x hx) ks_X11_267 rfl rfl (Nat.le_of_ble_eq_true rfl) ⟨rfl, rfl⟩ ⟨Nat.le_of_ble_eq_true rfl, Nat.le_of_ble_eq_true rfl⟩ ⟨Nat.le_of_ble_eq_true rfl, Nat.le_of_ble_eq_true rfl⟩ dX11_saves_13 (fun x3 h2 hf => ?_)
    refine zr_if_ne (tgt := 22) C hf dX11_saves_16 (by decide) (fun hf => ?_) (fun hf => ?_)
    · refine zr_iconst (v := -1) C dX11_saves_22 (by decide) ?_
      refine zr_istore (lo2 := [(4, .int (-1 : Int32)), (0, .ref (zB E + a0)), (1, .int p0), (2, .int p1), (3, .int p2)]) C dX11_saves_23 (by decide) rfl ?_
      refine zr_iconst (v := 0) C dX11_saves_25 (by decide) ?_
      refine zr_istore (lo2 := [(5, .int (0 : Int32)), (4, .int (-1 : Int32)), (0, .ref (zB E + a0)), (1, .int p0), (2, .int p1), (3, .int p2)]) C dX11_saves_26 (by decide) rfl ?_
      refine zr_iconst (v := 0) C dX11_saves_28 (by decide) ?_
      refine zr_istore (lo2 := [(6, .int (0 : Int32)), (5, .int (0 : Int32)), (4, .int (-1 : Int32)), (0, .ref (zB E + a0)), (1, .int p0), (2, .int p1), (3, .int p2)]) C dX11_saves_29 (by decide) rfl ?_
      refine zr_iconst (v := 1) C dX11_saves_31 (by decide) ?_
      refine zr_istore (lo2 := [(7, .int (1 : Int32)), (6, .int (0 : Int32)), (5, .int (0 : Int32)), (4, .int (-1 : Int32)), (0, .ref (zB E + a0)), (1, .int p0), (2, .int p1), (3, .int p2)]) C dX11_saves_32 (by decide) rfl ?_
      have L34 : ∀ (fu : Nat) (x : zH × Int32 × Int32 × Int32 × Int32), zloop (fun kc x => F_X11_saves_B34 n kc x.1 a0 p0 p1 p2 x.2.1 x.2.2.1 x.2.2.2.1 x.2.2.2.2) fu x = some res → zW p l e (headSpec (zw yX11_saves cX11_saves 10 (some .int)) ({ frames := 3, cells := 0, slots := 0, locals := 73 } : Room)).room s m args below meth c E 10 (MQ below (zQc E res.2 (some (.int res.1))) args s 0 0 (zfr E)) 0 0 34 [(0, .ref (zB E + a0)), (1, .int p0), (2, .int p1), (3, .int p2), (4, .int x.2.1), (5, .int x.2.2.1), (6, .int x.2.2.2.1), (7, .int x.2.2.2.2)] [] x.1 := by
        refine z_loop _ ?_
        intro kc34 hk34 x hf
        obtain ⟨h130, x126, x127, x128, x129⟩ := x
        dsimp only at hf ⊢
        unfold F_X11_saves_B34 at hf
        have J188 : ∀ (h135 : zH) (x131 : Int32) (x132 : Int32) (x133 : Int32) (x134 : Int32), F_X11_saves_J188 n kc34 h135 a0 p0 p1 p2 x131 x132 x133 x134 = some res → zW p l e (headSpec (zw yX11_saves cX11_saves 10 (some .int)) ({ frames := 3, cells := 0, slots := 0, locals := 73 } : Room)).room s m args below meth c E 10 (MQ below (zQc E res.2 (some (.int res.1))) args s 0 0 (zfr E)) 0 0 188 [(0, .ref (zB E + a0)), (1, .int p0), (2, .int p1), (3, .int p2), (4, .int x131), (5, .int x132), (6, .int x133), (7, .int x134)] [] h135 := by
          intro h135 x131 x132 x133 x134 hf
          unfold F_X11_saves_J188 at hf
          refine zr_iinc (v0 := 1) (k := 7) (f := fun v => [(7, .int v), (0, .ref (zB E + a0)), (1, .int p0), (2, .int p1), (3, .int p2), (4, .int x131), (5, .int x132), (6, .int x133)]) C hf (by decide) dX11_saves_188 rfl (by decide) (fun v => rfl) (fun x136 hf => ?_)
          refine zr_goto (tgt := 34) C dX11_saves_191 (by decide) ?_
          refine zsub [1, 2, 3, 4, 5, 6, 7, 0] rfl ?_
          exact hk34 (h135, x131, x132, x133, x136) hf
        have J186 : ∀ (h141 : zH) (x137 : Int32) (x138 : Int32) (x139 : Int32) (x140 : Int32), F_X11_saves_J186 n kc34 h141 a0 p0 p1 p2 x137 x138 x139 x140 = some res → zW p l e (headSpec (zw yX11_saves cX11_saves 10 (some .int)) ({ frames := 3, cells := 0, slots := 0, locals := 73 } : Room)).room s m args below meth c E 10 (MQ below (zQc E res.2 (some (.int res.1))) args s 0 0 (zfr E)) 0 0 186 [(0, .ref (zB E + a0)), (1, .int p0), (2, .int p1), (3, .int p2), (4, .int x137), (5, .int x138), (7, .int x139)] [.int x140] h141 := by
          intro h141 x137 x138 x139 x140 hf
          unfold F_X11_saves_J186 at hf
          refine zr_istore (lo2 := [(6, .int x140), (0, .ref (zB E + a0)), (1, .int p0), (2, .int p1), (3, .int p2), (4, .int x137), (5, .int x138), (7, .int x139)]) C dX11_saves_186 (by decide) rfl ?_
          refine zsub [1, 2, 3, 4, 5, 6, 0, 7] rfl ?_
          exact J188 h141 x137 x138 x140 x139 hf
        have J172 : ∀ (h148 : zH) (x142 : Int32) (x143 : Int32) (x144 : Int32) (x145 : Int32) (x146 : Int32) (x147 : Int32), F_X11_saves_J172 n kc34 h148 a0 p0 p1 p2 x142 x143 x144 x145 x146 x147 = some res → zW p l e (headSpec (zw yX11_saves cX11_saves 10 (some .int)) ({ frames := 3, cells := 0, slots := 0, locals := 73 } : Room)).room s m args below meth c E 10 (MQ below (zQc E res.2 (some (.int res.1))) args s 0 0 (zfr E)) 0 0 172 [(0, .ref (zB E + a0)), (1, .int p0), (2, .int p1), (3, .int p2), (4, .int x142), (6, .int x143), (7, .int x144), (8, .int x145), (9, .int x146)] [.int x147] h148 := by
          intro h148 x142 x143 x144 x145 x146 x147 hf
          unfold F_X11_saves_J172 at hf
          refine zr_istore (lo2 := [(5, .int x147), (0, .ref (zB E + a0)), (1, .int p0), (2, .int p1), (3, .int p2), (4, .int x142), (6, .int x143), (7, .int x144), (8, .int x145), (9, .int x146)]) C dX11_saves_172 (by decide) rfl ?_
          refine zr_iload C dX11_saves_174 9 rfl ?_
          refine zr_if_eq (tgt := 184) C hf dX11_saves_176 (by decide) (fun hf => ?_) (fun hf => ?_)
          · refine zr_iload C dX11_saves_184 6 rfl ?_
            refine zsub [1, 2, 3, 4, 5, 0, 7] rfl ?_
            exact J186 h148 x142 x147 x144 x143 hf
          · refine zr_iload C dX11_saves_179 8 rfl ?_
            refine zr_goto (tgt := 186) C dX11_saves_181 (by decide) ?_
            refine zsub [1, 2, 3, 4, 5, 0, 7] rfl ?_
            exact J186 h148 x142 x147 x144 x145 hf
        have J156 : ∀ (h155 : zH) (x149 : Int32) (x150 : Int32) (x151 : Int32) (x152 : Int32) (x153 : Int32) (x154 : Int32), F_X11_saves_J156 n kc34 h155 a0 p0 p1 p2 x149 x150 x151 x152 x153 x154 = some res → zW p l e (headSpec (zw yX11_saves cX11_saves 10 (some .int)) ({ frames := 3, cells := 0, slots := 0, locals := 73 } : Room)).room s m args below meth c E 10 (MQ below (zQc E res.2 (some (.int res.1))) args s 0 0 (zfr E)) 0 0 156 [(0, .ref (zB E + a0)), (1, .int p0), (2, .int p1), (3, .int p2), (5, .int x149), (6, .int x150), (7, .int x151), (8, .int x152), (9, .int x153)] [.int x154] h155 := by
          intro h155 x149 x150 x151 x152 x153 x154 hf
          unfold F_X11_saves_J156 at hf
          refine zr_istore (lo2 := [(4, .int x154), (0, .ref (zB E + a0)), (1, .int p0), (2, .int p1), (3, .int p2), (5, .int x149), (6, .int x150), (7, .int x151), (8, .int x152), (9, .int x153)]) C dX11_saves_156 (by decide) rfl ?_
          refine zr_iload C dX11_saves_158 9 rfl ?_
          refine zr_if_eq (tgt := 170) C hf dX11_saves_160 (by decide) (fun hf => ?_) (fun hf => ?_)
          · refine zr_iload C dX11_saves_170 5 rfl ?_
            refine zsub [1, 2, 3, 4, 0, 6, 7, 8, 9] rfl ?_
            exact J172 h155 x154 x150 x151 x152 x153 x149 hf
          · refine zr_aload_n C dX11_saves_163 rfl 1 rfl ?_
            refine zr_gi C hf kg_X11_258 (fun _ _ _ => rfl) dX11_saves_164 (fun x156 hf => ?_)
            refine zr_goto (tgt := 172) C dX11_saves_167 (by decide) ?_
            refine zsub [1, 2, 3, 4, 0, 6, 7, 8, 9] rfl ?_
            exact J172 h155 x154 x150 x151 x152 x153 x156 hf
        have J142 : ∀ (h163 : zH) (x157 : Int32) (x158 : Int32) (x159 : Int32) (x160 : Int32) (x161 : Int32) (x162 : Int32), F_X11_saves_J142 n kc34 h163 a0 p0 p1 p2 x157 x158 x159 x160 x161 x162 = some res → zW p l e (headSpec (zw yX11_saves cX11_saves 10 (some .int)) ({ frames := 3, cells := 0, slots := 0, locals := 73 } : Room)).room s m args below meth c E 10 (MQ below (zQc E res.2 (some (.int res.1))) args s 0 0 (zfr E)) 0 0 142 [(0, .ref (zB E + a0)), (1, .int p0), (2, .int p1), (3, .int p2), (4, .int x157), (5, .int x158), (6, .int x159), (7, .int x160), (8, .int x161)] [.int x162] h163 := by
          intro h163 x157 x158 x159 x160 x161 x162 hf
          unfold F_X11_saves_J142 at hf
          refine zr_istore (lo2 := [(9, .int x162), (0, .ref (zB E + a0)), (1, .int p0), (2, .int p1), (3, .int p2), (4, .int x157), (5, .int x158), (6, .int x159), (7, .int x160), (8, .int x161)]) C dX11_saves_142 (by decide) rfl ?_
          refine zr_iload C dX11_saves_144 0 rfl ?_
          refine zr_if_eq (tgt := 154) C hf dX11_saves_146 (by decide) (fun hf => ?_) (fun hf => ?_)
          · refine zr_iload C dX11_saves_154 5 rfl ?_
            refine zsub [1, 2, 3, 4, 6, 7, 8, 9, 0] rfl ?_
            exact J156 h163 x158 x159 x160 x161 x162 x157 hf
          · refine zr_iload C dX11_saves_149 8 rfl ?_
            refine zr_goto (tgt := 156) C dX11_saves_151 (by decide) ?_
            refine zsub [1, 2, 3, 4, 6, 7, 8, 9, 0] rfl ?_
            exact J156 h163 x158 x159 x160 x161 x162 x160 hf
        have J141 : ∀ (h169 : zH) (x164 : Int32) (x165 : Int32) (x166 : Int32) (x167 : Int32) (x168 : Int32), F_X11_saves_J141 n kc34 h169 a0 p0 p1 p2 x164 x165 x166 x167 x168 = some res → zW p l e (headSpec (zw yX11_saves cX11_saves 10 (some .int)) ({ frames := 3, cells := 0, slots := 0, locals := 73 } : Room)).room s m args below meth c E 10 (MQ below (zQc E res.2 (some (.int res.1))) args s 0 0 (zfr E)) 0 0 141 [(0, .ref (zB E + a0)), (1, .int p0), (2, .int p1), (3, .int p2), (4, .int x164), (5, .int x165), (6, .int x166), (7, .int x167), (8, .int x168)] [] h169 := by
          intro h169 x164 x165 x166 x167 x168 hf
          unfold F_X11_saves_J141 at hf
          refine zr_iconst (v := 0) C dX11_saves_141 (by decide) ?_
          exact J142 h169 x164 x165 x166 x167 x168 (0 : Int32) hf
        have J137 : ∀ (h175 : zH) (x170 : Int32) (x171 : Int32) (x172 : Int32) (x173 : Int32) (x174 : Int32), F_X11_saves_J137 n kc34 h175 a0 p0 p1 p2 x170 x171 x172 x173 x174 = some res → zW p l e (headSpec (zw yX11_saves cX11_saves 10 (some .int)) ({ frames := 3, cells := 0, slots := 0, locals := 73 } : Room)).room s m args below meth c E 10 (MQ below (zQc E res.2 (some (.int res.1))) args s 0 0 (zfr E)) 0 0 137 [(0, .ref (zB E + a0)), (1, .int p0), (2, .int p1), (3, .int p2), (4, .int x170), (5, .int x171), (6, .int x172), (7, .int x173), (8, .int x174)] [] h175 := by
          intro h175 x170 x171 x172 x173 x174 hf
          unfold F_X11_saves_J137 at hf
          refine zr_iconst (v := 1) C dX11_saves_137 (by decide) ?_
          refine zr_goto (tgt := 142) C dX11_saves_138 (by decide) ?_
          exact J142 h175 x170 x171 x172 x173 x174 (1 : Int32) hf
        refine zr_iload C dX11_saves_34 7 rfl ?_
        refine zr_aload_n C dX11_saves_36 rfl 0 rfl ?_
        refine zr_gi C hf kg_X11_158 (fun _ _ _ => rfl) dX11_saves_37 (fun x176 hf => ?_)
        refine zr_iconst (v := 1) C dX11_saves_40 (by decide) ?_
        refine zr_isub C hf dX11_saves_41 (fun x177 hf => ?_)
        refine zr_icmp_ge (tgt := 194) C hf dX11_saves_42 (by decide) (fun hf => ?_) (fun hf => ?_)
        · refine zr_iload C dX11_saves_194 4 rfl ?_
          exact zr_ireturn C hf hr (Nat.le_of_ble_eq_true rfl) (Nat.le_of_ble_eq_true rfl) dX11_saves_196
        · refine zr_aload_n C dX11_saves_45 rfl 0 rfl ?_
          refine zr_gr C hf kg_X11_64 (fun _ _ _ => rfl) dX11_saves_46 (fun w178 hf => ?_)
          refine zr_iload C dX11_saves_49 7 rfl ?_
          refine zr_zaload C hf dX11_saves_51 (fun x179 hf => ?_)
          refine zr_if_ne (tgt := 188) C hf dX11_saves_52 (by decide) (fun hf => ?_) (fun hf => ?_)
          · exact J188 h130 x126 x127 x128 x129 hf
          · refine zr_aload_n C dX11_saves_55 rfl 0 rfl ?_
            refine zr_iload_n C dX11_saves_56 rfl 1 rfl ?_
            refine zr_iload_n C dX11_saves_57 rfl 2 rfl ?_
            refine zr_iload_n C dX11_saves_58 rfl 3 rfl ?_
            refine zr_iload C dX11_saves_59 7 rfl ?_
            refine zr_callVv (As := [.int p0, .int p1, .int p2, .int x129]) (rest := []) C hf (fun x hx => c_X11_layYears l E n h130 a0 p0 p1 p2 x129 x hx) kv_X11_270 rfl rfl (Nat.le_of_ble_eq_true rfl) ⟨rfl, rfl⟩ ⟨Nat.le_of_ble_eq_true rfl, Nat.le_of_ble_eq_true rfl⟩ ⟨Nat.le_of_ble_eq_true rfl, Nat.le_of_ble_eq_true rfl⟩ dX11_saves_61 (fun _ h180 hf => ?_)
            refine zr_aload_n C dX11_saves_64 rfl 0 rfl ?_
            refine zr_callVv (As := []) (rest := []) C hf (fun x hx => c_X11_layBends l E n h180 a0 x hx) kv_X11_252 rfl rfl (Nat.le_of_ble_eq_true rfl) ⟨rfl, rfl⟩ ⟨Nat.le_of_ble_eq_true rfl, Nat.le_of_ble_eq_true rfl⟩ ⟨Nat.le_of_ble_eq_true rfl, Nat.le_of_ble_eq_true rfl⟩ dX11_saves_65 (fun _ h181 hf => ?_)
            refine zr_iconst (v := 0) C dX11_saves_68 (by decide) ?_
            refine zr_istore (lo2 := [(8, .int (0 : Int32)), (0, .ref (zB E + a0)), (1, .int p0), (2, .int p1), (3, .int p2), (4, .int x126), (5, .int x127), (6, .int x128), (7, .int x129)]) C dX11_saves_69 (by decide) rfl ?_
            refine zr_iconst (v := 1) C dX11_saves_71 (by decide) ?_
            refine zr_istore (lo2 := [(9, .int (1 : Int32)), (8, .int (0 : Int32)), (0, .ref (zB E + a0)), (1, .int p0), (2, .int p1), (3, .int p2), (4, .int x126), (5, .int x127), (6, .int x128), (7, .int x129)]) C dX11_saves_72 (by decide) rfl ?_
            have L74 : ∀ (fu : Nat) (x : zH × Int32 × Int32), zloop (fun kc x => F_X11_saves_B74 n kc34 kc x.1 a0 p0 p1 p2 x126 x127 x128 x129 x.2.1 x.2.2) fu x = some res → zW p l e (headSpec (zw yX11_saves cX11_saves 10 (some .int)) ({ frames := 3, cells := 0, slots := 0, locals := 73 } : Room)).room s m args below meth c E 10 (MQ below (zQc E res.2 (some (.int res.1))) args s 0 0 (zfr E)) 0 0 74 [(0, .ref (zB E + a0)), (1, .int p0), (2, .int p1), (3, .int p2), (4, .int x126), (5, .int x127), (6, .int x128), (7, .int x129), (8, .int x.2.1), (9, .int x.2.2)] [] x.1 := by
              refine z_loop _ ?_
              intro kc74 hk74 x hf
              obtain ⟨h184, x182, x183⟩ := x
              dsimp only at hf ⊢
              unfold F_X11_saves_B74 at hf
              refine zr_iload C dX11_saves_74 9 rfl ?_
              refine zr_aload_n C dX11_saves_76 rfl 0 rfl ?_
              refine zr_gi C hf kg_X11_158 (fun _ _ _ => rfl) dX11_saves_77 (fun x185 hf => ?_)
              refine zr_iconst (v := 1) C dX11_saves_80 (by decide) ?_
              refine zr_isub C hf dX11_saves_81 (fun x186 hf => ?_)
              refine zr_icmp_ge (tgt := 106) C hf dX11_saves_82 (by decide) (fun hf => ?_) (fun hf => ?_)
              · refine zr_iload C dX11_saves_106 4 rfl ?_
                refine zr_iconst (v := -1) C dX11_saves_108 (by decide) ?_
                refine zr_icmp_eq (tgt := 137) C hf dX11_saves_109 (by decide) (fun hf => ?_) (fun hf => ?_)
                · refine zsub [0, 1, 2, 3, 4, 5, 6, 7, 8] rfl ?_
                  exact J137 h184 x126 x127 x128 x129 x182 hf
                · refine zr_aload_n C dX11_saves_112 rfl 0 rfl ?_
                  refine zr_gi C hf kg_X11_258 (fun _ _ _ => rfl) dX11_saves_113 (fun x187 hf => ?_)
                  refine zr_iload C dX11_saves_116 5 rfl ?_
                  refine zr_icmp_lt (tgt := 137) C hf dX11_saves_118 (by decide) (fun hf => ?_) (fun hf => ?_)
                  · refine zsub [0, 1, 2, 3, 4, 5, 6, 7, 8] rfl ?_
                    exact J137 h184 x126 x127 x128 x129 x182 hf
                  · refine zr_aload_n C dX11_saves_121 rfl 0 rfl ?_
                    refine zr_gi C hf kg_X11_258 (fun _ _ _ => rfl) dX11_saves_122 (fun x188 hf => ?_)
                    refine zr_iload C dX11_saves_125 5 rfl ?_
                    refine zr_icmp_ne (tgt := 141) C hf dX11_saves_127 (by decide) (fun hf => ?_) (fun hf => ?_)
                    · refine zsub [0, 1, 2, 3, 4, 5, 6, 7, 8] rfl ?_
                      exact J141 h184 x126 x127 x128 x129 x182 hf
                    · refine zr_iload C dX11_saves_130 8 rfl ?_
                      refine zr_iload C dX11_saves_132 6 rfl ?_
                      refine zr_icmp_ge (tgt := 141) C hf dX11_saves_134 (by decide) (fun hf => ?_) (fun hf => ?_)
                      · refine zsub [0, 1, 2, 3, 4, 5, 6, 7, 8] rfl ?_
                        exact J141 h184 x126 x127 x128 x129 x182 hf
                      · refine zsub [0, 1, 2, 3, 4, 5, 6, 7, 8] rfl ?_
                        exact J137 h184 x126 x127 x128 x129 x182 hf
              · refine zr_iload C dX11_saves_85 8 rfl ?_
                refine zr_aload_n C dX11_saves_87 rfl 0 rfl ?_
                refine zr_gr C hf kg_X11_102 (fun _ _ _ => rfl) dX11_saves_88 (fun w189 hf => ?_)
                refine zr_iload C dX11_saves_91 9 rfl ?_
                refine zr_iaload C hf dX11_saves_93 (fun x190 hf => ?_)
                refine zr_callSi (As := [.int x190]) (rest := [.int x182]) C hf (fun x hx => c_X11_size l E n h184 x190 x hx) ks_X11_232 rfl rfl (Nat.le_of_ble_eq_true rfl) ⟨rfl, rfl⟩ ⟨Nat.le_of_ble_eq_true rfl, Nat.le_of_ble_eq_true rfl⟩ ⟨Nat.le_of_ble_eq_true rfl, Nat.le_of_ble_eq_true rfl⟩ dX11_saves_94 (fun x192 h191 hf => ?_)
                refine zr_iadd C hf dX11_saves_97 (fun x193 hf => ?_)
                refine zr_istore (lo2 := [(8, .int x193), (0, .ref (zB E + a0)), (1, .int p0), (2, .int p1), (3, .int p2), (4, .int x126), (5, .int x127), (6, .int x128), (7, .int x129), (9, .int x183)]) C dX11_saves_98 (by decide) rfl ?_
                refine zr_iinc (v0 := 1) (k := 9) (f := fun v => [(9, .int v), (8, .int x193), (0, .ref (zB E + a0)), (1, .int p0), (2, .int p1), (3, .int p2), (4, .int x126), (5, .int x127), (6, .int x128), (7, .int x129)]) C hf (by decide) dX11_saves_100 rfl (by decide) (fun v => rfl) (fun x194 hf => ?_)
                refine zr_goto (tgt := 74) C dX11_saves_103 (by decide) ?_
                refine zsub [2, 3, 4, 5, 6, 7, 8, 9, 1, 0] rfl ?_
                exact hk74 (h191, x193, x194) hf
            refine zsub [2, 3, 4, 5, 6, 7, 8, 9, 1, 0] rfl ?_
            exact L74 n (h181, (0 : Int32), (1 : Int32)) hf
      refine zsub [4, 5, 6, 7, 3, 2, 1, 0] rfl ?_
      exact L34 n (h2, (-1 : Int32), (0 : Int32), (0 : Int32), (1 : Int32)) hf
    · refine zr_bipush (v := -102) C dX11_saves_19 (by decide) ?_
      exact zr_ireturn C hf hr (Nat.le_of_ble_eq_true rfl) (Nat.le_of_ble_eq_true rfl) dX11_saves_21
  · refine zr_bipush (v := -103) C dX11_saves_7 (by decide) ?_
    exact zr_ireturn C hf hr (Nat.le_of_ble_eq_true rfl) (Nat.le_of_ble_eq_true rfl) dX11_saves_9
theorem dX11_image_0 : decode cX11_image 0 = .ok (.aload_n 0, 1) := by decide +kernel
theorem dX11_image_1 : decode cX11_image 1 = .ok (.getfield 149, 3) := by decide +kernel
theorem dX11_image_4 : decode cX11_image 4 = .ok (.ifCond .ne 6, 3) := by decide +kernel
theorem dX11_image_7 : decode cX11_image 7 = .ok (.bipush (-103), 2) := by decide +kernel
theorem dX11_image_9 : decode cX11_image 9 = .ok (.ireturn, 1) := by decide +kernel
theorem dX11_image_10 : decode cX11_image 10 = .ok (.aload_n 0, 1) := by decide +kernel
theorem dX11_image_11 : decode cX11_image 11 = .ok (.iconst 1, 1) := by decide +kernel
theorem dX11_image_12 : decode cX11_image 12 = .ok (.putfield 274, 3) := by decide +kernel
theorem dX11_image_15 : decode cX11_image 15 = .ok (.aload_n 0, 1) := by decide +kernel
theorem dX11_image_16 : decode cX11_image 16 = .ok (.aload_n 0, 1) := by decide +kernel
theorem dX11_image_17 : decode cX11_image 17 = .ok (.getfield 152, 3) := by decide +kernel
theorem dX11_image_20 : decode cX11_image 20 = .ok (.putfield 277, 3) := by decide +kernel
theorem dX11_image_23 : decode cX11_image 23 = .ok (.aload_n 0, 1) := by decide +kernel
theorem dX11_image_24 : decode cX11_image 24 = .ok (.aload_n 0, 1) := by decide +kernel
theorem dX11_image_25 : decode cX11_image 25 = .ok (.getfield 146, 3) := by decide +kernel
theorem dX11_image_28 : decode cX11_image 28 = .ok (.putfield 280, 3) := by decide +kernel
theorem dX11_image_31 : decode cX11_image 31 = .ok (.iconst 0, 1) := by decide +kernel
theorem dX11_image_32 : decode cX11_image 32 = .ok (.istore_n 1, 1) := by decide +kernel
theorem dX11_image_33 : decode cX11_image 33 = .ok (.iload_n 1, 1) := by decide +kernel
theorem dX11_image_34 : decode cX11_image 34 = .ok (.bipush 24, 2) := by decide +kernel
theorem dX11_image_36 : decode cX11_image 36 = .ok (.if_icmp .ge 21, 3) := by decide +kernel
theorem dX11_image_39 : decode cX11_image 39 = .ok (.aload_n 0, 1) := by decide +kernel
theorem dX11_image_40 : decode cX11_image 40 = .ok (.getfield 72, 3) := by decide +kernel
theorem dX11_image_43 : decode cX11_image 43 = .ok (.iload_n 1, 1) := by decide +kernel
theorem dX11_image_44 : decode cX11_image 44 = .ok (.aload_n 0, 1) := by decide +kernel
theorem dX11_image_45 : decode cX11_image 45 = .ok (.getfield 13, 3) := by decide +kernel
theorem dX11_image_48 : decode cX11_image 48 = .ok (.iload_n 1, 1) := by decide +kernel
theorem dX11_image_49 : decode cX11_image 49 = .ok (.iaload, 1) := by decide +kernel
theorem dX11_image_50 : decode cX11_image 50 = .ok (.iastore, 1) := by decide +kernel
theorem dX11_image_51 : decode cX11_image 51 = .ok (.iinc 1 1, 3) := by decide +kernel
theorem dX11_image_54 : decode cX11_image 54 = .ok (.goto (-21), 3) := by decide +kernel
theorem dX11_image_57 : decode cX11_image 57 = .ok (.iconst 0, 1) := by decide +kernel
theorem dX11_image_58 : decode cX11_image 58 = .ok (.istore_n 1, 1) := by decide +kernel
theorem dX11_image_59 : decode cX11_image 59 = .ok (.iload_n 1, 1) := by decide +kernel
theorem dX11_image_60 : decode cX11_image 60 = .ok (.aload_n 0, 1) := by decide +kernel
theorem dX11_image_61 : decode cX11_image 61 = .ok (.getfield 146, 3) := by decide +kernel
theorem dX11_image_64 : decode cX11_image 64 = .ok (.if_icmp .ge 33, 3) := by decide +kernel
theorem dX11_image_67 : decode cX11_image 67 = .ok (.aload_n 0, 1) := by decide +kernel
theorem dX11_image_68 : decode cX11_image 68 = .ok (.getfield 75, 3) := by decide +kernel
theorem dX11_image_71 : decode cX11_image 71 = .ok (.iload_n 1, 1) := by decide +kernel
theorem dX11_image_72 : decode cX11_image 72 = .ok (.aload_n 0, 1) := by decide +kernel
theorem dX11_image_73 : decode cX11_image 73 = .ok (.getfield 25, 3) := by decide +kernel
theorem dX11_image_76 : decode cX11_image 76 = .ok (.iload_n 1, 1) := by decide +kernel
theorem dX11_image_77 : decode cX11_image 77 = .ok (.iaload, 1) := by decide +kernel
theorem dX11_image_78 : decode cX11_image 78 = .ok (.iastore, 1) := by decide +kernel
theorem dX11_image_79 : decode cX11_image 79 = .ok (.aload_n 0, 1) := by decide +kernel
theorem dX11_image_80 : decode cX11_image 80 = .ok (.getfield 78, 3) := by decide +kernel
theorem dX11_image_83 : decode cX11_image 83 = .ok (.iload_n 1, 1) := by decide +kernel
theorem dX11_image_84 : decode cX11_image 84 = .ok (.aload_n 0, 1) := by decide +kernel
theorem dX11_image_85 : decode cX11_image 85 = .ok (.getfield 37, 3) := by decide +kernel
theorem dX11_image_88 : decode cX11_image 88 = .ok (.iload_n 1, 1) := by decide +kernel
theorem dX11_image_89 : decode cX11_image 89 = .ok (.iaload, 1) := by decide +kernel
theorem dX11_image_90 : decode cX11_image 90 = .ok (.iastore, 1) := by decide +kernel
theorem dX11_image_91 : decode cX11_image 91 = .ok (.iinc 1 1, 3) := by decide +kernel
theorem dX11_image_94 : decode cX11_image 94 = .ok (.goto (-35), 3) := by decide +kernel
theorem dX11_image_97 : decode cX11_image 97 = .ok (.iconst 0, 1) := by decide +kernel
theorem dX11_image_98 : decode cX11_image 98 = .ok (.istore_n 1, 1) := by decide +kernel
theorem dX11_image_99 : decode cX11_image 99 = .ok (.iload_n 1, 1) := by decide +kernel
theorem dX11_image_100 : decode cX11_image 100 = .ok (.bipush 6, 2) := by decide +kernel
theorem dX11_image_102 : decode cX11_image 102 = .ok (.if_icmp .ge 21, 3) := by decide +kernel
theorem dX11_image_105 : decode cX11_image 105 = .ok (.aload_n 0, 1) := by decide +kernel
theorem dX11_image_106 : decode cX11_image 106 = .ok (.getfield 81, 3) := by decide +kernel
theorem dX11_image_109 : decode cX11_image 109 = .ok (.iload_n 1, 1) := by decide +kernel
theorem dX11_image_110 : decode cX11_image 110 = .ok (.aload_n 0, 1) := by decide +kernel
theorem dX11_image_111 : decode cX11_image 111 = .ok (.getfield 43, 3) := by decide +kernel
theorem dX11_image_114 : decode cX11_image 114 = .ok (.iload_n 1, 1) := by decide +kernel
theorem dX11_image_115 : decode cX11_image 115 = .ok (.iaload, 1) := by decide +kernel
theorem dX11_image_116 : decode cX11_image 116 = .ok (.iastore, 1) := by decide +kernel
theorem dX11_image_117 : decode cX11_image 117 = .ok (.iinc 1 1, 3) := by decide +kernel
theorem dX11_image_120 : decode cX11_image 120 = .ok (.goto (-21), 3) := by decide +kernel
theorem dX11_image_123 : decode cX11_image 123 = .ok (.aload_n 0, 1) := by decide +kernel
theorem dX11_image_124 : decode cX11_image 124 = .ok (.getfield 146, 3) := by decide +kernel
theorem dX11_image_127 : decode cX11_image 127 = .ok (.ireturn, 1) := by decide +kernel
set_option maxHeartbeats 4000000 in
set_option maxRecDepth 100000 in
theorem c_X11_image (l : Launch) (E : zE) (n : Nat) (h : zH) (a0 : Nat) (res : Int32 × zH) (hf : F_X11_image n h a0 = some res) : Met l yX11_image (zw yX11_image cX11_image 2 (some .int)) ({ frames := 0, cells := 0, slots := 0, locals := 0 } : Room) (zPc E h [.ref (zB E + a0)]) (zQc E res.2 (some (.int res.1))) 0 0 (zfr E) := by
  refine zmet (lo := [(0, .ref (zB E + a0))]) (by decide +kernel) (Nat.le_of_ble_eq_true rfl) rfl ?_
  intro p e s m args below meth c C hr hin
  unfold F_X11_image at hf
  refine zr_aload_n C dX11_image_0 rfl 0 rfl ?_
  refine zr_gi C hf kg_X11_149 (fun _ _ _ => rfl) dX11_image_1 (fun x1 hf => ?_)
  refine zr_if_ne (tgt := 10) C hf dX11_image_4 (by decide) (fun hf => ?_) (fun hf => ?_)
  · refine zr_aload_n C dX11_image_10 rfl 0 rfl ?_
    refine zr_iconst (v := 1) C dX11_image_11 (by decide) ?_
    refine zr_sb C hf kp_X11_274 (fun _ _ _ => rfl) rfl dX11_image_12 (fun h2 hf => ?_)
    refine zr_aload_n C dX11_image_15 rfl 0 rfl ?_
    refine zr_aload_n C dX11_image_16 rfl 0 rfl ?_
    refine zr_gi C hf kg_X11_152 (fun _ _ _ => rfl) dX11_image_17 (fun x3 hf => ?_)
    refine zr_si C hf kp_X11_277 (fun _ _ _ => rfl) rfl dX11_image_20 (fun h4 hf => ?_)
    refine zr_aload_n C dX11_image_23 rfl 0 rfl ?_
    refine zr_aload_n C dX11_image_24 rfl 0 rfl ?_
    refine zr_gi C hf kg_X11_146 (fun _ _ _ => rfl) dX11_image_25 (fun x5 hf => ?_)
    refine zr_si C hf kp_X11_280 (fun _ _ _ => rfl) rfl dX11_image_28 (fun h6 hf => ?_)
    refine zr_iconst (v := 0) C dX11_image_31 (by decide) ?_
    refine zr_istore_n (lo2 := [(1, .int (0 : Int32)), (0, .ref (zB E + a0))]) C dX11_image_32 rfl (by decide) rfl ?_
    have L33 : ∀ (fu : Nat) (x : zH × Int32), zloop (fun kc x => F_X11_image_B33 n kc x.1 a0 x.2) fu x = some res → zW p l e (headSpec (zw yX11_image cX11_image 2 (some .int)) ({ frames := 0, cells := 0, slots := 0, locals := 0 } : Room)).room s m args below meth c E 2 (MQ below (zQc E res.2 (some (.int res.1))) args s 0 0 (zfr E)) 0 0 33 [(0, .ref (zB E + a0)), (1, .int x.2)] [] x.1 := by
      refine z_loop _ ?_
      intro kc33 hk33 x hf
      obtain ⟨h66, x65⟩ := x
      dsimp only at hf ⊢
      unfold F_X11_image_B33 at hf
      refine zr_iload_n C dX11_image_33 rfl 1 rfl ?_
      refine zr_bipush (v := 24) C dX11_image_34 (by decide) ?_
      refine zr_icmp_ge (tgt := 57) C hf dX11_image_36 (by decide) (fun hf => ?_) (fun hf => ?_)
      · refine zr_iconst (v := 0) C dX11_image_57 (by decide) ?_
        refine zr_istore_n (lo2 := [(1, .int (0 : Int32)), (0, .ref (zB E + a0))]) C dX11_image_58 rfl (by decide) rfl ?_
        have L59 : ∀ (fu : Nat) (x : zH × Int32), zloop (fun kc x => F_X11_image_B59 n kc x.1 a0 x.2) fu x = some res → zW p l e (headSpec (zw yX11_image cX11_image 2 (some .int)) ({ frames := 0, cells := 0, slots := 0, locals := 0 } : Room)).room s m args below meth c E 2 (MQ below (zQc E res.2 (some (.int res.1))) args s 0 0 (zfr E)) 0 0 59 [(0, .ref (zB E + a0)), (1, .int x.2)] [] x.1 := by
          refine z_loop _ ?_
          intro kc59 hk59 x hf
          obtain ⟨h68, x67⟩ := x
          dsimp only at hf ⊢
          unfold F_X11_image_B59 at hf
          refine zr_iload_n C dX11_image_59 rfl 1 rfl ?_
          refine zr_aload_n C dX11_image_60 rfl 0 rfl ?_
          refine zr_gi C hf kg_X11_146 (fun _ _ _ => rfl) dX11_image_61 (fun x69 hf => ?_)
          refine zr_icmp_ge (tgt := 97) C hf dX11_image_64 (by decide) (fun hf => ?_) (fun hf => ?_)
          · refine zr_iconst (v := 0) C dX11_image_97 (by decide) ?_
            refine zr_istore_n (lo2 := [(1, .int (0 : Int32)), (0, .ref (zB E + a0))]) C dX11_image_98 rfl (by decide) rfl ?_
            have L99 : ∀ (fu : Nat) (x : zH × Int32), zloop (fun kc x => F_X11_image_B99 n kc x.1 a0 x.2) fu x = some res → zW p l e (headSpec (zw yX11_image cX11_image 2 (some .int)) ({ frames := 0, cells := 0, slots := 0, locals := 0 } : Room)).room s m args below meth c E 2 (MQ below (zQc E res.2 (some (.int res.1))) args s 0 0 (zfr E)) 0 0 99 [(0, .ref (zB E + a0)), (1, .int x.2)] [] x.1 := by
              refine z_loop _ ?_
              intro kc99 hk99 x hf
              obtain ⟨h71, x70⟩ := x
              dsimp only at hf ⊢
              unfold F_X11_image_B99 at hf
              refine zr_iload_n C dX11_image_99 rfl 1 rfl ?_
              refine zr_bipush (v := 6) C dX11_image_100 (by decide) ?_
              refine zr_icmp_ge (tgt := 123) C hf dX11_image_102 (by decide) (fun hf => ?_) (fun hf => ?_)
              · refine zr_aload_n C dX11_image_123 rfl 0 rfl ?_
                refine zr_gi C hf kg_X11_146 (fun _ _ _ => rfl) dX11_image_124 (fun x72 hf => ?_)
                exact zr_ireturn C hf hr (Nat.le_of_ble_eq_true rfl) (Nat.le_of_ble_eq_true rfl) dX11_image_127
              · refine zr_aload_n C dX11_image_105 rfl 0 rfl ?_
                refine zr_gr C hf kg_X11_81 (fun _ _ _ => rfl) dX11_image_106 (fun w73 hf => ?_)
                refine zr_iload_n C dX11_image_109 rfl 1 rfl ?_
                refine zr_aload_n C dX11_image_110 rfl 0 rfl ?_
                refine zr_gr C hf kg_X11_43 (fun _ _ _ => rfl) dX11_image_111 (fun w74 hf => ?_)
                refine zr_iload_n C dX11_image_114 rfl 1 rfl ?_
                refine zr_iaload C hf dX11_image_115 (fun x75 hf => ?_)
                refine zr_iastore C hf dX11_image_116 (fun h76 hf => ?_)
                refine zr_iinc (v0 := 1) (k := 1) (f := fun v => [(1, .int v), (0, .ref (zB E + a0))]) C hf (by decide) dX11_image_117 rfl (by decide) (fun v => rfl) (fun x77 hf => ?_)
                refine zr_goto (tgt := 99) C dX11_image_120 (by decide) ?_
                refine zsub [1, 0] rfl ?_
                exact hk99 (h76, x77) hf
            refine zsub [1, 0] rfl ?_
            exact L99 n (h68, (0 : Int32)) hf
          · refine zr_aload_n C dX11_image_67 rfl 0 rfl ?_
            refine zr_gr C hf kg_X11_75 (fun _ _ _ => rfl) dX11_image_68 (fun w78 hf => ?_)
            refine zr_iload_n C dX11_image_71 rfl 1 rfl ?_
            refine zr_aload_n C dX11_image_72 rfl 0 rfl ?_
            refine zr_gr C hf kg_X11_25 (fun _ _ _ => rfl) dX11_image_73 (fun w79 hf => ?_)
            refine zr_iload_n C dX11_image_76 rfl 1 rfl ?_
            refine zr_iaload C hf dX11_image_77 (fun x80 hf => ?_)
            refine zr_iastore C hf dX11_image_78 (fun h81 hf => ?_)
            refine zr_aload_n C dX11_image_79 rfl 0 rfl ?_
            refine zr_gr C hf kg_X11_78 (fun _ _ _ => rfl) dX11_image_80 (fun w82 hf => ?_)
            refine zr_iload_n C dX11_image_83 rfl 1 rfl ?_
            refine zr_aload_n C dX11_image_84 rfl 0 rfl ?_
            refine zr_gr C hf kg_X11_37 (fun _ _ _ => rfl) dX11_image_85 (fun w83 hf => ?_)
            refine zr_iload_n C dX11_image_88 rfl 1 rfl ?_
            refine zr_iaload C hf dX11_image_89 (fun x84 hf => ?_)
            refine zr_iastore C hf dX11_image_90 (fun h85 hf => ?_)
            refine zr_iinc (v0 := 1) (k := 1) (f := fun v => [(1, .int v), (0, .ref (zB E + a0))]) C hf (by decide) dX11_image_91 rfl (by decide) (fun v => rfl) (fun x86 hf => ?_)
            refine zr_goto (tgt := 59) C dX11_image_94 (by decide) ?_
            refine zsub [1, 0] rfl ?_
            exact hk59 (h85, x86) hf
        refine zsub [1, 0] rfl ?_
        exact L59 n (h66, (0 : Int32)) hf
      · refine zr_aload_n C dX11_image_39 rfl 0 rfl ?_
        refine zr_gr C hf kg_X11_72 (fun _ _ _ => rfl) dX11_image_40 (fun w87 hf => ?_)
        refine zr_iload_n C dX11_image_43 rfl 1 rfl ?_
        refine zr_aload_n C dX11_image_44 rfl 0 rfl ?_
        refine zr_gr C hf kg_X11_13 (fun _ _ _ => rfl) dX11_image_45 (fun w88 hf => ?_)
        refine zr_iload_n C dX11_image_48 rfl 1 rfl ?_
        refine zr_iaload C hf dX11_image_49 (fun x89 hf => ?_)
        refine zr_iastore C hf dX11_image_50 (fun h90 hf => ?_)
        refine zr_iinc (v0 := 1) (k := 1) (f := fun v => [(1, .int v), (0, .ref (zB E + a0))]) C hf (by decide) dX11_image_51 rfl (by decide) (fun v => rfl) (fun x91 hf => ?_)
        refine zr_goto (tgt := 33) C dX11_image_54 (by decide) ?_
        refine zsub [1, 0] rfl ?_
        exact hk33 (h90, x91) hf
    refine zsub [1, 0] rfl ?_
    exact L33 n (h6, (0 : Int32)) hf
  · refine zr_bipush (v := -103) C dX11_image_7 (by decide) ?_
    exact zr_ireturn C hf hr (Nat.le_of_ble_eq_true rfl) (Nat.le_of_ble_eq_true rfl) dX11_image_9
theorem dX11_restore_0 : decode cX11_restore 0 = .ok (.aload_n 0, 1) := by decide +kernel
theorem dX11_restore_1 : decode cX11_restore 1 = .ok (.getfield 274, 3) := by decide +kernel
theorem dX11_restore_4 : decode cX11_restore 4 = .ok (.ifCond .eq 14, 3) := by decide +kernel
theorem dX11_restore_7 : decode cX11_restore 7 = .ok (.aload_n 0, 1) := by decide +kernel
theorem dX11_restore_8 : decode cX11_restore 8 = .ok (.getfield 277, 3) := by decide +kernel
theorem dX11_restore_11 : decode cX11_restore 11 = .ok (.aload_n 0, 1) := by decide +kernel
theorem dX11_restore_12 : decode cX11_restore 12 = .ok (.getfield 152, 3) := by decide +kernel
theorem dX11_restore_15 : decode cX11_restore 15 = .ok (.if_icmp .eq 6, 3) := by decide +kernel
theorem dX11_restore_18 : decode cX11_restore 18 = .ok (.bipush (-103), 2) := by decide +kernel
theorem dX11_restore_20 : decode cX11_restore 20 = .ok (.ireturn, 1) := by decide +kernel
theorem dX11_restore_21 : decode cX11_restore 21 = .ok (.iconst 0, 1) := by decide +kernel
theorem dX11_restore_22 : decode cX11_restore 22 = .ok (.istore_n 1, 1) := by decide +kernel
theorem dX11_restore_23 : decode cX11_restore 23 = .ok (.iload_n 1, 1) := by decide +kernel
theorem dX11_restore_24 : decode cX11_restore 24 = .ok (.bipush 24, 2) := by decide +kernel
theorem dX11_restore_26 : decode cX11_restore 26 = .ok (.if_icmp .ge 21, 3) := by decide +kernel
theorem dX11_restore_29 : decode cX11_restore 29 = .ok (.aload_n 0, 1) := by decide +kernel
theorem dX11_restore_30 : decode cX11_restore 30 = .ok (.getfield 13, 3) := by decide +kernel
theorem dX11_restore_33 : decode cX11_restore 33 = .ok (.iload_n 1, 1) := by decide +kernel
theorem dX11_restore_34 : decode cX11_restore 34 = .ok (.aload_n 0, 1) := by decide +kernel
theorem dX11_restore_35 : decode cX11_restore 35 = .ok (.getfield 72, 3) := by decide +kernel
theorem dX11_restore_38 : decode cX11_restore 38 = .ok (.iload_n 1, 1) := by decide +kernel
theorem dX11_restore_39 : decode cX11_restore 39 = .ok (.iaload, 1) := by decide +kernel
theorem dX11_restore_40 : decode cX11_restore 40 = .ok (.iastore, 1) := by decide +kernel
theorem dX11_restore_41 : decode cX11_restore 41 = .ok (.iinc 1 1, 3) := by decide +kernel
theorem dX11_restore_44 : decode cX11_restore 44 = .ok (.goto (-21), 3) := by decide +kernel
theorem dX11_restore_47 : decode cX11_restore 47 = .ok (.iconst 0, 1) := by decide +kernel
theorem dX11_restore_48 : decode cX11_restore 48 = .ok (.istore_n 1, 1) := by decide +kernel
theorem dX11_restore_49 : decode cX11_restore 49 = .ok (.iload_n 1, 1) := by decide +kernel
theorem dX11_restore_50 : decode cX11_restore 50 = .ok (.aload_n 0, 1) := by decide +kernel
theorem dX11_restore_51 : decode cX11_restore 51 = .ok (.getfield 280, 3) := by decide +kernel
theorem dX11_restore_54 : decode cX11_restore 54 = .ok (.if_icmp .ge 33, 3) := by decide +kernel
theorem dX11_restore_57 : decode cX11_restore 57 = .ok (.aload_n 0, 1) := by decide +kernel
theorem dX11_restore_58 : decode cX11_restore 58 = .ok (.getfield 25, 3) := by decide +kernel
theorem dX11_restore_61 : decode cX11_restore 61 = .ok (.iload_n 1, 1) := by decide +kernel
theorem dX11_restore_62 : decode cX11_restore 62 = .ok (.aload_n 0, 1) := by decide +kernel
theorem dX11_restore_63 : decode cX11_restore 63 = .ok (.getfield 75, 3) := by decide +kernel
theorem dX11_restore_66 : decode cX11_restore 66 = .ok (.iload_n 1, 1) := by decide +kernel
theorem dX11_restore_67 : decode cX11_restore 67 = .ok (.iaload, 1) := by decide +kernel
theorem dX11_restore_68 : decode cX11_restore 68 = .ok (.iastore, 1) := by decide +kernel
theorem dX11_restore_69 : decode cX11_restore 69 = .ok (.aload_n 0, 1) := by decide +kernel
theorem dX11_restore_70 : decode cX11_restore 70 = .ok (.getfield 37, 3) := by decide +kernel
theorem dX11_restore_73 : decode cX11_restore 73 = .ok (.iload_n 1, 1) := by decide +kernel
theorem dX11_restore_74 : decode cX11_restore 74 = .ok (.aload_n 0, 1) := by decide +kernel
theorem dX11_restore_75 : decode cX11_restore 75 = .ok (.getfield 78, 3) := by decide +kernel
theorem dX11_restore_78 : decode cX11_restore 78 = .ok (.iload_n 1, 1) := by decide +kernel
theorem dX11_restore_79 : decode cX11_restore 79 = .ok (.iaload, 1) := by decide +kernel
theorem dX11_restore_80 : decode cX11_restore 80 = .ok (.iastore, 1) := by decide +kernel
theorem dX11_restore_81 : decode cX11_restore 81 = .ok (.iinc 1 1, 3) := by decide +kernel
theorem dX11_restore_84 : decode cX11_restore 84 = .ok (.goto (-35), 3) := by decide +kernel
theorem dX11_restore_87 : decode cX11_restore 87 = .ok (.iconst 0, 1) := by decide +kernel
theorem dX11_restore_88 : decode cX11_restore 88 = .ok (.istore_n 1, 1) := by decide +kernel
theorem dX11_restore_89 : decode cX11_restore 89 = .ok (.iload_n 1, 1) := by decide +kernel
theorem dX11_restore_90 : decode cX11_restore 90 = .ok (.bipush 6, 2) := by decide +kernel
theorem dX11_restore_92 : decode cX11_restore 92 = .ok (.if_icmp .ge 21, 3) := by decide +kernel
theorem dX11_restore_95 : decode cX11_restore 95 = .ok (.aload_n 0, 1) := by decide +kernel
theorem dX11_restore_96 : decode cX11_restore 96 = .ok (.getfield 43, 3) := by decide +kernel
theorem dX11_restore_99 : decode cX11_restore 99 = .ok (.iload_n 1, 1) := by decide +kernel
theorem dX11_restore_100 : decode cX11_restore 100 = .ok (.aload_n 0, 1) := by decide +kernel
theorem dX11_restore_101 : decode cX11_restore 101 = .ok (.getfield 81, 3) := by decide +kernel
theorem dX11_restore_104 : decode cX11_restore 104 = .ok (.iload_n 1, 1) := by decide +kernel
theorem dX11_restore_105 : decode cX11_restore 105 = .ok (.iaload, 1) := by decide +kernel
theorem dX11_restore_106 : decode cX11_restore 106 = .ok (.iastore, 1) := by decide +kernel
theorem dX11_restore_107 : decode cX11_restore 107 = .ok (.iinc 1 1, 3) := by decide +kernel
theorem dX11_restore_110 : decode cX11_restore 110 = .ok (.goto (-21), 3) := by decide +kernel
theorem dX11_restore_113 : decode cX11_restore 113 = .ok (.aload_n 0, 1) := by decide +kernel
theorem dX11_restore_114 : decode cX11_restore 114 = .ok (.getfield 146, 3) := by decide +kernel
theorem dX11_restore_117 : decode cX11_restore 117 = .ok (.ireturn, 1) := by decide +kernel
set_option maxHeartbeats 4000000 in
set_option maxRecDepth 100000 in
theorem c_X11_restore (l : Launch) (E : zE) (n : Nat) (h : zH) (a0 : Nat) (res : Int32 × zH) (hf : F_X11_restore n h a0 = some res) : Met l yX11_restore (zw yX11_restore cX11_restore 2 (some .int)) ({ frames := 0, cells := 0, slots := 0, locals := 0 } : Room) (zPc E h [.ref (zB E + a0)]) (zQc E res.2 (some (.int res.1))) 0 0 (zfr E) := by
  refine zmet (lo := [(0, .ref (zB E + a0))]) (by decide +kernel) (Nat.le_of_ble_eq_true rfl) rfl ?_
  intro p e s m args below meth c C hr hin
  unfold F_X11_restore at hf
  have J18 : ∀ (h2 : zH), F_X11_restore_J18 n h2 = some res → zW p l e (headSpec (zw yX11_restore cX11_restore 2 (some .int)) ({ frames := 0, cells := 0, slots := 0, locals := 0 } : Room)).room s m args below meth c E 2 (MQ below (zQc E res.2 (some (.int res.1))) args s 0 0 (zfr E)) 0 0 18 [] [] h2 := by
    intro h2 hf
    unfold F_X11_restore_J18 at hf
    refine zr_bipush (v := -103) C dX11_restore_18 (by decide) ?_
    exact zr_ireturn C hf hr (Nat.le_of_ble_eq_true rfl) (Nat.le_of_ble_eq_true rfl) dX11_restore_20
  refine zr_aload_n C dX11_restore_0 rfl 0 rfl ?_
  refine zr_gi C hf kg_X11_274 (fun _ _ _ => rfl) dX11_restore_1 (fun x3 hf => ?_)
  refine zr_if_eq (tgt := 18) C hf dX11_restore_4 (by decide) (fun hf => ?_) (fun hf => ?_)
  · refine zsub [] rfl ?_
    exact J18 h hf
  · refine zr_aload_n C dX11_restore_7 rfl 0 rfl ?_
    refine zr_gi C hf kg_X11_277 (fun _ _ _ => rfl) dX11_restore_8 (fun x4 hf => ?_)
    refine zr_aload_n C dX11_restore_11 rfl 0 rfl ?_
    refine zr_gi C hf kg_X11_152 (fun _ _ _ => rfl) dX11_restore_12 (fun x5 hf => ?_)
    refine zr_icmp_eq (tgt := 21) C hf dX11_restore_15 (by decide) (fun hf => ?_) (fun hf => ?_)
    · refine zr_iconst (v := 0) C dX11_restore_21 (by decide) ?_
      refine zr_istore_n (lo2 := [(1, .int (0 : Int32)), (0, .ref (zB E + a0))]) C dX11_restore_22 rfl (by decide) rfl ?_
      have L23 : ∀ (fu : Nat) (x : zH × Int32), zloop (fun kc x => F_X11_restore_B23 n kc x.1 a0 x.2) fu x = some res → zW p l e (headSpec (zw yX11_restore cX11_restore 2 (some .int)) ({ frames := 0, cells := 0, slots := 0, locals := 0 } : Room)).room s m args below meth c E 2 (MQ below (zQc E res.2 (some (.int res.1))) args s 0 0 (zfr E)) 0 0 23 [(0, .ref (zB E + a0)), (1, .int x.2)] [] x.1 := by
        refine z_loop _ ?_
        intro kc23 hk23 x hf
        obtain ⟨h65, x64⟩ := x
        dsimp only at hf ⊢
        unfold F_X11_restore_B23 at hf
        refine zr_iload_n C dX11_restore_23 rfl 1 rfl ?_
        refine zr_bipush (v := 24) C dX11_restore_24 (by decide) ?_
        refine zr_icmp_ge (tgt := 47) C hf dX11_restore_26 (by decide) (fun hf => ?_) (fun hf => ?_)
        · refine zr_iconst (v := 0) C dX11_restore_47 (by decide) ?_
          refine zr_istore_n (lo2 := [(1, .int (0 : Int32)), (0, .ref (zB E + a0))]) C dX11_restore_48 rfl (by decide) rfl ?_
          have L49 : ∀ (fu : Nat) (x : zH × Int32), zloop (fun kc x => F_X11_restore_B49 n kc x.1 a0 x.2) fu x = some res → zW p l e (headSpec (zw yX11_restore cX11_restore 2 (some .int)) ({ frames := 0, cells := 0, slots := 0, locals := 0 } : Room)).room s m args below meth c E 2 (MQ below (zQc E res.2 (some (.int res.1))) args s 0 0 (zfr E)) 0 0 49 [(0, .ref (zB E + a0)), (1, .int x.2)] [] x.1 := by
            refine z_loop _ ?_
            intro kc49 hk49 x hf
            obtain ⟨h67, x66⟩ := x
            dsimp only at hf ⊢
            unfold F_X11_restore_B49 at hf
            refine zr_iload_n C dX11_restore_49 rfl 1 rfl ?_
            refine zr_aload_n C dX11_restore_50 rfl 0 rfl ?_
            refine zr_gi C hf kg_X11_280 (fun _ _ _ => rfl) dX11_restore_51 (fun x68 hf => ?_)
            refine zr_icmp_ge (tgt := 87) C hf dX11_restore_54 (by decide) (fun hf => ?_) (fun hf => ?_)
            · refine zr_iconst (v := 0) C dX11_restore_87 (by decide) ?_
              refine zr_istore_n (lo2 := [(1, .int (0 : Int32)), (0, .ref (zB E + a0))]) C dX11_restore_88 rfl (by decide) rfl ?_
              have L89 : ∀ (fu : Nat) (x : zH × Int32), zloop (fun kc x => F_X11_restore_B89 n kc x.1 a0 x.2) fu x = some res → zW p l e (headSpec (zw yX11_restore cX11_restore 2 (some .int)) ({ frames := 0, cells := 0, slots := 0, locals := 0 } : Room)).room s m args below meth c E 2 (MQ below (zQc E res.2 (some (.int res.1))) args s 0 0 (zfr E)) 0 0 89 [(0, .ref (zB E + a0)), (1, .int x.2)] [] x.1 := by
                refine z_loop _ ?_
                intro kc89 hk89 x hf
                obtain ⟨h70, x69⟩ := x
                dsimp only at hf ⊢
                unfold F_X11_restore_B89 at hf
                refine zr_iload_n C dX11_restore_89 rfl 1 rfl ?_
                refine zr_bipush (v := 6) C dX11_restore_90 (by decide) ?_
                refine zr_icmp_ge (tgt := 113) C hf dX11_restore_92 (by decide) (fun hf => ?_) (fun hf => ?_)
                · refine zr_aload_n C dX11_restore_113 rfl 0 rfl ?_
                  refine zr_gi C hf kg_X11_146 (fun _ _ _ => rfl) dX11_restore_114 (fun x71 hf => ?_)
                  exact zr_ireturn C hf hr (Nat.le_of_ble_eq_true rfl) (Nat.le_of_ble_eq_true rfl) dX11_restore_117
                · refine zr_aload_n C dX11_restore_95 rfl 0 rfl ?_
                  refine zr_gr C hf kg_X11_43 (fun _ _ _ => rfl) dX11_restore_96 (fun w72 hf => ?_)
                  refine zr_iload_n C dX11_restore_99 rfl 1 rfl ?_
                  refine zr_aload_n C dX11_restore_100 rfl 0 rfl ?_
                  refine zr_gr C hf kg_X11_81 (fun _ _ _ => rfl) dX11_restore_101 (fun w73 hf => ?_)
                  refine zr_iload_n C dX11_restore_104 rfl 1 rfl ?_
                  refine zr_iaload C hf dX11_restore_105 (fun x74 hf => ?_)
                  refine zr_iastore C hf dX11_restore_106 (fun h75 hf => ?_)
                  refine zr_iinc (v0 := 1) (k := 1) (f := fun v => [(1, .int v), (0, .ref (zB E + a0))]) C hf (by decide) dX11_restore_107 rfl (by decide) (fun v => rfl) (fun x76 hf => ?_)
                  refine zr_goto (tgt := 89) C dX11_restore_110 (by decide) ?_
                  refine zsub [1, 0] rfl ?_
                  exact hk89 (h75, x76) hf
              refine zsub [1, 0] rfl ?_
              exact L89 n (h67, (0 : Int32)) hf
            · refine zr_aload_n C dX11_restore_57 rfl 0 rfl ?_
              refine zr_gr C hf kg_X11_25 (fun _ _ _ => rfl) dX11_restore_58 (fun w77 hf => ?_)
              refine zr_iload_n C dX11_restore_61 rfl 1 rfl ?_
              refine zr_aload_n C dX11_restore_62 rfl 0 rfl ?_
              refine zr_gr C hf kg_X11_75 (fun _ _ _ => rfl) dX11_restore_63 (fun w78 hf => ?_)
              refine zr_iload_n C dX11_restore_66 rfl 1 rfl ?_
              refine zr_iaload C hf dX11_restore_67 (fun x79 hf => ?_)
              refine zr_iastore C hf dX11_restore_68 (fun h80 hf => ?_)
              refine zr_aload_n C dX11_restore_69 rfl 0 rfl ?_
              refine zr_gr C hf kg_X11_37 (fun _ _ _ => rfl) dX11_restore_70 (fun w81 hf => ?_)
              refine zr_iload_n C dX11_restore_73 rfl 1 rfl ?_
              refine zr_aload_n C dX11_restore_74 rfl 0 rfl ?_
              refine zr_gr C hf kg_X11_78 (fun _ _ _ => rfl) dX11_restore_75 (fun w82 hf => ?_)
              refine zr_iload_n C dX11_restore_78 rfl 1 rfl ?_
              refine zr_iaload C hf dX11_restore_79 (fun x83 hf => ?_)
              refine zr_iastore C hf dX11_restore_80 (fun h84 hf => ?_)
              refine zr_iinc (v0 := 1) (k := 1) (f := fun v => [(1, .int v), (0, .ref (zB E + a0))]) C hf (by decide) dX11_restore_81 rfl (by decide) (fun v => rfl) (fun x85 hf => ?_)
              refine zr_goto (tgt := 49) C dX11_restore_84 (by decide) ?_
              refine zsub [1, 0] rfl ?_
              exact hk49 (h84, x85) hf
          refine zsub [1, 0] rfl ?_
          exact L49 n (h65, (0 : Int32)) hf
        · refine zr_aload_n C dX11_restore_29 rfl 0 rfl ?_
          refine zr_gr C hf kg_X11_13 (fun _ _ _ => rfl) dX11_restore_30 (fun w86 hf => ?_)
          refine zr_iload_n C dX11_restore_33 rfl 1 rfl ?_
          refine zr_aload_n C dX11_restore_34 rfl 0 rfl ?_
          refine zr_gr C hf kg_X11_72 (fun _ _ _ => rfl) dX11_restore_35 (fun w87 hf => ?_)
          refine zr_iload_n C dX11_restore_38 rfl 1 rfl ?_
          refine zr_iaload C hf dX11_restore_39 (fun x88 hf => ?_)
          refine zr_iastore C hf dX11_restore_40 (fun h89 hf => ?_)
          refine zr_iinc (v0 := 1) (k := 1) (f := fun v => [(1, .int v), (0, .ref (zB E + a0))]) C hf (by decide) dX11_restore_41 rfl (by decide) (fun v => rfl) (fun x90 hf => ?_)
          refine zr_goto (tgt := 23) C dX11_restore_44 (by decide) ?_
          refine zsub [1, 0] rfl ?_
          exact hk23 (h89, x90) hf
      refine zsub [1, 0] rfl ?_
      exact L23 n (h, (0 : Int32)) hf
    · refine zsub [] rfl ?_
      exact J18 h hf
theorem dX11_howMany_0 : decode cX11_howMany 0 = .ok (.iload_n 1, 1) := by decide +kernel
theorem dX11_howMany_1 : decode cX11_howMany 1 = .ok (.tableswitch 109 0 8 #[51, 69, 74, 79, 84, 89, 94, 99, 104], 51) := by decide +kernel
theorem dX11_howMany_52 : decode cX11_howMany 52 = .ok (.aload_n 0, 1) := by decide +kernel
theorem dX11_howMany_53 : decode cX11_howMany 53 = .ok (.getfield 149, 3) := by decide +kernel
theorem dX11_howMany_56 : decode cX11_howMany 56 = .ok (.ifCond .eq 12, 3) := by decide +kernel
theorem dX11_howMany_59 : decode cX11_howMany 59 = .ok (.aload_n 0, 1) := by decide +kernel
theorem dX11_howMany_60 : decode cX11_howMany 60 = .ok (.getfield 7, 3) := by decide +kernel
theorem dX11_howMany_63 : decode cX11_howMany 63 = .ok (.iconst 0, 1) := by decide +kernel
theorem dX11_howMany_64 : decode cX11_howMany 64 = .ok (.iaload, 1) := by decide +kernel
theorem dX11_howMany_65 : decode cX11_howMany 65 = .ok (.goto 4, 3) := by decide +kernel
theorem dX11_howMany_68 : decode cX11_howMany 68 = .ok (.iconst 0, 1) := by decide +kernel
theorem dX11_howMany_69 : decode cX11_howMany 69 = .ok (.ireturn, 1) := by decide +kernel
theorem dX11_howMany_70 : decode cX11_howMany 70 = .ok (.aload_n 0, 1) := by decide +kernel
theorem dX11_howMany_71 : decode cX11_howMany 71 = .ok (.getfield 161, 3) := by decide +kernel
theorem dX11_howMany_74 : decode cX11_howMany 74 = .ok (.ireturn, 1) := by decide +kernel
theorem dX11_howMany_75 : decode cX11_howMany 75 = .ok (.aload_n 0, 1) := by decide +kernel
theorem dX11_howMany_76 : decode cX11_howMany 76 = .ok (.getfield 146, 3) := by decide +kernel
theorem dX11_howMany_79 : decode cX11_howMany 79 = .ok (.ireturn, 1) := by decide +kernel
theorem dX11_howMany_80 : decode cX11_howMany 80 = .ok (.aload_n 0, 1) := by decide +kernel
theorem dX11_howMany_81 : decode cX11_howMany 81 = .ok (.getfield 155, 3) := by decide +kernel
theorem dX11_howMany_84 : decode cX11_howMany 84 = .ok (.ireturn, 1) := by decide +kernel
theorem dX11_howMany_85 : decode cX11_howMany 85 = .ok (.aload_n 0, 1) := by decide +kernel
theorem dX11_howMany_86 : decode cX11_howMany 86 = .ok (.getfield 246, 3) := by decide +kernel
theorem dX11_howMany_89 : decode cX11_howMany 89 = .ok (.ireturn, 1) := by decide +kernel
theorem dX11_howMany_90 : decode cX11_howMany 90 = .ok (.aload_n 0, 1) := by decide +kernel
theorem dX11_howMany_91 : decode cX11_howMany 91 = .ok (.getfield 158, 3) := by decide +kernel
theorem dX11_howMany_94 : decode cX11_howMany 94 = .ok (.ireturn, 1) := by decide +kernel
theorem dX11_howMany_95 : decode cX11_howMany 95 = .ok (.aload_n 0, 1) := by decide +kernel
theorem dX11_howMany_96 : decode cX11_howMany 96 = .ok (.getfield 107, 3) := by decide +kernel
theorem dX11_howMany_99 : decode cX11_howMany 99 = .ok (.ireturn, 1) := by decide +kernel
theorem dX11_howMany_100 : decode cX11_howMany 100 = .ok (.aload_n 0, 1) := by decide +kernel
theorem dX11_howMany_101 : decode cX11_howMany 101 = .ok (.getfield 152, 3) := by decide +kernel
theorem dX11_howMany_104 : decode cX11_howMany 104 = .ok (.ireturn, 1) := by decide +kernel
theorem dX11_howMany_105 : decode cX11_howMany 105 = .ok (.aload_n 0, 1) := by decide +kernel
theorem dX11_howMany_106 : decode cX11_howMany 106 = .ok (.getfield 239, 3) := by decide +kernel
theorem dX11_howMany_109 : decode cX11_howMany 109 = .ok (.ireturn, 1) := by decide +kernel
theorem dX11_howMany_110 : decode cX11_howMany 110 = .ok (.bipush (-102), 2) := by decide +kernel
theorem dX11_howMany_112 : decode cX11_howMany 112 = .ok (.ireturn, 1) := by decide +kernel
set_option maxHeartbeats 4000000 in
set_option maxRecDepth 100000 in
theorem c_X11_howMany (l : Launch) (E : zE) (n : Nat) (h : zH) (a0 : Nat) (p0 : Int32) (res : Int32 × zH) (hf : F_X11_howMany n h a0 p0 = some res) : Met l yX11_howMany (zw yX11_howMany cX11_howMany 2 (some .int)) ({ frames := 0, cells := 0, slots := 0, locals := 0 } : Room) (zPc E h [.ref (zB E + a0), .int p0]) (zQc E res.2 (some (.int res.1))) 0 0 (zfr E) := by
  refine zmet (lo := [(0, .ref (zB E + a0)), (1, .int p0)]) (by decide +kernel) (Nat.le_of_ble_eq_true rfl) rfl ?_
  intro p e s m args below meth c C hr hin
  unfold F_X11_howMany at hf
  have J69 : ∀ (h4 : zH) (x3 : Int32), F_X11_howMany_J69 n h4 x3 = some res → zW p l e (headSpec (zw yX11_howMany cX11_howMany 2 (some .int)) ({ frames := 0, cells := 0, slots := 0, locals := 0 } : Room)).room s m args below meth c E 2 (MQ below (zQc E res.2 (some (.int res.1))) args s 0 0 (zfr E)) 0 0 69 [] [.int x3] h4 := by
    intro h4 x3 hf
    unfold F_X11_howMany_J69 at hf
    exact zr_ireturn C hf hr (Nat.le_of_ble_eq_true rfl) (Nat.le_of_ble_eq_true rfl) dX11_howMany_69
  refine zr_iload_n C dX11_howMany_0 rfl 1 rfl ?_
  refine zr_ite hf (fun hx hf => zr_tableOut (tgt := 110) C dX11_howMany_1 hx (by decide) ?_) (fun hx hf => ?_)
  · refine zr_bipush (v := -102) C dX11_howMany_110 (by decide) ?_
    exact zr_ireturn C hf hr (Nat.le_of_ble_eq_true rfl) (Nat.le_of_ble_eq_true rfl) dX11_howMany_112
  · refine zr_ite hf (fun he hf => zr_tableIn (off := 51) (tgt := 52) C dX11_howMany_1 (by rw [he]; decide) (by rw [he]; decide) (by rw [he]; decide +kernel) (by decide) ?_) (fun _ hf => ?_)
    · refine zr_aload_n C dX11_howMany_52 rfl 0 rfl ?_
      refine zr_gi C hf kg_X11_149 (fun _ _ _ => rfl) dX11_howMany_53 (fun x5 hf => ?_)
      refine zr_if_eq (tgt := 68) C hf dX11_howMany_56 (by decide) (fun hf => ?_) (fun hf => ?_)
      · refine zr_iconst (v := 0) C dX11_howMany_68 (by decide) ?_
        refine zsub [] rfl ?_
        exact J69 h (0 : Int32) hf
      · refine zr_aload_n C dX11_howMany_59 rfl 0 rfl ?_
        refine zr_gr C hf kg_X11_7 (fun _ _ _ => rfl) dX11_howMany_60 (fun w6 hf => ?_)
        refine zr_iconst (v := 0) C dX11_howMany_63 (by decide) ?_
        refine zr_iaload C hf dX11_howMany_64 (fun x7 hf => ?_)
        refine zr_goto (tgt := 69) C dX11_howMany_65 (by decide) ?_
        refine zsub [] rfl ?_
        exact J69 h x7 hf
    refine zr_ite hf (fun he hf => zr_tableIn (off := 69) (tgt := 70) C dX11_howMany_1 (by rw [he]; decide) (by rw [he]; decide) (by rw [he]; decide +kernel) (by decide) ?_) (fun _ hf => ?_)
    · refine zr_aload_n C dX11_howMany_70 rfl 0 rfl ?_
      refine zr_gi C hf kg_X11_161 (fun _ _ _ => rfl) dX11_howMany_71 (fun x8 hf => ?_)
      exact zr_ireturn C hf hr (Nat.le_of_ble_eq_true rfl) (Nat.le_of_ble_eq_true rfl) dX11_howMany_74
    refine zr_ite hf (fun he hf => zr_tableIn (off := 74) (tgt := 75) C dX11_howMany_1 (by rw [he]; decide) (by rw [he]; decide) (by rw [he]; decide +kernel) (by decide) ?_) (fun _ hf => ?_)
    · refine zr_aload_n C dX11_howMany_75 rfl 0 rfl ?_
      refine zr_gi C hf kg_X11_146 (fun _ _ _ => rfl) dX11_howMany_76 (fun x9 hf => ?_)
      exact zr_ireturn C hf hr (Nat.le_of_ble_eq_true rfl) (Nat.le_of_ble_eq_true rfl) dX11_howMany_79
    refine zr_ite hf (fun he hf => zr_tableIn (off := 79) (tgt := 80) C dX11_howMany_1 (by rw [he]; decide) (by rw [he]; decide) (by rw [he]; decide +kernel) (by decide) ?_) (fun _ hf => ?_)
    · refine zr_aload_n C dX11_howMany_80 rfl 0 rfl ?_
      refine zr_gi C hf kg_X11_155 (fun _ _ _ => rfl) dX11_howMany_81 (fun x10 hf => ?_)
      exact zr_ireturn C hf hr (Nat.le_of_ble_eq_true rfl) (Nat.le_of_ble_eq_true rfl) dX11_howMany_84
    refine zr_ite hf (fun he hf => zr_tableIn (off := 84) (tgt := 85) C dX11_howMany_1 (by rw [he]; decide) (by rw [he]; decide) (by rw [he]; decide +kernel) (by decide) ?_) (fun _ hf => ?_)
    · refine zr_aload_n C dX11_howMany_85 rfl 0 rfl ?_
      refine zr_gi C hf kg_X11_246 (fun _ _ _ => rfl) dX11_howMany_86 (fun x11 hf => ?_)
      exact zr_ireturn C hf hr (Nat.le_of_ble_eq_true rfl) (Nat.le_of_ble_eq_true rfl) dX11_howMany_89
    refine zr_ite hf (fun he hf => zr_tableIn (off := 89) (tgt := 90) C dX11_howMany_1 (by rw [he]; decide) (by rw [he]; decide) (by rw [he]; decide +kernel) (by decide) ?_) (fun _ hf => ?_)
    · refine zr_aload_n C dX11_howMany_90 rfl 0 rfl ?_
      refine zr_gi C hf kg_X11_158 (fun _ _ _ => rfl) dX11_howMany_91 (fun x12 hf => ?_)
      exact zr_ireturn C hf hr (Nat.le_of_ble_eq_true rfl) (Nat.le_of_ble_eq_true rfl) dX11_howMany_94
    refine zr_ite hf (fun he hf => zr_tableIn (off := 94) (tgt := 95) C dX11_howMany_1 (by rw [he]; decide) (by rw [he]; decide) (by rw [he]; decide +kernel) (by decide) ?_) (fun _ hf => ?_)
    · refine zr_aload_n C dX11_howMany_95 rfl 0 rfl ?_
      refine zr_gi C hf kg_X11_107 (fun _ _ _ => rfl) dX11_howMany_96 (fun x13 hf => ?_)
      exact zr_ireturn C hf hr (Nat.le_of_ble_eq_true rfl) (Nat.le_of_ble_eq_true rfl) dX11_howMany_99
    refine zr_ite hf (fun he hf => zr_tableIn (off := 99) (tgt := 100) C dX11_howMany_1 (by rw [he]; decide) (by rw [he]; decide) (by rw [he]; decide +kernel) (by decide) ?_) (fun _ hf => ?_)
    · refine zr_aload_n C dX11_howMany_100 rfl 0 rfl ?_
      refine zr_gi C hf kg_X11_152 (fun _ _ _ => rfl) dX11_howMany_101 (fun x14 hf => ?_)
      exact zr_ireturn C hf hr (Nat.le_of_ble_eq_true rfl) (Nat.le_of_ble_eq_true rfl) dX11_howMany_104
    refine zr_ite hf (fun he hf => zr_tableIn (off := 104) (tgt := 105) C dX11_howMany_1 (by rw [he]; decide) (by rw [he]; decide) (by rw [he]; decide +kernel) (by decide) ?_) (fun _ hf => ?_)
    · refine zr_aload_n C dX11_howMany_105 rfl 0 rfl ?_
      refine zr_gi C hf kg_X11_239 (fun _ _ _ => rfl) dX11_howMany_106 (fun x15 hf => ?_)
      exact zr_ireturn C hf hr (Nat.le_of_ble_eq_true rfl) (Nat.le_of_ble_eq_true rfl) dX11_howMany_109
    cases hf
theorem dX11_count_0 : decode cX11_count 0 = .ok (.aload_n 0, 1) := by decide +kernel
theorem dX11_count_1 : decode cX11_count 1 = .ok (.iload_n 1, 1) := by decide +kernel
theorem dX11_count_2 : decode cX11_count 2 = .ok (.invokevirtual 283, 3) := by decide +kernel
theorem dX11_count_5 : decode cX11_count 5 = .ok (.ireturn, 1) := by decide +kernel
set_option maxHeartbeats 4000000 in
set_option maxRecDepth 100000 in
theorem c_X11_count (l : Launch) (E : zE) (n : Nat) (h : zH) (a0 : Nat) (p0 : Int32) (res : Int32 × zH) (hf : F_X11_count n h a0 p0 = some res) : Met l yX11_count (zw yX11_count cX11_count 2 (some .int)) ({ frames := 1, cells := 0, slots := 0, locals := 21 } : Room) (zPc E h [.ref (zB E + a0), .int p0]) (zQc E res.2 (some (.int res.1))) 0 0 (zfr E) := by
  refine zmet (lo := [(0, .ref (zB E + a0)), (1, .int p0)]) (by decide +kernel) (Nat.le_of_ble_eq_true rfl) rfl ?_
  intro p e s m args below meth c C hr hin
  unfold F_X11_count at hf
  refine zr_aload_n C dX11_count_0 rfl 0 rfl ?_
  refine zr_iload_n C dX11_count_1 rfl 1 rfl ?_
  refine zr_callVi (As := [.int p0]) (rest := []) C hf (fun x hx => c_X11_howMany l E n h a0 p0 x hx) kv_X11_283 rfl rfl (Nat.le_of_ble_eq_true rfl) ⟨rfl, rfl⟩ ⟨Nat.le_of_ble_eq_true rfl, Nat.le_of_ble_eq_true rfl⟩ ⟨Nat.le_of_ble_eq_true rfl, Nat.le_of_ble_eq_true rfl⟩ dX11_count_2 (fun x2 h1 hf => ?_)
  exact zr_ireturn C hf hr (Nat.le_of_ble_eq_true rfl) (Nat.le_of_ble_eq_true rfl) dX11_count_5
theorem dX11_mix_0 : decode cX11_mix 0 = .ok (.aload_n 0, 1) := by decide +kernel
theorem dX11_mix_1 : decode cX11_mix 1 = .ok (.ldc2_w 286, 3) := by decide +kernel
theorem dX11_mix_4 : decode cX11_mix 4 = .ok (.aload_n 0, 1) := by decide +kernel
theorem dX11_mix_5 : decode cX11_mix 5 = .ok (.getfield 288, 3) := by decide +kernel
theorem dX11_mix_8 : decode cX11_mix 8 = .ok (.lmul, 1) := by decide +kernel
theorem dX11_mix_9 : decode cX11_mix 9 = .ok (.lload_n 1, 1) := by decide +kernel
theorem dX11_mix_10 : decode cX11_mix 10 = .ok (.ladd, 1) := by decide +kernel
theorem dX11_mix_11 : decode cX11_mix 11 = .ok (.putfield 288, 3) := by decide +kernel
theorem dX11_mix_14 : decode cX11_mix 14 = .ok (.return_, 1) := by decide +kernel
set_option maxHeartbeats 4000000 in
set_option maxRecDepth 100000 in
theorem c_X11_mix (l : Launch) (E : zE) (n : Nat) (h : zH) (a0 : Nat) (p0 : Int64) (res : Unit × zH) (hf : F_X11_mix n h a0 p0 = some res) : Met l yX11_mix (zw yX11_mix cX11_mix 3 none) ({ frames := 0, cells := 0, slots := 0, locals := 0 } : Room) (zPc E h [.ref (zB E + a0), .long p0]) (zQc E res.2 none) 0 0 (zfr E) := by
  refine zmet (lo := [(0, .ref (zB E + a0)), (1, .long p0)]) (by decide +kernel) (Nat.le_of_ble_eq_true rfl) rfl ?_
  intro p e s m args below meth c C hr hin
  unfold F_X11_mix at hf
  refine zr_aload_n C dX11_mix_0 rfl 0 rfl ?_
  refine zr_ldc2 (v := 31) C zt1338 dX11_mix_1 ?_
  refine zr_aload_n C dX11_mix_4 rfl 0 rfl ?_
  refine zr_gl C hf kg_X11_288 (fun _ _ _ => rfl) dX11_mix_5 (fun j1 hf => ?_)
  refine zr_lmul C hf dX11_mix_8 (fun j2 hf => ?_)
  refine zr_lload_n C dX11_mix_9 rfl 1 rfl ?_
  refine zr_ladd C hf dX11_mix_10 (fun j3 hf => ?_)
  refine zr_sl C hf kp_X11_288 (fun _ _ _ => rfl) rfl dX11_mix_11 (fun h4 hf => ?_)
  exact zr_return C hf hr (Nat.le_of_ble_eq_true rfl) (Nat.le_of_ble_eq_true rfl) dX11_mix_14
theorem dX11_mixCup_0 : decode cX11_mixCup 0 = .ok (.iconst 0, 1) := by decide +kernel
theorem dX11_mixCup_1 : decode cX11_mixCup 1 = .ok (.istore_n 1, 1) := by decide +kernel
theorem dX11_mixCup_2 : decode cX11_mixCup 2 = .ok (.iload_n 1, 1) := by decide +kernel
theorem dX11_mixCup_3 : decode cX11_mixCup 3 = .ok (.bipush 6, 2) := by decide +kernel
theorem dX11_mixCup_5 : decode cX11_mixCup 5 = .ok (.if_icmp .ge 20, 3) := by decide +kernel
theorem dX11_mixCup_8 : decode cX11_mixCup 8 = .ok (.aload_n 0, 1) := by decide +kernel
theorem dX11_mixCup_9 : decode cX11_mixCup 9 = .ok (.aload_n 0, 1) := by decide +kernel
theorem dX11_mixCup_10 : decode cX11_mixCup 10 = .ok (.getfield 7, 3) := by decide +kernel
theorem dX11_mixCup_13 : decode cX11_mixCup 13 = .ok (.iload_n 1, 1) := by decide +kernel
theorem dX11_mixCup_14 : decode cX11_mixCup 14 = .ok (.iaload, 1) := by decide +kernel
theorem dX11_mixCup_15 : decode cX11_mixCup 15 = .ok (.i2l, 1) := by decide +kernel
theorem dX11_mixCup_16 : decode cX11_mixCup 16 = .ok (.invokevirtual 292, 3) := by decide +kernel
theorem dX11_mixCup_19 : decode cX11_mixCup 19 = .ok (.iinc 1 1, 3) := by decide +kernel
theorem dX11_mixCup_22 : decode cX11_mixCup 22 = .ok (.goto (-20), 3) := by decide +kernel
theorem dX11_mixCup_25 : decode cX11_mixCup 25 = .ok (.iconst 0, 1) := by decide +kernel
theorem dX11_mixCup_26 : decode cX11_mixCup 26 = .ok (.istore_n 1, 1) := by decide +kernel
theorem dX11_mixCup_27 : decode cX11_mixCup 27 = .ok (.iload_n 1, 1) := by decide +kernel
theorem dX11_mixCup_28 : decode cX11_mixCup 28 = .ok (.aload_n 0, 1) := by decide +kernel
theorem dX11_mixCup_29 : decode cX11_mixCup 29 = .ok (.getfield 7, 3) := by decide +kernel
theorem dX11_mixCup_32 : decode cX11_mixCup 32 = .ok (.iconst 0, 1) := by decide +kernel
theorem dX11_mixCup_33 : decode cX11_mixCup 33 = .ok (.iaload, 1) := by decide +kernel
theorem dX11_mixCup_34 : decode cX11_mixCup 34 = .ok (.if_icmp .ge 42, 3) := by decide +kernel
theorem dX11_mixCup_37 : decode cX11_mixCup 37 = .ok (.iconst 0, 1) := by decide +kernel
theorem dX11_mixCup_38 : decode cX11_mixCup 38 = .ok (.istore_n 2, 1) := by decide +kernel
theorem dX11_mixCup_39 : decode cX11_mixCup 39 = .ok (.iload_n 2, 1) := by decide +kernel
theorem dX11_mixCup_40 : decode cX11_mixCup 40 = .ok (.aload_n 0, 1) := by decide +kernel
theorem dX11_mixCup_41 : decode cX11_mixCup 41 = .ok (.getfield 7, 3) := by decide +kernel
theorem dX11_mixCup_44 : decode cX11_mixCup 44 = .ok (.iconst 1, 1) := by decide +kernel
theorem dX11_mixCup_45 : decode cX11_mixCup 45 = .ok (.iaload, 1) := by decide +kernel
theorem dX11_mixCup_46 : decode cX11_mixCup 46 = .ok (.if_icmp .ge 24, 3) := by decide +kernel
theorem dX11_mixCup_49 : decode cX11_mixCup 49 = .ok (.aload_n 0, 1) := by decide +kernel
theorem dX11_mixCup_50 : decode cX11_mixCup 50 = .ok (.aload_n 0, 1) := by decide +kernel
theorem dX11_mixCup_51 : decode cX11_mixCup 51 = .ok (.getfield 13, 3) := by decide +kernel
theorem dX11_mixCup_54 : decode cX11_mixCup 54 = .ok (.iconst 4, 1) := by decide +kernel
theorem dX11_mixCup_55 : decode cX11_mixCup 55 = .ok (.iload_n 1, 1) := by decide +kernel
theorem dX11_mixCup_56 : decode cX11_mixCup 56 = .ok (.imul, 1) := by decide +kernel
theorem dX11_mixCup_57 : decode cX11_mixCup 57 = .ok (.iload_n 2, 1) := by decide +kernel
theorem dX11_mixCup_58 : decode cX11_mixCup 58 = .ok (.iadd, 1) := by decide +kernel
theorem dX11_mixCup_59 : decode cX11_mixCup 59 = .ok (.iaload, 1) := by decide +kernel
theorem dX11_mixCup_60 : decode cX11_mixCup 60 = .ok (.i2l, 1) := by decide +kernel
theorem dX11_mixCup_61 : decode cX11_mixCup 61 = .ok (.invokevirtual 292, 3) := by decide +kernel
theorem dX11_mixCup_64 : decode cX11_mixCup 64 = .ok (.iinc 2 1, 3) := by decide +kernel
theorem dX11_mixCup_67 : decode cX11_mixCup 67 = .ok (.goto (-28), 3) := by decide +kernel
theorem dX11_mixCup_70 : decode cX11_mixCup 70 = .ok (.iinc 1 1, 3) := by decide +kernel
theorem dX11_mixCup_73 : decode cX11_mixCup 73 = .ok (.goto (-46), 3) := by decide +kernel
theorem dX11_mixCup_76 : decode cX11_mixCup 76 = .ok (.aload_n 0, 1) := by decide +kernel
theorem dX11_mixCup_77 : decode cX11_mixCup 77 = .ok (.invokevirtual 201, 3) := by decide +kernel
theorem dX11_mixCup_80 : decode cX11_mixCup 80 = .ok (.iconst 0, 1) := by decide +kernel
theorem dX11_mixCup_81 : decode cX11_mixCup 81 = .ok (.istore_n 1, 1) := by decide +kernel
theorem dX11_mixCup_82 : decode cX11_mixCup 82 = .ok (.iload_n 1, 1) := by decide +kernel
theorem dX11_mixCup_83 : decode cX11_mixCup 83 = .ok (.aload_n 0, 1) := by decide +kernel
theorem dX11_mixCup_84 : decode cX11_mixCup 84 = .ok (.getfield 7, 3) := by decide +kernel
theorem dX11_mixCup_87 : decode cX11_mixCup 87 = .ok (.iconst 0, 1) := by decide +kernel
theorem dX11_mixCup_88 : decode cX11_mixCup 88 = .ok (.iaload, 1) := by decide +kernel
theorem dX11_mixCup_89 : decode cX11_mixCup 89 = .ok (.if_icmp .ge 19, 3) := by decide +kernel
theorem dX11_mixCup_92 : decode cX11_mixCup 92 = .ok (.aload_n 0, 1) := by decide +kernel
theorem dX11_mixCup_93 : decode cX11_mixCup 93 = .ok (.aload_n 0, 1) := by decide +kernel
theorem dX11_mixCup_94 : decode cX11_mixCup 94 = .ok (.iload_n 1, 1) := by decide +kernel
theorem dX11_mixCup_95 : decode cX11_mixCup 95 = .ok (.invokevirtual 182, 3) := by decide +kernel
theorem dX11_mixCup_98 : decode cX11_mixCup 98 = .ok (.i2l, 1) := by decide +kernel
theorem dX11_mixCup_99 : decode cX11_mixCup 99 = .ok (.invokevirtual 292, 3) := by decide +kernel
theorem dX11_mixCup_102 : decode cX11_mixCup 102 = .ok (.iinc 1 1, 3) := by decide +kernel
theorem dX11_mixCup_105 : decode cX11_mixCup 105 = .ok (.goto (-23), 3) := by decide +kernel
theorem dX11_mixCup_108 : decode cX11_mixCup 108 = .ok (.iconst 0, 1) := by decide +kernel
theorem dX11_mixCup_109 : decode cX11_mixCup 109 = .ok (.istore_n 1, 1) := by decide +kernel
theorem dX11_mixCup_110 : decode cX11_mixCup 110 = .ok (.iload_n 1, 1) := by decide +kernel
theorem dX11_mixCup_111 : decode cX11_mixCup 111 = .ok (.aload_n 0, 1) := by decide +kernel
theorem dX11_mixCup_112 : decode cX11_mixCup 112 = .ok (.getfield 7, 3) := by decide +kernel
theorem dX11_mixCup_115 : decode cX11_mixCup 115 = .ok (.iconst 0, 1) := by decide +kernel
theorem dX11_mixCup_116 : decode cX11_mixCup 116 = .ok (.iaload, 1) := by decide +kernel
theorem dX11_mixCup_117 : decode cX11_mixCup 117 = .ok (.if_icmp .ge 20, 3) := by decide +kernel
theorem dX11_mixCup_120 : decode cX11_mixCup 120 = .ok (.aload_n 0, 1) := by decide +kernel
theorem dX11_mixCup_121 : decode cX11_mixCup 121 = .ok (.aload_n 0, 1) := by decide +kernel
theorem dX11_mixCup_122 : decode cX11_mixCup 122 = .ok (.getfield 43, 3) := by decide +kernel
theorem dX11_mixCup_125 : decode cX11_mixCup 125 = .ok (.iload_n 1, 1) := by decide +kernel
theorem dX11_mixCup_126 : decode cX11_mixCup 126 = .ok (.iaload, 1) := by decide +kernel
theorem dX11_mixCup_127 : decode cX11_mixCup 127 = .ok (.i2l, 1) := by decide +kernel
theorem dX11_mixCup_128 : decode cX11_mixCup 128 = .ok (.invokevirtual 292, 3) := by decide +kernel
theorem dX11_mixCup_131 : decode cX11_mixCup 131 = .ok (.iinc 1 1, 3) := by decide +kernel
theorem dX11_mixCup_134 : decode cX11_mixCup 134 = .ok (.goto (-24), 3) := by decide +kernel
theorem dX11_mixCup_137 : decode cX11_mixCup 137 = .ok (.return_, 1) := by decide +kernel
set_option maxHeartbeats 4000000 in
set_option maxRecDepth 100000 in
theorem c_X11_mixCup (l : Launch) (E : zE) (n : Nat) (h : zH) (a0 : Nat) (res : Unit × zH) (hf : F_X11_mixCup n h a0 = some res) : Met l yX11_mixCup (zw yX11_mixCup cX11_mixCup 3 none) ({ frames := 1, cells := 0, slots := 0, locals := 23 } : Room) (zPc E h [.ref (zB E + a0)]) (zQc E res.2 none) 0 0 (zfr E) := by
  refine zmet (lo := [(0, .ref (zB E + a0))]) (by decide +kernel) (Nat.le_of_ble_eq_true rfl) rfl ?_
  intro p e s m args below meth c C hr hin
  unfold F_X11_mixCup at hf
  refine zr_iconst (v := 0) C dX11_mixCup_0 (by decide) ?_
  refine zr_istore_n (lo2 := [(1, .int (0 : Int32)), (0, .ref (zB E + a0))]) C dX11_mixCup_1 rfl (by decide) rfl ?_
  have L2 : ∀ (fu : Nat) (x : zH × Int32), zloop (fun kc x => F_X11_mixCup_B2 n kc x.1 a0 x.2) fu x = some res → zW p l e (headSpec (zw yX11_mixCup cX11_mixCup 3 none) ({ frames := 1, cells := 0, slots := 0, locals := 23 } : Room)).room s m args below meth c E 3 (MQ below (zQc E res.2 none) args s 0 0 (zfr E)) 0 0 2 [(0, .ref (zB E + a0)), (1, .int x.2)] [] x.1 := by
    refine z_loop _ ?_
    intro kc2 hk2 x hf
    obtain ⟨h124, x123⟩ := x
    dsimp only at hf ⊢
    unfold F_X11_mixCup_B2 at hf
    refine zr_iload_n C dX11_mixCup_2 rfl 1 rfl ?_
    refine zr_bipush (v := 6) C dX11_mixCup_3 (by decide) ?_
    refine zr_icmp_ge (tgt := 25) C hf dX11_mixCup_5 (by decide) (fun hf => ?_) (fun hf => ?_)
    · refine zr_iconst (v := 0) C dX11_mixCup_25 (by decide) ?_
      refine zr_istore_n (lo2 := [(1, .int (0 : Int32)), (0, .ref (zB E + a0))]) C dX11_mixCup_26 rfl (by decide) rfl ?_
      have L27 : ∀ (fu : Nat) (x : zH × Int32), zloop (fun kc x => F_X11_mixCup_B27 n kc x.1 a0 x.2) fu x = some res → zW p l e (headSpec (zw yX11_mixCup cX11_mixCup 3 none) ({ frames := 1, cells := 0, slots := 0, locals := 23 } : Room)).room s m args below meth c E 3 (MQ below (zQc E res.2 none) args s 0 0 (zfr E)) 0 0 27 [(0, .ref (zB E + a0)), (1, .int x.2)] [] x.1 := by
        refine z_loop _ ?_
        intro kc27 hk27 x hf
        obtain ⟨h126, x125⟩ := x
        dsimp only at hf ⊢
        unfold F_X11_mixCup_B27 at hf
        refine zr_iload_n C dX11_mixCup_27 rfl 1 rfl ?_
        refine zr_aload_n C dX11_mixCup_28 rfl 0 rfl ?_
        refine zr_gr C hf kg_X11_7 (fun _ _ _ => rfl) dX11_mixCup_29 (fun w127 hf => ?_)
        refine zr_iconst (v := 0) C dX11_mixCup_32 (by decide) ?_
        refine zr_iaload C hf dX11_mixCup_33 (fun x128 hf => ?_)
        refine zr_icmp_ge (tgt := 76) C hf dX11_mixCup_34 (by decide) (fun hf => ?_) (fun hf => ?_)
        · refine zr_aload_n C dX11_mixCup_76 rfl 0 rfl ?_
          refine zr_callVv (As := []) (rest := []) C hf (fun x hx => c_X11_loadLive l E n h126 a0 x hx) kv_X11_201 rfl rfl (Nat.le_of_ble_eq_true rfl) ⟨rfl, rfl⟩ ⟨Nat.le_of_ble_eq_true rfl, Nat.le_of_ble_eq_true rfl⟩ ⟨Nat.le_of_ble_eq_true rfl, Nat.le_of_ble_eq_true rfl⟩ dX11_mixCup_77 (fun _ h129 hf => ?_)
          refine zr_iconst (v := 0) C dX11_mixCup_80 (by decide) ?_
          refine zr_istore_n (lo2 := [(1, .int (0 : Int32)), (0, .ref (zB E + a0))]) C dX11_mixCup_81 rfl (by decide) rfl ?_
          have L82 : ∀ (fu : Nat) (x : zH × Int32), zloop (fun kc x => F_X11_mixCup_B82 n kc x.1 a0 x.2) fu x = some res → zW p l e (headSpec (zw yX11_mixCup cX11_mixCup 3 none) ({ frames := 1, cells := 0, slots := 0, locals := 23 } : Room)).room s m args below meth c E 3 (MQ below (zQc E res.2 none) args s 0 0 (zfr E)) 0 0 82 [(0, .ref (zB E + a0)), (1, .int x.2)] [] x.1 := by
            refine z_loop _ ?_
            intro kc82 hk82 x hf
            obtain ⟨h131, x130⟩ := x
            dsimp only at hf ⊢
            unfold F_X11_mixCup_B82 at hf
            refine zr_iload_n C dX11_mixCup_82 rfl 1 rfl ?_
            refine zr_aload_n C dX11_mixCup_83 rfl 0 rfl ?_
            refine zr_gr C hf kg_X11_7 (fun _ _ _ => rfl) dX11_mixCup_84 (fun w132 hf => ?_)
            refine zr_iconst (v := 0) C dX11_mixCup_87 (by decide) ?_
            refine zr_iaload C hf dX11_mixCup_88 (fun x133 hf => ?_)
            refine zr_icmp_ge (tgt := 108) C hf dX11_mixCup_89 (by decide) (fun hf => ?_) (fun hf => ?_)
            · refine zr_iconst (v := 0) C dX11_mixCup_108 (by decide) ?_
              refine zr_istore_n (lo2 := [(1, .int (0 : Int32)), (0, .ref (zB E + a0))]) C dX11_mixCup_109 rfl (by decide) rfl ?_
              have L110 : ∀ (fu : Nat) (x : zH × Int32), zloop (fun kc x => F_X11_mixCup_B110 n kc x.1 a0 x.2) fu x = some res → zW p l e (headSpec (zw yX11_mixCup cX11_mixCup 3 none) ({ frames := 1, cells := 0, slots := 0, locals := 23 } : Room)).room s m args below meth c E 3 (MQ below (zQc E res.2 none) args s 0 0 (zfr E)) 0 0 110 [(0, .ref (zB E + a0)), (1, .int x.2)] [] x.1 := by
                refine z_loop _ ?_
                intro kc110 hk110 x hf
                obtain ⟨h135, x134⟩ := x
                dsimp only at hf ⊢
                unfold F_X11_mixCup_B110 at hf
                refine zr_iload_n C dX11_mixCup_110 rfl 1 rfl ?_
                refine zr_aload_n C dX11_mixCup_111 rfl 0 rfl ?_
                refine zr_gr C hf kg_X11_7 (fun _ _ _ => rfl) dX11_mixCup_112 (fun w136 hf => ?_)
                refine zr_iconst (v := 0) C dX11_mixCup_115 (by decide) ?_
                refine zr_iaload C hf dX11_mixCup_116 (fun x137 hf => ?_)
                refine zr_icmp_ge (tgt := 137) C hf dX11_mixCup_117 (by decide) (fun hf => ?_) (fun hf => ?_)
                · exact zr_return C hf hr (Nat.le_of_ble_eq_true rfl) (Nat.le_of_ble_eq_true rfl) dX11_mixCup_137
                · refine zr_aload_n C dX11_mixCup_120 rfl 0 rfl ?_
                  refine zr_aload_n C dX11_mixCup_121 rfl 0 rfl ?_
                  refine zr_gr C hf kg_X11_43 (fun _ _ _ => rfl) dX11_mixCup_122 (fun w138 hf => ?_)
                  refine zr_iload_n C dX11_mixCup_125 rfl 1 rfl ?_
                  refine zr_iaload C hf dX11_mixCup_126 (fun x139 hf => ?_)
                  refine zr_i2l C hf dX11_mixCup_127 (fun j140 hf => ?_)
                  refine zr_callVv (As := [.long j140]) (rest := []) C hf (fun x hx => c_X11_mix l E n h135 a0 j140 x hx) kv_X11_292 rfl rfl (Nat.le_of_ble_eq_true rfl) ⟨rfl, rfl⟩ ⟨Nat.le_of_ble_eq_true rfl, Nat.le_of_ble_eq_true rfl⟩ ⟨Nat.le_of_ble_eq_true rfl, Nat.le_of_ble_eq_true rfl⟩ dX11_mixCup_128 (fun _ h141 hf => ?_)
                  refine zr_iinc (v0 := 1) (k := 1) (f := fun v => [(1, .int v), (0, .ref (zB E + a0))]) C hf (by decide) dX11_mixCup_131 rfl (by decide) (fun v => rfl) (fun x142 hf => ?_)
                  refine zr_goto (tgt := 110) C dX11_mixCup_134 (by decide) ?_
                  refine zsub [1, 0] rfl ?_
                  exact hk110 (h141, x142) hf
              refine zsub [1, 0] rfl ?_
              exact L110 n (h131, (0 : Int32)) hf
            · refine zr_aload_n C dX11_mixCup_92 rfl 0 rfl ?_
              refine zr_aload_n C dX11_mixCup_93 rfl 0 rfl ?_
              refine zr_iload_n C dX11_mixCup_94 rfl 1 rfl ?_
              refine zr_callVi (As := [.int x130]) (rest := [.ref (zB E + a0)]) C hf (fun x hx => c_X11_secondNow l E n h131 a0 x130 x hx) kv_X11_182 rfl rfl (Nat.le_of_ble_eq_true rfl) ⟨rfl, rfl⟩ ⟨Nat.le_of_ble_eq_true rfl, Nat.le_of_ble_eq_true rfl⟩ ⟨Nat.le_of_ble_eq_true rfl, Nat.le_of_ble_eq_true rfl⟩ dX11_mixCup_95 (fun x144 h143 hf => ?_)
              refine zr_i2l C hf dX11_mixCup_98 (fun j145 hf => ?_)
              refine zr_callVv (As := [.long j145]) (rest := []) C hf (fun x hx => c_X11_mix l E n h143 a0 j145 x hx) kv_X11_292 rfl rfl (Nat.le_of_ble_eq_true rfl) ⟨rfl, rfl⟩ ⟨Nat.le_of_ble_eq_true rfl, Nat.le_of_ble_eq_true rfl⟩ ⟨Nat.le_of_ble_eq_true rfl, Nat.le_of_ble_eq_true rfl⟩ dX11_mixCup_99 (fun _ h146 hf => ?_)
              refine zr_iinc (v0 := 1) (k := 1) (f := fun v => [(1, .int v), (0, .ref (zB E + a0))]) C hf (by decide) dX11_mixCup_102 rfl (by decide) (fun v => rfl) (fun x147 hf => ?_)
              refine zr_goto (tgt := 82) C dX11_mixCup_105 (by decide) ?_
              refine zsub [1, 0] rfl ?_
              exact hk82 (h146, x147) hf
          refine zsub [1, 0] rfl ?_
          exact L82 n (h129, (0 : Int32)) hf
        · refine zr_iconst (v := 0) C dX11_mixCup_37 (by decide) ?_
          refine zr_istore_n (lo2 := [(2, .int (0 : Int32)), (0, .ref (zB E + a0)), (1, .int x125)]) C dX11_mixCup_38 rfl (by decide) rfl ?_
          have L39 : ∀ (fu : Nat) (x : zH × Int32), zloop (fun kc x => F_X11_mixCup_B39 n kc27 kc x.1 a0 x125 x.2) fu x = some res → zW p l e (headSpec (zw yX11_mixCup cX11_mixCup 3 none) ({ frames := 1, cells := 0, slots := 0, locals := 23 } : Room)).room s m args below meth c E 3 (MQ below (zQc E res.2 none) args s 0 0 (zfr E)) 0 0 39 [(0, .ref (zB E + a0)), (1, .int x125), (2, .int x.2)] [] x.1 := by
            refine z_loop _ ?_
            intro kc39 hk39 x hf
            obtain ⟨h149, x148⟩ := x
            dsimp only at hf ⊢
            unfold F_X11_mixCup_B39 at hf
            refine zr_iload_n C dX11_mixCup_39 rfl 2 rfl ?_
            refine zr_aload_n C dX11_mixCup_40 rfl 0 rfl ?_
            refine zr_gr C hf kg_X11_7 (fun _ _ _ => rfl) dX11_mixCup_41 (fun w150 hf => ?_)
            refine zr_iconst (v := 1) C dX11_mixCup_44 (by decide) ?_
            refine zr_iaload C hf dX11_mixCup_45 (fun x151 hf => ?_)
            refine zr_icmp_ge (tgt := 70) C hf dX11_mixCup_46 (by decide) (fun hf => ?_) (fun hf => ?_)
            · refine zr_iinc (v0 := 1) (k := 1) (f := fun v => [(1, .int v), (0, .ref (zB E + a0)), (2, .int x148)]) C hf (by decide) dX11_mixCup_70 rfl (by decide) (fun v => rfl) (fun x152 hf => ?_)
              refine zr_goto (tgt := 27) C dX11_mixCup_73 (by decide) ?_
              refine zsub [1, 0] rfl ?_
              exact hk27 (h149, x152) hf
            · refine zr_aload_n C dX11_mixCup_49 rfl 0 rfl ?_
              refine zr_aload_n C dX11_mixCup_50 rfl 0 rfl ?_
              refine zr_gr C hf kg_X11_13 (fun _ _ _ => rfl) dX11_mixCup_51 (fun w153 hf => ?_)
              refine zr_iconst (v := 4) C dX11_mixCup_54 (by decide) ?_
              refine zr_iload_n C dX11_mixCup_55 rfl 1 rfl ?_
              refine zr_imul C hf dX11_mixCup_56 (fun x154 hf => ?_)
              refine zr_iload_n C dX11_mixCup_57 rfl 2 rfl ?_
              refine zr_iadd C hf dX11_mixCup_58 (fun x155 hf => ?_)
              refine zr_iaload C hf dX11_mixCup_59 (fun x156 hf => ?_)
              refine zr_i2l C hf dX11_mixCup_60 (fun j157 hf => ?_)
              refine zr_callVv (As := [.long j157]) (rest := []) C hf (fun x hx => c_X11_mix l E n h149 a0 j157 x hx) kv_X11_292 rfl rfl (Nat.le_of_ble_eq_true rfl) ⟨rfl, rfl⟩ ⟨Nat.le_of_ble_eq_true rfl, Nat.le_of_ble_eq_true rfl⟩ ⟨Nat.le_of_ble_eq_true rfl, Nat.le_of_ble_eq_true rfl⟩ dX11_mixCup_61 (fun _ h158 hf => ?_)
              refine zr_iinc (v0 := 1) (k := 2) (f := fun v => [(2, .int v), (0, .ref (zB E + a0)), (1, .int x125)]) C hf (by decide) dX11_mixCup_64 rfl (by decide) (fun v => rfl) (fun x159 hf => ?_)
              refine zr_goto (tgt := 39) C dX11_mixCup_67 (by decide) ?_
              refine zsub [1, 2, 0] rfl ?_
              exact hk39 (h158, x159) hf
          refine zsub [1, 2, 0] rfl ?_
          exact L39 n (h126, (0 : Int32)) hf
      refine zsub [1, 0] rfl ?_
      exact L27 n (h124, (0 : Int32)) hf
    · refine zr_aload_n C dX11_mixCup_8 rfl 0 rfl ?_
      refine zr_aload_n C dX11_mixCup_9 rfl 0 rfl ?_
      refine zr_gr C hf kg_X11_7 (fun _ _ _ => rfl) dX11_mixCup_10 (fun w160 hf => ?_)
      refine zr_iload_n C dX11_mixCup_13 rfl 1 rfl ?_
      refine zr_iaload C hf dX11_mixCup_14 (fun x161 hf => ?_)
      refine zr_i2l C hf dX11_mixCup_15 (fun j162 hf => ?_)
      refine zr_callVv (As := [.long j162]) (rest := []) C hf (fun x hx => c_X11_mix l E n h124 a0 j162 x hx) kv_X11_292 rfl rfl (Nat.le_of_ble_eq_true rfl) ⟨rfl, rfl⟩ ⟨Nat.le_of_ble_eq_true rfl, Nat.le_of_ble_eq_true rfl⟩ ⟨Nat.le_of_ble_eq_true rfl, Nat.le_of_ble_eq_true rfl⟩ dX11_mixCup_16 (fun _ h163 hf => ?_)
      refine zr_iinc (v0 := 1) (k := 1) (f := fun v => [(1, .int v), (0, .ref (zB E + a0))]) C hf (by decide) dX11_mixCup_19 rfl (by decide) (fun v => rfl) (fun x164 hf => ?_)
      refine zr_goto (tgt := 2) C dX11_mixCup_22 (by decide) ?_
      refine zsub [1, 0] rfl ?_
      exact hk2 (h163, x164) hf
  refine zsub [1, 0] rfl ?_
  exact L2 n (h, (0 : Int32)) hf
theorem dX11_mixRow_0 : decode cX11_mixRow 0 = .ok (.aload_n 0, 1) := by decide +kernel
theorem dX11_mixRow_1 : decode cX11_mixRow 1 = .ok (.aload_n 0, 1) := by decide +kernel
theorem dX11_mixRow_2 : decode cX11_mixRow 2 = .ok (.getfield 46, 3) := by decide +kernel
theorem dX11_mixRow_5 : decode cX11_mixRow 5 = .ok (.iload_n 1, 1) := by decide +kernel
theorem dX11_mixRow_6 : decode cX11_mixRow 6 = .ok (.iaload, 1) := by decide +kernel
theorem dX11_mixRow_7 : decode cX11_mixRow 7 = .ok (.i2l, 1) := by decide +kernel
theorem dX11_mixRow_8 : decode cX11_mixRow 8 = .ok (.invokevirtual 292, 3) := by decide +kernel
theorem dX11_mixRow_11 : decode cX11_mixRow 11 = .ok (.iconst 0, 1) := by decide +kernel
theorem dX11_mixRow_12 : decode cX11_mixRow 12 = .ok (.istore_n 2, 1) := by decide +kernel
theorem dX11_mixRow_13 : decode cX11_mixRow 13 = .ok (.iload_n 2, 1) := by decide +kernel
theorem dX11_mixRow_14 : decode cX11_mixRow 14 = .ok (.aload_n 0, 1) := by decide +kernel
theorem dX11_mixRow_15 : decode cX11_mixRow 15 = .ok (.getfield 46, 3) := by decide +kernel
theorem dX11_mixRow_18 : decode cX11_mixRow 18 = .ok (.iload_n 1, 1) := by decide +kernel
theorem dX11_mixRow_19 : decode cX11_mixRow 19 = .ok (.iaload, 1) := by decide +kernel
theorem dX11_mixRow_20 : decode cX11_mixRow 20 = .ok (.if_icmp .ge 41, 3) := by decide +kernel
theorem dX11_mixRow_23 : decode cX11_mixRow 23 = .ok (.aload_n 0, 1) := by decide +kernel
theorem dX11_mixRow_24 : decode cX11_mixRow 24 = .ok (.aload_n 0, 1) := by decide +kernel
theorem dX11_mixRow_25 : decode cX11_mixRow 25 = .ok (.getfield 49, 3) := by decide +kernel
theorem dX11_mixRow_28 : decode cX11_mixRow 28 = .ok (.bipush 6, 2) := by decide +kernel
theorem dX11_mixRow_30 : decode cX11_mixRow 30 = .ok (.iload_n 1, 1) := by decide +kernel
theorem dX11_mixRow_31 : decode cX11_mixRow 31 = .ok (.imul, 1) := by decide +kernel
theorem dX11_mixRow_32 : decode cX11_mixRow 32 = .ok (.iload_n 2, 1) := by decide +kernel
theorem dX11_mixRow_33 : decode cX11_mixRow 33 = .ok (.iadd, 1) := by decide +kernel
theorem dX11_mixRow_34 : decode cX11_mixRow 34 = .ok (.iaload, 1) := by decide +kernel
theorem dX11_mixRow_35 : decode cX11_mixRow 35 = .ok (.i2l, 1) := by decide +kernel
theorem dX11_mixRow_36 : decode cX11_mixRow 36 = .ok (.invokevirtual 292, 3) := by decide +kernel
theorem dX11_mixRow_39 : decode cX11_mixRow 39 = .ok (.aload_n 0, 1) := by decide +kernel
theorem dX11_mixRow_40 : decode cX11_mixRow 40 = .ok (.aload_n 0, 1) := by decide +kernel
theorem dX11_mixRow_41 : decode cX11_mixRow 41 = .ok (.getfield 52, 3) := by decide +kernel
theorem dX11_mixRow_44 : decode cX11_mixRow 44 = .ok (.bipush 6, 2) := by decide +kernel
theorem dX11_mixRow_46 : decode cX11_mixRow 46 = .ok (.iload_n 1, 1) := by decide +kernel
theorem dX11_mixRow_47 : decode cX11_mixRow 47 = .ok (.imul, 1) := by decide +kernel
theorem dX11_mixRow_48 : decode cX11_mixRow 48 = .ok (.iload_n 2, 1) := by decide +kernel
theorem dX11_mixRow_49 : decode cX11_mixRow 49 = .ok (.iadd, 1) := by decide +kernel
theorem dX11_mixRow_50 : decode cX11_mixRow 50 = .ok (.iaload, 1) := by decide +kernel
theorem dX11_mixRow_51 : decode cX11_mixRow 51 = .ok (.i2l, 1) := by decide +kernel
theorem dX11_mixRow_52 : decode cX11_mixRow 52 = .ok (.invokevirtual 292, 3) := by decide +kernel
theorem dX11_mixRow_55 : decode cX11_mixRow 55 = .ok (.iinc 2 1, 3) := by decide +kernel
theorem dX11_mixRow_58 : decode cX11_mixRow 58 = .ok (.goto (-45), 3) := by decide +kernel
theorem dX11_mixRow_61 : decode cX11_mixRow 61 = .ok (.aload_n 0, 1) := by decide +kernel
theorem dX11_mixRow_62 : decode cX11_mixRow 62 = .ok (.getfield 149, 3) := by decide +kernel
theorem dX11_mixRow_65 : decode cX11_mixRow 65 = .ok (.ifCond .eq 35, 3) := by decide +kernel
theorem dX11_mixRow_68 : decode cX11_mixRow 68 = .ok (.aload_n 0, 1) := by decide +kernel
theorem dX11_mixRow_69 : decode cX11_mixRow 69 = .ok (.iload_n 1, 1) := by decide +kernel
theorem dX11_mixRow_70 : decode cX11_mixRow 70 = .ok (.invokevirtual 222, 3) := by decide +kernel
theorem dX11_mixRow_73 : decode cX11_mixRow 73 = .ok (.iconst 0, 1) := by decide +kernel
theorem dX11_mixRow_74 : decode cX11_mixRow 74 = .ok (.istore_n 2, 1) := by decide +kernel
theorem dX11_mixRow_75 : decode cX11_mixRow 75 = .ok (.iload_n 2, 1) := by decide +kernel
theorem dX11_mixRow_76 : decode cX11_mixRow 76 = .ok (.aload_n 0, 1) := by decide +kernel
theorem dX11_mixRow_77 : decode cX11_mixRow 77 = .ok (.getfield 146, 3) := by decide +kernel
theorem dX11_mixRow_80 : decode cX11_mixRow 80 = .ok (.if_icmp .ge 20, 3) := by decide +kernel
theorem dX11_mixRow_83 : decode cX11_mixRow 83 = .ok (.aload_n 0, 1) := by decide +kernel
theorem dX11_mixRow_84 : decode cX11_mixRow 84 = .ok (.aload_n 0, 1) := by decide +kernel
theorem dX11_mixRow_85 : decode cX11_mixRow 85 = .ok (.getfield 40, 3) := by decide +kernel
theorem dX11_mixRow_88 : decode cX11_mixRow 88 = .ok (.iload_n 2, 1) := by decide +kernel
theorem dX11_mixRow_89 : decode cX11_mixRow 89 = .ok (.iaload, 1) := by decide +kernel
theorem dX11_mixRow_90 : decode cX11_mixRow 90 = .ok (.i2l, 1) := by decide +kernel
theorem dX11_mixRow_91 : decode cX11_mixRow 91 = .ok (.invokevirtual 292, 3) := by decide +kernel
theorem dX11_mixRow_94 : decode cX11_mixRow 94 = .ok (.iinc 2 1, 3) := by decide +kernel
theorem dX11_mixRow_97 : decode cX11_mixRow 97 = .ok (.goto (-22), 3) := by decide +kernel
theorem dX11_mixRow_100 : decode cX11_mixRow 100 = .ok (.return_, 1) := by decide +kernel
set_option maxHeartbeats 4000000 in
set_option maxRecDepth 100000 in
theorem c_X11_mixRow (l : Launch) (E : zE) (n : Nat) (h : zH) (a0 : Nat) (p0 : Int32) (res : Unit × zH) (hf : F_X11_mixRow n h a0 p0 = some res) : Met l yX11_mixRow (zw yX11_mixRow cX11_mixRow 3 none) ({ frames := 5, cells := 0, slots := 0, locals := 120 } : Room) (zPc E h [.ref (zB E + a0), .int p0]) (zQc E res.2 none) 0 0 (zfr E) := by
  refine zmet (lo := [(0, .ref (zB E + a0)), (1, .int p0)]) (by decide +kernel) (Nat.le_of_ble_eq_true rfl) rfl ?_
  intro p e s m args below meth c C hr hin
  unfold F_X11_mixRow at hf
  have J100 : ∀ (h2 : zH), F_X11_mixRow_J100 n h2 = some res → zW p l e (headSpec (zw yX11_mixRow cX11_mixRow 3 none) ({ frames := 5, cells := 0, slots := 0, locals := 120 } : Room)).room s m args below meth c E 3 (MQ below (zQc E res.2 none) args s 0 0 (zfr E)) 0 0 100 [] [] h2 := by
    intro h2 hf
    unfold F_X11_mixRow_J100 at hf
    exact zr_return C hf hr (Nat.le_of_ble_eq_true rfl) (Nat.le_of_ble_eq_true rfl) dX11_mixRow_100
  refine zr_aload_n C dX11_mixRow_0 rfl 0 rfl ?_
  refine zr_aload_n C dX11_mixRow_1 rfl 0 rfl ?_
  refine zr_gr C hf kg_X11_46 (fun _ _ _ => rfl) dX11_mixRow_2 (fun w3 hf => ?_)
  refine zr_iload_n C dX11_mixRow_5 rfl 1 rfl ?_
  refine zr_iaload C hf dX11_mixRow_6 (fun x4 hf => ?_)
  refine zr_i2l C hf dX11_mixRow_7 (fun j5 hf => ?_)
  refine zr_callVv (As := [.long j5]) (rest := []) C hf (fun x hx => c_X11_mix l E n h a0 j5 x hx) kv_X11_292 rfl rfl (Nat.le_of_ble_eq_true rfl) ⟨rfl, rfl⟩ ⟨Nat.le_of_ble_eq_true rfl, Nat.le_of_ble_eq_true rfl⟩ ⟨Nat.le_of_ble_eq_true rfl, Nat.le_of_ble_eq_true rfl⟩ dX11_mixRow_8 (fun _ h6 hf => ?_)
  refine zr_iconst (v := 0) C dX11_mixRow_11 (by decide) ?_
  refine zr_istore_n (lo2 := [(2, .int (0 : Int32)), (0, .ref (zB E + a0)), (1, .int p0)]) C dX11_mixRow_12 rfl (by decide) rfl ?_
  have L13 : ∀ (fu : Nat) (x : zH × Int32), zloop (fun kc x => F_X11_mixRow_B13 n kc x.1 a0 p0 x.2) fu x = some res → zW p l e (headSpec (zw yX11_mixRow cX11_mixRow 3 none) ({ frames := 5, cells := 0, slots := 0, locals := 120 } : Room)).room s m args below meth c E 3 (MQ below (zQc E res.2 none) args s 0 0 (zfr E)) 0 0 13 [(0, .ref (zB E + a0)), (1, .int p0), (2, .int x.2)] [] x.1 := by
    refine z_loop _ ?_
    intro kc13 hk13 x hf
    obtain ⟨h46, x45⟩ := x
    dsimp only at hf ⊢
    unfold F_X11_mixRow_B13 at hf
    refine zr_iload_n C dX11_mixRow_13 rfl 2 rfl ?_
    refine zr_aload_n C dX11_mixRow_14 rfl 0 rfl ?_
    refine zr_gr C hf kg_X11_46 (fun _ _ _ => rfl) dX11_mixRow_15 (fun w47 hf => ?_)
    refine zr_iload_n C dX11_mixRow_18 rfl 1 rfl ?_
    refine zr_iaload C hf dX11_mixRow_19 (fun x48 hf => ?_)
    refine zr_icmp_ge (tgt := 61) C hf dX11_mixRow_20 (by decide) (fun hf => ?_) (fun hf => ?_)
    · refine zr_aload_n C dX11_mixRow_61 rfl 0 rfl ?_
      refine zr_gi C hf kg_X11_149 (fun _ _ _ => rfl) dX11_mixRow_62 (fun x49 hf => ?_)
      refine zr_if_eq (tgt := 100) C hf dX11_mixRow_65 (by decide) (fun hf => ?_) (fun hf => ?_)
      · refine zsub [] rfl ?_
        exact J100 h46 hf
      · refine zr_aload_n C dX11_mixRow_68 rfl 0 rfl ?_
        refine zr_iload_n C dX11_mixRow_69 rfl 1 rfl ?_
        refine zr_callVv (As := [.int p0]) (rest := []) C hf (fun x hx => c_X11_layRow l E n h46 a0 p0 x hx) kv_X11_222 rfl rfl (Nat.le_of_ble_eq_true rfl) ⟨rfl, rfl⟩ ⟨Nat.le_of_ble_eq_true rfl, Nat.le_of_ble_eq_true rfl⟩ ⟨Nat.le_of_ble_eq_true rfl, Nat.le_of_ble_eq_true rfl⟩ dX11_mixRow_70 (fun _ h50 hf => ?_)
        refine zr_iconst (v := 0) C dX11_mixRow_73 (by decide) ?_
        refine zr_istore_n (lo2 := [(2, .int (0 : Int32)), (0, .ref (zB E + a0)), (1, .int p0)]) C dX11_mixRow_74 rfl (by decide) rfl ?_
        have L75 : ∀ (fu : Nat) (x : zH × Int32), zloop (fun kc x => F_X11_mixRow_B75 n kc x.1 a0 x.2) fu x = some res → zW p l e (headSpec (zw yX11_mixRow cX11_mixRow 3 none) ({ frames := 5, cells := 0, slots := 0, locals := 120 } : Room)).room s m args below meth c E 3 (MQ below (zQc E res.2 none) args s 0 0 (zfr E)) 0 0 75 [(0, .ref (zB E + a0)), (2, .int x.2)] [] x.1 := by
          refine z_loop _ ?_
          intro kc75 hk75 x hf
          obtain ⟨h52, x51⟩ := x
          dsimp only at hf ⊢
          unfold F_X11_mixRow_B75 at hf
          refine zr_iload_n C dX11_mixRow_75 rfl 1 rfl ?_
          refine zr_aload_n C dX11_mixRow_76 rfl 0 rfl ?_
          refine zr_gi C hf kg_X11_146 (fun _ _ _ => rfl) dX11_mixRow_77 (fun x53 hf => ?_)
          refine zr_icmp_ge (tgt := 100) C hf dX11_mixRow_80 (by decide) (fun hf => ?_) (fun hf => ?_)
          · refine zsub [] rfl ?_
            exact J100 h52 hf
          · refine zr_aload_n C dX11_mixRow_83 rfl 0 rfl ?_
            refine zr_aload_n C dX11_mixRow_84 rfl 0 rfl ?_
            refine zr_gr C hf kg_X11_40 (fun _ _ _ => rfl) dX11_mixRow_85 (fun w54 hf => ?_)
            refine zr_iload_n C dX11_mixRow_88 rfl 1 rfl ?_
            refine zr_iaload C hf dX11_mixRow_89 (fun x55 hf => ?_)
            refine zr_i2l C hf dX11_mixRow_90 (fun j56 hf => ?_)
            refine zr_callVv (As := [.long j56]) (rest := []) C hf (fun x hx => c_X11_mix l E n h52 a0 j56 x hx) kv_X11_292 rfl rfl (Nat.le_of_ble_eq_true rfl) ⟨rfl, rfl⟩ ⟨Nat.le_of_ble_eq_true rfl, Nat.le_of_ble_eq_true rfl⟩ ⟨Nat.le_of_ble_eq_true rfl, Nat.le_of_ble_eq_true rfl⟩ dX11_mixRow_91 (fun _ h57 hf => ?_)
            refine zr_iinc (v0 := 1) (k := 1) (f := fun v => [(2, .int v), (0, .ref (zB E + a0))]) C hf (by decide) dX11_mixRow_94 rfl (by decide) (fun v => rfl) (fun x58 hf => ?_)
            refine zr_goto (tgt := 75) C dX11_mixRow_97 (by decide) ?_
            refine zsub [1, 0] rfl ?_
            exact hk75 (h57, x58) hf
        refine zsub [1, 0] rfl ?_
        exact L75 n (h50, (0 : Int32)) hf
    · refine zr_aload_n C dX11_mixRow_23 rfl 0 rfl ?_
      refine zr_aload_n C dX11_mixRow_24 rfl 0 rfl ?_
      refine zr_gr C hf kg_X11_49 (fun _ _ _ => rfl) dX11_mixRow_25 (fun w59 hf => ?_)
      refine zr_bipush (v := 6) C dX11_mixRow_28 (by decide) ?_
      refine zr_iload_n C dX11_mixRow_30 rfl 1 rfl ?_
      refine zr_imul C hf dX11_mixRow_31 (fun x60 hf => ?_)
      refine zr_iload_n C dX11_mixRow_32 rfl 2 rfl ?_
      refine zr_iadd C hf dX11_mixRow_33 (fun x61 hf => ?_)
      refine zr_iaload C hf dX11_mixRow_34 (fun x62 hf => ?_)
      refine zr_i2l C hf dX11_mixRow_35 (fun j63 hf => ?_)
      refine zr_callVv (As := [.long j63]) (rest := []) C hf (fun x hx => c_X11_mix l E n h46 a0 j63 x hx) kv_X11_292 rfl rfl (Nat.le_of_ble_eq_true rfl) ⟨rfl, rfl⟩ ⟨Nat.le_of_ble_eq_true rfl, Nat.le_of_ble_eq_true rfl⟩ ⟨Nat.le_of_ble_eq_true rfl, Nat.le_of_ble_eq_true rfl⟩ dX11_mixRow_36 (fun _ h64 hf => ?_)
      refine zr_aload_n C dX11_mixRow_39 rfl 0 rfl ?_
      refine zr_aload_n C dX11_mixRow_40 rfl 0 rfl ?_
      refine zr_gr C hf kg_X11_52 (fun _ _ _ => rfl) dX11_mixRow_41 (fun w65 hf => ?_)
      refine zr_bipush (v := 6) C dX11_mixRow_44 (by decide) ?_
      refine zr_iload_n C dX11_mixRow_46 rfl 1 rfl ?_
      refine zr_imul C hf dX11_mixRow_47 (fun x66 hf => ?_)
      refine zr_iload_n C dX11_mixRow_48 rfl 2 rfl ?_
      refine zr_iadd C hf dX11_mixRow_49 (fun x67 hf => ?_)
      refine zr_iaload C hf dX11_mixRow_50 (fun x68 hf => ?_)
      refine zr_i2l C hf dX11_mixRow_51 (fun j69 hf => ?_)
      refine zr_callVv (As := [.long j69]) (rest := []) C hf (fun x hx => c_X11_mix l E n h64 a0 j69 x hx) kv_X11_292 rfl rfl (Nat.le_of_ble_eq_true rfl) ⟨rfl, rfl⟩ ⟨Nat.le_of_ble_eq_true rfl, Nat.le_of_ble_eq_true rfl⟩ ⟨Nat.le_of_ble_eq_true rfl, Nat.le_of_ble_eq_true rfl⟩ dX11_mixRow_52 (fun _ h70 hf => ?_)
      refine zr_iinc (v0 := 1) (k := 2) (f := fun v => [(2, .int v), (0, .ref (zB E + a0)), (1, .int p0)]) C hf (by decide) dX11_mixRow_55 rfl (by decide) (fun v => rfl) (fun x71 hf => ?_)
      refine zr_goto (tgt := 13) C dX11_mixRow_58 (by decide) ?_
      refine zsub [1, 2, 0] rfl ?_
      exact hk13 (h70, x71) hf
  refine zsub [1, 2, 0] rfl ?_
  exact L13 n (h6, (0 : Int32)) hf
theorem dX11_digest_0 : decode cX11_digest 0 = .ok (.aload_n 0, 1) := by decide +kernel
theorem dX11_digest_1 : decode cX11_digest 1 = .ok (.ldc2_w 296, 3) := by decide +kernel
theorem dX11_digest_4 : decode cX11_digest 4 = .ok (.putfield 288, 3) := by decide +kernel
theorem dX11_digest_7 : decode cX11_digest 7 = .ok (.aload_n 0, 1) := by decide +kernel
theorem dX11_digest_8 : decode cX11_digest 8 = .ok (.getfield 149, 3) := by decide +kernel
theorem dX11_digest_11 : decode cX11_digest 11 = .ok (.ifCond .eq 7, 3) := by decide +kernel
theorem dX11_digest_14 : decode cX11_digest 14 = .ok (.aload_n 0, 1) := by decide +kernel
theorem dX11_digest_15 : decode cX11_digest 15 = .ok (.invokevirtual 298, 3) := by decide +kernel
theorem dX11_digest_18 : decode cX11_digest 18 = .ok (.iconst 0, 1) := by decide +kernel
theorem dX11_digest_19 : decode cX11_digest 19 = .ok (.istore_n 1, 1) := by decide +kernel
theorem dX11_digest_20 : decode cX11_digest 20 = .ok (.iload_n 1, 1) := by decide +kernel
theorem dX11_digest_21 : decode cX11_digest 21 = .ok (.aload_n 0, 1) := by decide +kernel
theorem dX11_digest_22 : decode cX11_digest 22 = .ok (.getfield 161, 3) := by decide +kernel
theorem dX11_digest_25 : decode cX11_digest 25 = .ok (.if_icmp .ge 31, 3) := by decide +kernel
theorem dX11_digest_28 : decode cX11_digest 28 = .ok (.aload_n 0, 1) := by decide +kernel
theorem dX11_digest_29 : decode cX11_digest 29 = .ok (.aload_n 0, 1) := by decide +kernel
theorem dX11_digest_30 : decode cX11_digest 30 = .ok (.getfield 19, 3) := by decide +kernel
theorem dX11_digest_33 : decode cX11_digest 33 = .ok (.iload_n 1, 1) := by decide +kernel
theorem dX11_digest_34 : decode cX11_digest 34 = .ok (.iaload, 1) := by decide +kernel
theorem dX11_digest_35 : decode cX11_digest 35 = .ok (.i2l, 1) := by decide +kernel
theorem dX11_digest_36 : decode cX11_digest 36 = .ok (.invokevirtual 292, 3) := by decide +kernel
theorem dX11_digest_39 : decode cX11_digest 39 = .ok (.aload_n 0, 1) := by decide +kernel
theorem dX11_digest_40 : decode cX11_digest 40 = .ok (.aload_n 0, 1) := by decide +kernel
theorem dX11_digest_41 : decode cX11_digest 41 = .ok (.getfield 22, 3) := by decide +kernel
theorem dX11_digest_44 : decode cX11_digest 44 = .ok (.iload_n 1, 1) := by decide +kernel
theorem dX11_digest_45 : decode cX11_digest 45 = .ok (.iaload, 1) := by decide +kernel
theorem dX11_digest_46 : decode cX11_digest 46 = .ok (.i2l, 1) := by decide +kernel
theorem dX11_digest_47 : decode cX11_digest 47 = .ok (.invokevirtual 292, 3) := by decide +kernel
theorem dX11_digest_50 : decode cX11_digest 50 = .ok (.iinc 1 1, 3) := by decide +kernel
theorem dX11_digest_53 : decode cX11_digest 53 = .ok (.goto (-33), 3) := by decide +kernel
theorem dX11_digest_56 : decode cX11_digest 56 = .ok (.iconst 0, 1) := by decide +kernel
theorem dX11_digest_57 : decode cX11_digest 57 = .ok (.istore_n 1, 1) := by decide +kernel
theorem dX11_digest_58 : decode cX11_digest 58 = .ok (.iload_n 1, 1) := by decide +kernel
theorem dX11_digest_59 : decode cX11_digest 59 = .ok (.aload_n 0, 1) := by decide +kernel
theorem dX11_digest_60 : decode cX11_digest 60 = .ok (.getfield 146, 3) := by decide +kernel
theorem dX11_digest_63 : decode cX11_digest 63 = .ok (.if_icmp .ge 34, 3) := by decide +kernel
theorem dX11_digest_66 : decode cX11_digest 66 = .ok (.iconst 0, 1) := by decide +kernel
theorem dX11_digest_67 : decode cX11_digest 67 = .ok (.istore_n 2, 1) := by decide +kernel
theorem dX11_digest_68 : decode cX11_digest 68 = .ok (.iload_n 2, 1) := by decide +kernel
theorem dX11_digest_69 : decode cX11_digest 69 = .ok (.bipush 6, 2) := by decide +kernel
theorem dX11_digest_71 : decode cX11_digest 71 = .ok (.if_icmp .ge 20, 3) := by decide +kernel
theorem dX11_digest_74 : decode cX11_digest 74 = .ok (.aload_n 0, 1) := by decide +kernel
theorem dX11_digest_75 : decode cX11_digest 75 = .ok (.aload_n 0, 1) := by decide +kernel
theorem dX11_digest_76 : decode cX11_digest 76 = .ok (.iload_n 1, 1) := by decide +kernel
theorem dX11_digest_77 : decode cX11_digest 77 = .ok (.iload_n 2, 1) := by decide +kernel
theorem dX11_digest_78 : decode cX11_digest 78 = .ok (.invokevirtual 198, 3) := by decide +kernel
theorem dX11_digest_81 : decode cX11_digest 81 = .ok (.i2l, 1) := by decide +kernel
theorem dX11_digest_82 : decode cX11_digest 82 = .ok (.invokevirtual 292, 3) := by decide +kernel
theorem dX11_digest_85 : decode cX11_digest 85 = .ok (.iinc 2 1, 3) := by decide +kernel
theorem dX11_digest_88 : decode cX11_digest 88 = .ok (.goto (-20), 3) := by decide +kernel
theorem dX11_digest_91 : decode cX11_digest 91 = .ok (.iinc 1 1, 3) := by decide +kernel
theorem dX11_digest_94 : decode cX11_digest 94 = .ok (.goto (-36), 3) := by decide +kernel
theorem dX11_digest_97 : decode cX11_digest 97 = .ok (.iconst 0, 1) := by decide +kernel
theorem dX11_digest_98 : decode cX11_digest 98 = .ok (.istore_n 1, 1) := by decide +kernel
theorem dX11_digest_99 : decode cX11_digest 99 = .ok (.iload_n 1, 1) := by decide +kernel
theorem dX11_digest_100 : decode cX11_digest 100 = .ok (.aload_n 0, 1) := by decide +kernel
theorem dX11_digest_101 : decode cX11_digest 101 = .ok (.getfield 155, 3) := by decide +kernel
theorem dX11_digest_104 : decode cX11_digest 104 = .ok (.if_icmp .ge 14, 3) := by decide +kernel
theorem dX11_digest_107 : decode cX11_digest 107 = .ok (.aload_n 0, 1) := by decide +kernel
theorem dX11_digest_108 : decode cX11_digest 108 = .ok (.iload_n 1, 1) := by decide +kernel
theorem dX11_digest_109 : decode cX11_digest 109 = .ok (.invokevirtual 301, 3) := by decide +kernel
theorem dX11_digest_112 : decode cX11_digest 112 = .ok (.iinc 1 1, 3) := by decide +kernel
theorem dX11_digest_115 : decode cX11_digest 115 = .ok (.goto (-16), 3) := by decide +kernel
theorem dX11_digest_118 : decode cX11_digest 118 = .ok (.iconst 0, 1) := by decide +kernel
theorem dX11_digest_119 : decode cX11_digest 119 = .ok (.istore_n 1, 1) := by decide +kernel
theorem dX11_digest_120 : decode cX11_digest 120 = .ok (.iload_n 1, 1) := by decide +kernel
theorem dX11_digest_121 : decode cX11_digest 121 = .ok (.aload_n 0, 1) := by decide +kernel
theorem dX11_digest_122 : decode cX11_digest 122 = .ok (.getfield 246, 3) := by decide +kernel
theorem dX11_digest_125 : decode cX11_digest 125 = .ok (.if_icmp .ge 31, 3) := by decide +kernel
theorem dX11_digest_128 : decode cX11_digest 128 = .ok (.aload_n 0, 1) := by decide +kernel
theorem dX11_digest_129 : decode cX11_digest 129 = .ok (.aload_n 0, 1) := by decide +kernel
theorem dX11_digest_130 : decode cX11_digest 130 = .ok (.getfield 55, 3) := by decide +kernel
theorem dX11_digest_133 : decode cX11_digest 133 = .ok (.iload_n 1, 1) := by decide +kernel
theorem dX11_digest_134 : decode cX11_digest 134 = .ok (.iaload, 1) := by decide +kernel
theorem dX11_digest_135 : decode cX11_digest 135 = .ok (.i2l, 1) := by decide +kernel
theorem dX11_digest_136 : decode cX11_digest 136 = .ok (.invokevirtual 292, 3) := by decide +kernel
theorem dX11_digest_139 : decode cX11_digest 139 = .ok (.aload_n 0, 1) := by decide +kernel
theorem dX11_digest_140 : decode cX11_digest 140 = .ok (.aload_n 0, 1) := by decide +kernel
theorem dX11_digest_141 : decode cX11_digest 141 = .ok (.getfield 58, 3) := by decide +kernel
theorem dX11_digest_144 : decode cX11_digest 144 = .ok (.iload_n 1, 1) := by decide +kernel
theorem dX11_digest_145 : decode cX11_digest 145 = .ok (.iaload, 1) := by decide +kernel
theorem dX11_digest_146 : decode cX11_digest 146 = .ok (.i2l, 1) := by decide +kernel
theorem dX11_digest_147 : decode cX11_digest 147 = .ok (.invokevirtual 292, 3) := by decide +kernel
theorem dX11_digest_150 : decode cX11_digest 150 = .ok (.iinc 1 1, 3) := by decide +kernel
theorem dX11_digest_153 : decode cX11_digest 153 = .ok (.goto (-33), 3) := by decide +kernel
theorem dX11_digest_156 : decode cX11_digest 156 = .ok (.iconst 0, 1) := by decide +kernel
theorem dX11_digest_157 : decode cX11_digest 157 = .ok (.istore_n 1, 1) := by decide +kernel
theorem dX11_digest_158 : decode cX11_digest 158 = .ok (.iload_n 1, 1) := by decide +kernel
theorem dX11_digest_159 : decode cX11_digest 159 = .ok (.aload_n 0, 1) := by decide +kernel
theorem dX11_digest_160 : decode cX11_digest 160 = .ok (.getfield 158, 3) := by decide +kernel
theorem dX11_digest_163 : decode cX11_digest 163 = .ok (.if_icmp .ge 38, 3) := by decide +kernel
theorem dX11_digest_166 : decode cX11_digest 166 = .ok (.aload_n 0, 1) := by decide +kernel
theorem dX11_digest_167 : decode cX11_digest 167 = .ok (.aload_n 0, 1) := by decide +kernel
theorem dX11_digest_168 : decode cX11_digest 168 = .ok (.getfield 61, 3) := by decide +kernel
theorem dX11_digest_171 : decode cX11_digest 171 = .ok (.iload_n 1, 1) := by decide +kernel
theorem dX11_digest_172 : decode cX11_digest 172 = .ok (.iaload, 1) := by decide +kernel
theorem dX11_digest_173 : decode cX11_digest 173 = .ok (.i2l, 1) := by decide +kernel
theorem dX11_digest_174 : decode cX11_digest 174 = .ok (.invokevirtual 292, 3) := by decide +kernel
theorem dX11_digest_177 : decode cX11_digest 177 = .ok (.aload_n 0, 1) := by decide +kernel
theorem dX11_digest_178 : decode cX11_digest 178 = .ok (.aload_n 0, 1) := by decide +kernel
theorem dX11_digest_179 : decode cX11_digest 179 = .ok (.getfield 64, 3) := by decide +kernel
theorem dX11_digest_182 : decode cX11_digest 182 = .ok (.iload_n 1, 1) := by decide +kernel
theorem dX11_digest_183 : decode cX11_digest 183 = .ok (.baload, 1) := by decide +kernel
theorem dX11_digest_184 : decode cX11_digest 184 = .ok (.ifCond .eq 7, 3) := by decide +kernel
theorem dX11_digest_187 : decode cX11_digest 187 = .ok (.lconst 1, 1) := by decide +kernel
theorem dX11_digest_188 : decode cX11_digest 188 = .ok (.goto 4, 3) := by decide +kernel
theorem dX11_digest_191 : decode cX11_digest 191 = .ok (.lconst 0, 1) := by decide +kernel
theorem dX11_digest_192 : decode cX11_digest 192 = .ok (.invokevirtual 292, 3) := by decide +kernel
theorem dX11_digest_195 : decode cX11_digest 195 = .ok (.iinc 1 1, 3) := by decide +kernel
theorem dX11_digest_198 : decode cX11_digest 198 = .ok (.goto (-40), 3) := by decide +kernel
theorem dX11_digest_201 : decode cX11_digest 201 = .ok (.iconst 0, 1) := by decide +kernel
theorem dX11_digest_202 : decode cX11_digest 202 = .ok (.istore_n 1, 1) := by decide +kernel
theorem dX11_digest_203 : decode cX11_digest 203 = .ok (.iload_n 1, 1) := by decide +kernel
theorem dX11_digest_204 : decode cX11_digest 204 = .ok (.aload_n 0, 1) := by decide +kernel
theorem dX11_digest_205 : decode cX11_digest 205 = .ok (.getfield 107, 3) := by decide +kernel
theorem dX11_digest_208 : decode cX11_digest 208 = .ok (.if_icmp .ge 20, 3) := by decide +kernel
theorem dX11_digest_211 : decode cX11_digest 211 = .ok (.aload_n 0, 1) := by decide +kernel
theorem dX11_digest_212 : decode cX11_digest 212 = .ok (.aload_n 0, 1) := by decide +kernel
theorem dX11_digest_213 : decode cX11_digest 213 = .ok (.getfield 68, 3) := by decide +kernel
theorem dX11_digest_216 : decode cX11_digest 216 = .ok (.iload_n 1, 1) := by decide +kernel
theorem dX11_digest_217 : decode cX11_digest 217 = .ok (.baload, 1) := by decide +kernel
theorem dX11_digest_218 : decode cX11_digest 218 = .ok (.i2l, 1) := by decide +kernel
theorem dX11_digest_219 : decode cX11_digest 219 = .ok (.invokevirtual 292, 3) := by decide +kernel
theorem dX11_digest_222 : decode cX11_digest 222 = .ok (.iinc 1 1, 3) := by decide +kernel
theorem dX11_digest_225 : decode cX11_digest 225 = .ok (.goto (-22), 3) := by decide +kernel
theorem dX11_digest_228 : decode cX11_digest 228 = .ok (.iconst 0, 1) := by decide +kernel
theorem dX11_digest_229 : decode cX11_digest 229 = .ok (.istore_n 1, 1) := by decide +kernel
theorem dX11_digest_230 : decode cX11_digest 230 = .ok (.iload_n 1, 1) := by decide +kernel
theorem dX11_digest_231 : decode cX11_digest 231 = .ok (.bipush 9, 2) := by decide +kernel
theorem dX11_digest_233 : decode cX11_digest 233 = .ok (.if_icmp .ge 19, 3) := by decide +kernel
theorem dX11_digest_236 : decode cX11_digest 236 = .ok (.aload_n 0, 1) := by decide +kernel
theorem dX11_digest_237 : decode cX11_digest 237 = .ok (.aload_n 0, 1) := by decide +kernel
theorem dX11_digest_238 : decode cX11_digest 238 = .ok (.iload_n 1, 1) := by decide +kernel
theorem dX11_digest_239 : decode cX11_digest 239 = .ok (.invokevirtual 283, 3) := by decide +kernel
theorem dX11_digest_242 : decode cX11_digest 242 = .ok (.i2l, 1) := by decide +kernel
theorem dX11_digest_243 : decode cX11_digest 243 = .ok (.invokevirtual 292, 3) := by decide +kernel
theorem dX11_digest_246 : decode cX11_digest 246 = .ok (.iinc 1 1, 3) := by decide +kernel
theorem dX11_digest_249 : decode cX11_digest 249 = .ok (.goto (-19), 3) := by decide +kernel
theorem dX11_digest_252 : decode cX11_digest 252 = .ok (.aload_n 0, 1) := by decide +kernel
theorem dX11_digest_253 : decode cX11_digest 253 = .ok (.getfield 288, 3) := by decide +kernel
theorem dX11_digest_256 : decode cX11_digest 256 = .ok (.lreturn, 1) := by decide +kernel
set_option maxHeartbeats 4000000 in
set_option maxRecDepth 100000 in
theorem c_X11_digest (l : Launch) (E : zE) (n : Nat) (h : zH) (a0 : Nat) (res : Int64 × zH) (hf : F_X11_digest n h a0 = some res) : Met l yX11_digest (zw yX11_digest cX11_digest 3 (some .long)) ({ frames := 6, cells := 0, slots := 0, locals := 142 } : Room) (zPc E h [.ref (zB E + a0)]) (zQc E res.2 (some (.long res.1))) 0 0 (zfr E) := by
  refine zmet (lo := [(0, .ref (zB E + a0))]) (by decide +kernel) (Nat.le_of_ble_eq_true rfl) rfl ?_
  intro p e s m args below meth c C hr hin
  unfold F_X11_digest at hf
  have J18 : ∀ (h369 : zH) (w368 : Nat), F_X11_digest_J18 n h369 w368 = some res → zW p l e (headSpec (zw yX11_digest cX11_digest 3 (some .long)) ({ frames := 6, cells := 0, slots := 0, locals := 142 } : Room)).room s m args below meth c E 3 (MQ below (zQc E res.2 (some (.long res.1))) args s 0 0 (zfr E)) 0 0 18 [(0, .ref (zB E + w368))] [] h369 := by
    intro h369 w368 hf
    unfold F_X11_digest_J18 at hf
    refine zr_iconst (v := 0) C dX11_digest_18 (by decide) ?_
    refine zr_istore_n (lo2 := [(1, .int (0 : Int32)), (0, .ref (zB E + w368))]) C dX11_digest_19 rfl (by decide) rfl ?_
    have L20 : ∀ (fu : Nat) (x : zH × Int32), zloop (fun kc x => F_X11_digest_B20 n kc x.1 w368 x.2) fu x = some res → zW p l e (headSpec (zw yX11_digest cX11_digest 3 (some .long)) ({ frames := 6, cells := 0, slots := 0, locals := 142 } : Room)).room s m args below meth c E 3 (MQ below (zQc E res.2 (some (.long res.1))) args s 0 0 (zfr E)) 0 0 20 [(0, .ref (zB E + w368)), (1, .int x.2)] [] x.1 := by
      refine z_loop _ ?_
      intro kc20 hk20 x hf
      obtain ⟨h371, x370⟩ := x
      dsimp only at hf ⊢
      unfold F_X11_digest_B20 at hf
      refine zr_iload_n C dX11_digest_20 rfl 1 rfl ?_
      refine zr_aload_n C dX11_digest_21 rfl 0 rfl ?_
      refine zr_gi C hf kg_X11_161 (fun _ _ _ => rfl) dX11_digest_22 (fun x372 hf => ?_)
      refine zr_icmp_ge (tgt := 56) C hf dX11_digest_25 (by decide) (fun hf => ?_) (fun hf => ?_)
      · refine zr_iconst (v := 0) C dX11_digest_56 (by decide) ?_
        refine zr_istore_n (lo2 := [(1, .int (0 : Int32)), (0, .ref (zB E + w368))]) C dX11_digest_57 rfl (by decide) rfl ?_
        have L58 : ∀ (fu : Nat) (x : zH × Int32), zloop (fun kc x => F_X11_digest_B58 n kc x.1 w368 x.2) fu x = some res → zW p l e (headSpec (zw yX11_digest cX11_digest 3 (some .long)) ({ frames := 6, cells := 0, slots := 0, locals := 142 } : Room)).room s m args below meth c E 3 (MQ below (zQc E res.2 (some (.long res.1))) args s 0 0 (zfr E)) 0 0 58 [(0, .ref (zB E + w368)), (1, .int x.2)] [] x.1 := by
          refine z_loop _ ?_
          intro kc58 hk58 x hf
          obtain ⟨h374, x373⟩ := x
          dsimp only at hf ⊢
          unfold F_X11_digest_B58 at hf
          refine zr_iload_n C dX11_digest_58 rfl 1 rfl ?_
          refine zr_aload_n C dX11_digest_59 rfl 0 rfl ?_
          refine zr_gi C hf kg_X11_146 (fun _ _ _ => rfl) dX11_digest_60 (fun x375 hf => ?_)
          refine zr_icmp_ge (tgt := 97) C hf dX11_digest_63 (by decide) (fun hf => ?_) (fun hf => ?_)
          · refine zr_iconst (v := 0) C dX11_digest_97 (by decide) ?_
            refine zr_istore_n (lo2 := [(1, .int (0 : Int32)), (0, .ref (zB E + w368))]) C dX11_digest_98 rfl (by decide) rfl ?_
            have L99 : ∀ (fu : Nat) (x : zH × Int32), zloop (fun kc x => F_X11_digest_B99 n kc x.1 w368 x.2) fu x = some res → zW p l e (headSpec (zw yX11_digest cX11_digest 3 (some .long)) ({ frames := 6, cells := 0, slots := 0, locals := 142 } : Room)).room s m args below meth c E 3 (MQ below (zQc E res.2 (some (.long res.1))) args s 0 0 (zfr E)) 0 0 99 [(0, .ref (zB E + w368)), (1, .int x.2)] [] x.1 := by
              refine z_loop _ ?_
              intro kc99 hk99 x hf
              obtain ⟨h377, x376⟩ := x
              dsimp only at hf ⊢
              unfold F_X11_digest_B99 at hf
              refine zr_iload_n C dX11_digest_99 rfl 1 rfl ?_
              refine zr_aload_n C dX11_digest_100 rfl 0 rfl ?_
              refine zr_gi C hf kg_X11_155 (fun _ _ _ => rfl) dX11_digest_101 (fun x378 hf => ?_)
              refine zr_icmp_ge (tgt := 118) C hf dX11_digest_104 (by decide) (fun hf => ?_) (fun hf => ?_)
              · refine zr_iconst (v := 0) C dX11_digest_118 (by decide) ?_
                refine zr_istore_n (lo2 := [(1, .int (0 : Int32)), (0, .ref (zB E + w368))]) C dX11_digest_119 rfl (by decide) rfl ?_
                have L120 : ∀ (fu : Nat) (x : zH × Int32), zloop (fun kc x => F_X11_digest_B120 n kc x.1 w368 x.2) fu x = some res → zW p l e (headSpec (zw yX11_digest cX11_digest 3 (some .long)) ({ frames := 6, cells := 0, slots := 0, locals := 142 } : Room)).room s m args below meth c E 3 (MQ below (zQc E res.2 (some (.long res.1))) args s 0 0 (zfr E)) 0 0 120 [(0, .ref (zB E + w368)), (1, .int x.2)] [] x.1 := by
                  refine z_loop _ ?_
                  intro kc120 hk120 x hf
                  obtain ⟨h380, x379⟩ := x
                  dsimp only at hf ⊢
                  unfold F_X11_digest_B120 at hf
                  refine zr_iload_n C dX11_digest_120 rfl 1 rfl ?_
                  refine zr_aload_n C dX11_digest_121 rfl 0 rfl ?_
                  refine zr_gi C hf kg_X11_246 (fun _ _ _ => rfl) dX11_digest_122 (fun x381 hf => ?_)
                  refine zr_icmp_ge (tgt := 156) C hf dX11_digest_125 (by decide) (fun hf => ?_) (fun hf => ?_)
                  · refine zr_iconst (v := 0) C dX11_digest_156 (by decide) ?_
                    refine zr_istore_n (lo2 := [(1, .int (0 : Int32)), (0, .ref (zB E + w368))]) C dX11_digest_157 rfl (by decide) rfl ?_
                    have L158 : ∀ (fu : Nat) (x : zH × Int32), zloop (fun kc x => F_X11_digest_B158 n kc x.1 w368 x.2) fu x = some res → zW p l e (headSpec (zw yX11_digest cX11_digest 3 (some .long)) ({ frames := 6, cells := 0, slots := 0, locals := 142 } : Room)).room s m args below meth c E 3 (MQ below (zQc E res.2 (some (.long res.1))) args s 0 0 (zfr E)) 0 0 158 [(0, .ref (zB E + w368)), (1, .int x.2)] [] x.1 := by
                      refine z_loop _ ?_
                      intro kc158 hk158 x hf
                      obtain ⟨h383, x382⟩ := x
                      dsimp only at hf ⊢
                      unfold F_X11_digest_B158 at hf
                      have J192 : ∀ (h387 : zH) (x384 : Int32) (w385 : Nat) (j386 : Int64), F_X11_digest_J192 n kc158 h387 w368 x384 w385 j386 = some res → zW p l e (headSpec (zw yX11_digest cX11_digest 3 (some .long)) ({ frames := 6, cells := 0, slots := 0, locals := 142 } : Room)).room s m args below meth c E 3 (MQ below (zQc E res.2 (some (.long res.1))) args s 0 0 (zfr E)) 0 0 192 [(0, .ref (zB E + w368)), (1, .int x384)] [.long j386, .ref (zB E + w385)] h387 := by
                        intro h387 x384 w385 j386 hf
                        unfold F_X11_digest_J192 at hf
                        refine zr_callVv (As := [.long j386]) (rest := []) C hf (fun x hx => c_X11_mix l E n h387 w385 j386 x hx) kv_X11_292 rfl rfl (Nat.le_of_ble_eq_true rfl) ⟨rfl, rfl⟩ ⟨Nat.le_of_ble_eq_true rfl, Nat.le_of_ble_eq_true rfl⟩ ⟨Nat.le_of_ble_eq_true rfl, Nat.le_of_ble_eq_true rfl⟩ dX11_digest_192 (fun _ h388 hf => ?_)
                        refine zr_iinc (v0 := 1) (k := 1) (f := fun v => [(1, .int v), (0, .ref (zB E + w368))]) C hf (by decide) dX11_digest_195 rfl (by decide) (fun v => rfl) (fun x389 hf => ?_)
                        refine zr_goto (tgt := 158) C dX11_digest_198 (by decide) ?_
                        refine zsub [1, 0] rfl ?_
                        exact hk158 (h388, x389) hf
                      refine zr_iload_n C dX11_digest_158 rfl 1 rfl ?_
                      refine zr_aload_n C dX11_digest_159 rfl 0 rfl ?_
                      refine zr_gi C hf kg_X11_158 (fun _ _ _ => rfl) dX11_digest_160 (fun x390 hf => ?_)
                      refine zr_icmp_ge (tgt := 201) C hf dX11_digest_163 (by decide) (fun hf => ?_) (fun hf => ?_)
                      · refine zr_iconst (v := 0) C dX11_digest_201 (by decide) ?_
                        refine zr_istore_n (lo2 := [(1, .int (0 : Int32)), (0, .ref (zB E + w368))]) C dX11_digest_202 rfl (by decide) rfl ?_
                        have L203 : ∀ (fu : Nat) (x : zH × Int32), zloop (fun kc x => F_X11_digest_B203 n kc x.1 w368 x.2) fu x = some res → zW p l e (headSpec (zw yX11_digest cX11_digest 3 (some .long)) ({ frames := 6, cells := 0, slots := 0, locals := 142 } : Room)).room s m args below meth c E 3 (MQ below (zQc E res.2 (some (.long res.1))) args s 0 0 (zfr E)) 0 0 203 [(0, .ref (zB E + w368)), (1, .int x.2)] [] x.1 := by
                          refine z_loop _ ?_
                          intro kc203 hk203 x hf
                          obtain ⟨h392, x391⟩ := x
                          dsimp only at hf ⊢
                          unfold F_X11_digest_B203 at hf
                          refine zr_iload_n C dX11_digest_203 rfl 1 rfl ?_
                          refine zr_aload_n C dX11_digest_204 rfl 0 rfl ?_
                          refine zr_gi C hf kg_X11_107 (fun _ _ _ => rfl) dX11_digest_205 (fun x393 hf => ?_)
                          refine zr_icmp_ge (tgt := 228) C hf dX11_digest_208 (by decide) (fun hf => ?_) (fun hf => ?_)
                          · refine zr_iconst (v := 0) C dX11_digest_228 (by decide) ?_
                            refine zr_istore_n (lo2 := [(1, .int (0 : Int32)), (0, .ref (zB E + w368))]) C dX11_digest_229 rfl (by decide) rfl ?_
                            have L230 : ∀ (fu : Nat) (x : zH × Int32), zloop (fun kc x => F_X11_digest_B230 n kc x.1 w368 x.2) fu x = some res → zW p l e (headSpec (zw yX11_digest cX11_digest 3 (some .long)) ({ frames := 6, cells := 0, slots := 0, locals := 142 } : Room)).room s m args below meth c E 3 (MQ below (zQc E res.2 (some (.long res.1))) args s 0 0 (zfr E)) 0 0 230 [(0, .ref (zB E + w368)), (1, .int x.2)] [] x.1 := by
                              refine z_loop _ ?_
                              intro kc230 hk230 x hf
                              obtain ⟨h395, x394⟩ := x
                              dsimp only at hf ⊢
                              unfold F_X11_digest_B230 at hf
                              refine zr_iload_n C dX11_digest_230 rfl 1 rfl ?_
                              refine zr_bipush (v := 9) C dX11_digest_231 (by decide) ?_
                              refine zr_icmp_ge (tgt := 252) C hf dX11_digest_233 (by decide) (fun hf => ?_) (fun hf => ?_)
                              · refine zr_aload_n C dX11_digest_252 rfl 0 rfl ?_
                                refine zr_gl C hf kg_X11_288 (fun _ _ _ => rfl) dX11_digest_253 (fun j396 hf => ?_)
                                exact zr_lreturn C hf hr (Nat.le_of_ble_eq_true rfl) (Nat.le_of_ble_eq_true rfl) dX11_digest_256
                              · refine zr_aload_n C dX11_digest_236 rfl 0 rfl ?_
                                refine zr_aload_n C dX11_digest_237 rfl 0 rfl ?_
                                refine zr_iload_n C dX11_digest_238 rfl 1 rfl ?_
                                refine zr_callVi (As := [.int x394]) (rest := [.ref (zB E + w368)]) C hf (fun x hx => c_X11_howMany l E n h395 w368 x394 x hx) kv_X11_283 rfl rfl (Nat.le_of_ble_eq_true rfl) ⟨rfl, rfl⟩ ⟨Nat.le_of_ble_eq_true rfl, Nat.le_of_ble_eq_true rfl⟩ ⟨Nat.le_of_ble_eq_true rfl, Nat.le_of_ble_eq_true rfl⟩ dX11_digest_239 (fun x398 h397 hf => ?_)
                                refine zr_i2l C hf dX11_digest_242 (fun j399 hf => ?_)
                                refine zr_callVv (As := [.long j399]) (rest := []) C hf (fun x hx => c_X11_mix l E n h397 w368 j399 x hx) kv_X11_292 rfl rfl (Nat.le_of_ble_eq_true rfl) ⟨rfl, rfl⟩ ⟨Nat.le_of_ble_eq_true rfl, Nat.le_of_ble_eq_true rfl⟩ ⟨Nat.le_of_ble_eq_true rfl, Nat.le_of_ble_eq_true rfl⟩ dX11_digest_243 (fun _ h400 hf => ?_)
                                refine zr_iinc (v0 := 1) (k := 1) (f := fun v => [(1, .int v), (0, .ref (zB E + w368))]) C hf (by decide) dX11_digest_246 rfl (by decide) (fun v => rfl) (fun x401 hf => ?_)
                                refine zr_goto (tgt := 230) C dX11_digest_249 (by decide) ?_
                                refine zsub [1, 0] rfl ?_
                                exact hk230 (h400, x401) hf
                            refine zsub [1, 0] rfl ?_
                            exact L230 n (h392, (0 : Int32)) hf
                          · refine zr_aload_n C dX11_digest_211 rfl 0 rfl ?_
                            refine zr_aload_n C dX11_digest_212 rfl 0 rfl ?_
                            refine zr_gr C hf kg_X11_68 (fun _ _ _ => rfl) dX11_digest_213 (fun w402 hf => ?_)
                            refine zr_iload_n C dX11_digest_216 rfl 1 rfl ?_
                            refine zr_baload C hf dX11_digest_217 (fun x403 hf => ?_)
                            refine zr_i2l C hf dX11_digest_218 (fun j404 hf => ?_)
                            refine zr_callVv (As := [.long j404]) (rest := []) C hf (fun x hx => c_X11_mix l E n h392 w368 j404 x hx) kv_X11_292 rfl rfl (Nat.le_of_ble_eq_true rfl) ⟨rfl, rfl⟩ ⟨Nat.le_of_ble_eq_true rfl, Nat.le_of_ble_eq_true rfl⟩ ⟨Nat.le_of_ble_eq_true rfl, Nat.le_of_ble_eq_true rfl⟩ dX11_digest_219 (fun _ h405 hf => ?_)
                            refine zr_iinc (v0 := 1) (k := 1) (f := fun v => [(1, .int v), (0, .ref (zB E + w368))]) C hf (by decide) dX11_digest_222 rfl (by decide) (fun v => rfl) (fun x406 hf => ?_)
                            refine zr_goto (tgt := 203) C dX11_digest_225 (by decide) ?_
                            refine zsub [1, 0] rfl ?_
                            exact hk203 (h405, x406) hf
                        refine zsub [1, 0] rfl ?_
                        exact L203 n (h383, (0 : Int32)) hf
                      · refine zr_aload_n C dX11_digest_166 rfl 0 rfl ?_
                        refine zr_aload_n C dX11_digest_167 rfl 0 rfl ?_
                        refine zr_gr C hf kg_X11_61 (fun _ _ _ => rfl) dX11_digest_168 (fun w407 hf => ?_)
                        refine zr_iload_n C dX11_digest_171 rfl 1 rfl ?_
                        refine zr_iaload C hf dX11_digest_172 (fun x408 hf => ?_)
                        refine zr_i2l C hf dX11_digest_173 (fun j409 hf => ?_)
                        refine zr_callVv (As := [.long j409]) (rest := []) C hf (fun x hx => c_X11_mix l E n h383 w368 j409 x hx) kv_X11_292 rfl rfl (Nat.le_of_ble_eq_true rfl) ⟨rfl, rfl⟩ ⟨Nat.le_of_ble_eq_true rfl, Nat.le_of_ble_eq_true rfl⟩ ⟨Nat.le_of_ble_eq_true rfl, Nat.le_of_ble_eq_true rfl⟩ dX11_digest_174 (fun _ h410 hf => ?_)
                        refine zr_aload_n C dX11_digest_177 rfl 0 rfl ?_
                        refine zr_aload_n C dX11_digest_178 rfl 0 rfl ?_
                        refine zr_gr C hf kg_X11_64 (fun _ _ _ => rfl) dX11_digest_179 (fun w411 hf => ?_)
                        refine zr_iload_n C dX11_digest_182 rfl 1 rfl ?_
                        refine zr_zaload C hf dX11_digest_183 (fun x412 hf => ?_)
                        refine zr_if_eq (tgt := 191) C hf dX11_digest_184 (by decide) (fun hf => ?_) (fun hf => ?_)
                        · refine zr_lconst (v := 0) C dX11_digest_191 (by decide) ?_
                          exact J192 h410 x382 w368 (0 : Int64) hf
                        · refine zr_lconst (v := 1) C dX11_digest_187 (by decide) ?_
                          refine zr_goto (tgt := 192) C dX11_digest_188 (by decide) ?_
                          exact J192 h410 x382 w368 (1 : Int64) hf
                    refine zsub [1, 0] rfl ?_
                    exact L158 n (h380, (0 : Int32)) hf
                  · refine zr_aload_n C dX11_digest_128 rfl 0 rfl ?_
                    refine zr_aload_n C dX11_digest_129 rfl 0 rfl ?_
                    refine zr_gr C hf kg_X11_55 (fun _ _ _ => rfl) dX11_digest_130 (fun w413 hf => ?_)
                    refine zr_iload_n C dX11_digest_133 rfl 1 rfl ?_
                    refine zr_iaload C hf dX11_digest_134 (fun x414 hf => ?_)
                    refine zr_i2l C hf dX11_digest_135 (fun j415 hf => ?_)
                    refine zr_callVv (As := [.long j415]) (rest := []) C hf (fun x hx => c_X11_mix l E n h380 w368 j415 x hx) kv_X11_292 rfl rfl (Nat.le_of_ble_eq_true rfl) ⟨rfl, rfl⟩ ⟨Nat.le_of_ble_eq_true rfl, Nat.le_of_ble_eq_true rfl⟩ ⟨Nat.le_of_ble_eq_true rfl, Nat.le_of_ble_eq_true rfl⟩ dX11_digest_136 (fun _ h416 hf => ?_)
                    refine zr_aload_n C dX11_digest_139 rfl 0 rfl ?_
                    refine zr_aload_n C dX11_digest_140 rfl 0 rfl ?_
                    refine zr_gr C hf kg_X11_58 (fun _ _ _ => rfl) dX11_digest_141 (fun w417 hf => ?_)
                    refine zr_iload_n C dX11_digest_144 rfl 1 rfl ?_
                    refine zr_iaload C hf dX11_digest_145 (fun x418 hf => ?_)
                    refine zr_i2l C hf dX11_digest_146 (fun j419 hf => ?_)
                    refine zr_callVv (As := [.long j419]) (rest := []) C hf (fun x hx => c_X11_mix l E n h416 w368 j419 x hx) kv_X11_292 rfl rfl (Nat.le_of_ble_eq_true rfl) ⟨rfl, rfl⟩ ⟨Nat.le_of_ble_eq_true rfl, Nat.le_of_ble_eq_true rfl⟩ ⟨Nat.le_of_ble_eq_true rfl, Nat.le_of_ble_eq_true rfl⟩ dX11_digest_147 (fun _ h420 hf => ?_)
                    refine zr_iinc (v0 := 1) (k := 1) (f := fun v => [(1, .int v), (0, .ref (zB E + w368))]) C hf (by decide) dX11_digest_150 rfl (by decide) (fun v => rfl) (fun x421 hf => ?_)
                    refine zr_goto (tgt := 120) C dX11_digest_153 (by decide) ?_
                    refine zsub [1, 0] rfl ?_
                    exact hk120 (h420, x421) hf
                refine zsub [1, 0] rfl ?_
                exact L120 n (h377, (0 : Int32)) hf
              · refine zr_aload_n C dX11_digest_107 rfl 0 rfl ?_
                refine zr_iload_n C dX11_digest_108 rfl 1 rfl ?_
                refine zr_callVv (As := [.int x376]) (rest := []) C hf (fun x hx => c_X11_mixRow l E n h377 w368 x376 x hx) kv_X11_301 rfl rfl (Nat.le_of_ble_eq_true rfl) ⟨rfl, rfl⟩ ⟨Nat.le_of_ble_eq_true rfl, Nat.le_of_ble_eq_true rfl⟩ ⟨Nat.le_of_ble_eq_true rfl, Nat.le_of_ble_eq_true rfl⟩ dX11_digest_109 (fun _ h422 hf => ?_)
                refine zr_iinc (v0 := 1) (k := 1) (f := fun v => [(1, .int v), (0, .ref (zB E + w368))]) C hf (by decide) dX11_digest_112 rfl (by decide) (fun v => rfl) (fun x423 hf => ?_)
                refine zr_goto (tgt := 99) C dX11_digest_115 (by decide) ?_
                refine zsub [1, 0] rfl ?_
                exact hk99 (h422, x423) hf
            refine zsub [1, 0] rfl ?_
            exact L99 n (h374, (0 : Int32)) hf
          · refine zr_iconst (v := 0) C dX11_digest_66 (by decide) ?_
            refine zr_istore_n (lo2 := [(2, .int (0 : Int32)), (0, .ref (zB E + w368)), (1, .int x373)]) C dX11_digest_67 rfl (by decide) rfl ?_
            have L68 : ∀ (fu : Nat) (x : zH × Int32), zloop (fun kc x => F_X11_digest_B68 n kc58 kc x.1 w368 x373 x.2) fu x = some res → zW p l e (headSpec (zw yX11_digest cX11_digest 3 (some .long)) ({ frames := 6, cells := 0, slots := 0, locals := 142 } : Room)).room s m args below meth c E 3 (MQ below (zQc E res.2 (some (.long res.1))) args s 0 0 (zfr E)) 0 0 68 [(0, .ref (zB E + w368)), (1, .int x373), (2, .int x.2)] [] x.1 := by
              refine z_loop _ ?_
              intro kc68 hk68 x hf
              obtain ⟨h425, x424⟩ := x
              dsimp only at hf ⊢
              unfold F_X11_digest_B68 at hf
              refine zr_iload_n C dX11_digest_68 rfl 2 rfl ?_
              refine zr_bipush (v := 6) C dX11_digest_69 (by decide) ?_
              refine zr_icmp_ge (tgt := 91) C hf dX11_digest_71 (by decide) (fun hf => ?_) (fun hf => ?_)
              · refine zr_iinc (v0 := 1) (k := 1) (f := fun v => [(1, .int v), (0, .ref (zB E + w368)), (2, .int x424)]) C hf (by decide) dX11_digest_91 rfl (by decide) (fun v => rfl) (fun x426 hf => ?_)
                refine zr_goto (tgt := 58) C dX11_digest_94 (by decide) ?_
                refine zsub [1, 0] rfl ?_
                exact hk58 (h425, x426) hf
              · refine zr_aload_n C dX11_digest_74 rfl 0 rfl ?_
                refine zr_aload_n C dX11_digest_75 rfl 0 rfl ?_
                refine zr_iload_n C dX11_digest_76 rfl 1 rfl ?_
                refine zr_iload_n C dX11_digest_77 rfl 2 rfl ?_
                refine zr_callVi (As := [.int x373, .int x424]) (rest := [.ref (zB E + w368)]) C hf (fun x hx => c_X11_leafTold l E n h425 w368 x373 x424 x hx) kv_X11_198 rfl rfl (Nat.le_of_ble_eq_true rfl) ⟨rfl, rfl⟩ ⟨Nat.le_of_ble_eq_true rfl, Nat.le_of_ble_eq_true rfl⟩ ⟨Nat.le_of_ble_eq_true rfl, Nat.le_of_ble_eq_true rfl⟩ dX11_digest_78 (fun x428 h427 hf => ?_)
                refine zr_i2l C hf dX11_digest_81 (fun j429 hf => ?_)
                refine zr_callVv (As := [.long j429]) (rest := []) C hf (fun x hx => c_X11_mix l E n h427 w368 j429 x hx) kv_X11_292 rfl rfl (Nat.le_of_ble_eq_true rfl) ⟨rfl, rfl⟩ ⟨Nat.le_of_ble_eq_true rfl, Nat.le_of_ble_eq_true rfl⟩ ⟨Nat.le_of_ble_eq_true rfl, Nat.le_of_ble_eq_true rfl⟩ dX11_digest_82 (fun _ h430 hf => ?_)
                refine zr_iinc (v0 := 1) (k := 2) (f := fun v => [(2, .int v), (0, .ref (zB E + w368)), (1, .int x373)]) C hf (by decide) dX11_digest_85 rfl (by decide) (fun v => rfl) (fun x431 hf => ?_)
                refine zr_goto (tgt := 68) C dX11_digest_88 (by decide) ?_
                refine zsub [1, 2, 0] rfl ?_
                exact hk68 (h430, x431) hf
            refine zsub [1, 2, 0] rfl ?_
            exact L68 n (h374, (0 : Int32)) hf
        refine zsub [1, 0] rfl ?_
        exact L58 n (h371, (0 : Int32)) hf
      · refine zr_aload_n C dX11_digest_28 rfl 0 rfl ?_
        refine zr_aload_n C dX11_digest_29 rfl 0 rfl ?_
        refine zr_gr C hf kg_X11_19 (fun _ _ _ => rfl) dX11_digest_30 (fun w432 hf => ?_)
        refine zr_iload_n C dX11_digest_33 rfl 1 rfl ?_
        refine zr_iaload C hf dX11_digest_34 (fun x433 hf => ?_)
        refine zr_i2l C hf dX11_digest_35 (fun j434 hf => ?_)
        refine zr_callVv (As := [.long j434]) (rest := []) C hf (fun x hx => c_X11_mix l E n h371 w368 j434 x hx) kv_X11_292 rfl rfl (Nat.le_of_ble_eq_true rfl) ⟨rfl, rfl⟩ ⟨Nat.le_of_ble_eq_true rfl, Nat.le_of_ble_eq_true rfl⟩ ⟨Nat.le_of_ble_eq_true rfl, Nat.le_of_ble_eq_true rfl⟩ dX11_digest_36 (fun _ h435 hf => ?_)
        refine zr_aload_n C dX11_digest_39 rfl 0 rfl ?_
        refine zr_aload_n C dX11_digest_40 rfl 0 rfl ?_
        refine zr_gr C hf kg_X11_22 (fun _ _ _ => rfl) dX11_digest_41 (fun w436 hf => ?_)
        refine zr_iload_n C dX11_digest_44 rfl 1 rfl ?_
        refine zr_iaload C hf dX11_digest_45 (fun x437 hf => ?_)
        refine zr_i2l C hf dX11_digest_46 (fun j438 hf => ?_)
        refine zr_callVv (As := [.long j438]) (rest := []) C hf (fun x hx => c_X11_mix l E n h435 w368 j438 x hx) kv_X11_292 rfl rfl (Nat.le_of_ble_eq_true rfl) ⟨rfl, rfl⟩ ⟨Nat.le_of_ble_eq_true rfl, Nat.le_of_ble_eq_true rfl⟩ ⟨Nat.le_of_ble_eq_true rfl, Nat.le_of_ble_eq_true rfl⟩ dX11_digest_47 (fun _ h439 hf => ?_)
        refine zr_iinc (v0 := 1) (k := 1) (f := fun v => [(1, .int v), (0, .ref (zB E + w368))]) C hf (by decide) dX11_digest_50 rfl (by decide) (fun v => rfl) (fun x440 hf => ?_)
        refine zr_goto (tgt := 20) C dX11_digest_53 (by decide) ?_
        refine zsub [1, 0] rfl ?_
        exact hk20 (h439, x440) hf
    refine zsub [1, 0] rfl ?_
    exact L20 n (h369, (0 : Int32)) hf
  refine zr_aload_n C dX11_digest_0 rfl 0 rfl ?_
  refine zr_ldc2 (v := 443) C zt1329 dX11_digest_1 ?_
  refine zr_sl C hf kp_X11_288 (fun _ _ _ => rfl) rfl dX11_digest_4 (fun h441 hf => ?_)
  refine zr_aload_n C dX11_digest_7 rfl 0 rfl ?_
  refine zr_gi C hf kg_X11_149 (fun _ _ _ => rfl) dX11_digest_8 (fun x442 hf => ?_)
  refine zr_if_eq (tgt := 18) C hf dX11_digest_11 (by decide) (fun hf => ?_) (fun hf => ?_)
  · exact J18 h441 a0 hf
  · refine zr_aload_n C dX11_digest_14 rfl 0 rfl ?_
    refine zr_callVv (As := []) (rest := []) C hf (fun x hx => c_X11_mixCup l E n h441 a0 x hx) kv_X11_298 rfl rfl (Nat.le_of_ble_eq_true rfl) ⟨rfl, rfl⟩ ⟨Nat.le_of_ble_eq_true rfl, Nat.le_of_ble_eq_true rfl⟩ ⟨Nat.le_of_ble_eq_true rfl, Nat.le_of_ble_eq_true rfl⟩ dX11_digest_15 (fun _ h443 hf => ?_)
    exact J18 h443 a0 hf
