theorem dX11_init_0 : decode cX11_init 0 = .ok (.aload_n 0, 1) := by decide +kernel
theorem dX11_init_1 : decode cX11_init 1 = .ok (.invokespecial 1, 3) := by decide +kernel
theorem dX11_init_4 : decode cX11_init 4 = .ok (.aload_n 0, 1) := by decide +kernel
theorem dX11_init_5 : decode cX11_init 5 = .ok (.bipush 6, 2) := by decide +kernel
theorem dX11_init_7 : decode cX11_init 7 = .ok (.newarray .int, 2) := by decide +kernel
theorem dX11_init_9 : decode cX11_init 9 = .ok (.putfield 7, 3) := by decide +kernel
theorem dX11_init_12 : decode cX11_init 12 = .ok (.aload_n 0, 1) := by decide +kernel
theorem dX11_init_13 : decode cX11_init 13 = .ok (.bipush 24, 2) := by decide +kernel
theorem dX11_init_15 : decode cX11_init 15 = .ok (.newarray .int, 2) := by decide +kernel
theorem dX11_init_17 : decode cX11_init 17 = .ok (.putfield 13, 3) := by decide +kernel
theorem dX11_init_20 : decode cX11_init 20 = .ok (.aload_n 0, 1) := by decide +kernel
theorem dX11_init_21 : decode cX11_init 21 = .ok (.bipush 24, 2) := by decide +kernel
theorem dX11_init_23 : decode cX11_init 23 = .ok (.newarray .int, 2) := by decide +kernel
theorem dX11_init_25 : decode cX11_init 25 = .ok (.putfield 16, 3) := by decide +kernel
theorem dX11_init_28 : decode cX11_init 28 = .ok (.aload_n 0, 1) := by decide +kernel
theorem dX11_init_29 : decode cX11_init 29 = .ok (.bipush 8, 2) := by decide +kernel
theorem dX11_init_31 : decode cX11_init 31 = .ok (.newarray .int, 2) := by decide +kernel
theorem dX11_init_33 : decode cX11_init 33 = .ok (.putfield 19, 3) := by decide +kernel
theorem dX11_init_36 : decode cX11_init 36 = .ok (.aload_n 0, 1) := by decide +kernel
theorem dX11_init_37 : decode cX11_init 37 = .ok (.bipush 8, 2) := by decide +kernel
theorem dX11_init_39 : decode cX11_init 39 = .ok (.newarray .int, 2) := by decide +kernel
theorem dX11_init_41 : decode cX11_init 41 = .ok (.putfield 22, 3) := by decide +kernel
theorem dX11_init_44 : decode cX11_init 44 = .ok (.aload_n 0, 1) := by decide +kernel
theorem dX11_init_45 : decode cX11_init 45 = .ok (.bipush 8, 2) := by decide +kernel
theorem dX11_init_47 : decode cX11_init 47 = .ok (.newarray .int, 2) := by decide +kernel
theorem dX11_init_49 : decode cX11_init 49 = .ok (.putfield 25, 3) := by decide +kernel
theorem dX11_init_52 : decode cX11_init 52 = .ok (.aload_n 0, 1) := by decide +kernel
theorem dX11_init_53 : decode cX11_init 53 = .ok (.bipush 8, 2) := by decide +kernel
theorem dX11_init_55 : decode cX11_init 55 = .ok (.newarray .int, 2) := by decide +kernel
theorem dX11_init_57 : decode cX11_init 57 = .ok (.putfield 28, 3) := by decide +kernel
theorem dX11_init_60 : decode cX11_init 60 = .ok (.aload_n 0, 1) := by decide +kernel
theorem dX11_init_61 : decode cX11_init 61 = .ok (.bipush 8, 2) := by decide +kernel
theorem dX11_init_63 : decode cX11_init 63 = .ok (.newarray .int, 2) := by decide +kernel
theorem dX11_init_65 : decode cX11_init 65 = .ok (.putfield 31, 3) := by decide +kernel
theorem dX11_init_68 : decode cX11_init 68 = .ok (.aload_n 0, 1) := by decide +kernel
theorem dX11_init_69 : decode cX11_init 69 = .ok (.bipush 8, 2) := by decide +kernel
theorem dX11_init_71 : decode cX11_init 71 = .ok (.newarray .int, 2) := by decide +kernel
theorem dX11_init_73 : decode cX11_init 73 = .ok (.putfield 34, 3) := by decide +kernel
theorem dX11_init_76 : decode cX11_init 76 = .ok (.aload_n 0, 1) := by decide +kernel
theorem dX11_init_77 : decode cX11_init 77 = .ok (.bipush 8, 2) := by decide +kernel
theorem dX11_init_79 : decode cX11_init 79 = .ok (.newarray .int, 2) := by decide +kernel
theorem dX11_init_81 : decode cX11_init 81 = .ok (.putfield 37, 3) := by decide +kernel
theorem dX11_init_84 : decode cX11_init 84 = .ok (.aload_n 0, 1) := by decide +kernel
theorem dX11_init_85 : decode cX11_init 85 = .ok (.bipush 8, 2) := by decide +kernel
theorem dX11_init_87 : decode cX11_init 87 = .ok (.newarray .int, 2) := by decide +kernel
theorem dX11_init_89 : decode cX11_init 89 = .ok (.putfield 40, 3) := by decide +kernel
theorem dX11_init_92 : decode cX11_init 92 = .ok (.aload_n 0, 1) := by decide +kernel
theorem dX11_init_93 : decode cX11_init 93 = .ok (.bipush 6, 2) := by decide +kernel
theorem dX11_init_95 : decode cX11_init 95 = .ok (.newarray .int, 2) := by decide +kernel
theorem dX11_init_97 : decode cX11_init 97 = .ok (.putfield 43, 3) := by decide +kernel
theorem dX11_init_100 : decode cX11_init 100 = .ok (.aload_n 0, 1) := by decide +kernel
theorem dX11_init_101 : decode cX11_init 101 = .ok (.bipush 6, 2) := by decide +kernel
theorem dX11_init_103 : decode cX11_init 103 = .ok (.newarray .int, 2) := by decide +kernel
theorem dX11_init_105 : decode cX11_init 105 = .ok (.putfield 46, 3) := by decide +kernel
theorem dX11_init_108 : decode cX11_init 108 = .ok (.aload_n 0, 1) := by decide +kernel
theorem dX11_init_109 : decode cX11_init 109 = .ok (.bipush 36, 2) := by decide +kernel
theorem dX11_init_111 : decode cX11_init 111 = .ok (.newarray .int, 2) := by decide +kernel
theorem dX11_init_113 : decode cX11_init 113 = .ok (.putfield 49, 3) := by decide +kernel
theorem dX11_init_116 : decode cX11_init 116 = .ok (.aload_n 0, 1) := by decide +kernel
theorem dX11_init_117 : decode cX11_init 117 = .ok (.bipush 36, 2) := by decide +kernel
theorem dX11_init_119 : decode cX11_init 119 = .ok (.newarray .int, 2) := by decide +kernel
theorem dX11_init_121 : decode cX11_init 121 = .ok (.putfield 52, 3) := by decide +kernel
theorem dX11_init_124 : decode cX11_init 124 = .ok (.aload_n 0, 1) := by decide +kernel
theorem dX11_init_125 : decode cX11_init 125 = .ok (.bipush 12, 2) := by decide +kernel
theorem dX11_init_127 : decode cX11_init 127 = .ok (.newarray .int, 2) := by decide +kernel
theorem dX11_init_129 : decode cX11_init 129 = .ok (.putfield 55, 3) := by decide +kernel
theorem dX11_init_132 : decode cX11_init 132 = .ok (.aload_n 0, 1) := by decide +kernel
theorem dX11_init_133 : decode cX11_init 133 = .ok (.bipush 12, 2) := by decide +kernel
theorem dX11_init_135 : decode cX11_init 135 = .ok (.newarray .int, 2) := by decide +kernel
theorem dX11_init_137 : decode cX11_init 137 = .ok (.putfield 58, 3) := by decide +kernel
theorem dX11_init_140 : decode cX11_init 140 = .ok (.aload_n 0, 1) := by decide +kernel
theorem dX11_init_141 : decode cX11_init 141 = .ok (.bipush 10, 2) := by decide +kernel
theorem dX11_init_143 : decode cX11_init 143 = .ok (.newarray .int, 2) := by decide +kernel
theorem dX11_init_145 : decode cX11_init 145 = .ok (.putfield 61, 3) := by decide +kernel
theorem dX11_init_148 : decode cX11_init 148 = .ok (.aload_n 0, 1) := by decide +kernel
theorem dX11_init_149 : decode cX11_init 149 = .ok (.bipush 10, 2) := by decide +kernel
theorem dX11_init_151 : decode cX11_init 151 = .ok (.newarray .boolean, 2) := by decide +kernel
theorem dX11_init_153 : decode cX11_init 153 = .ok (.putfield 64, 3) := by decide +kernel
theorem dX11_init_156 : decode cX11_init 156 = .ok (.aload_n 0, 1) := by decide +kernel
theorem dX11_init_157 : decode cX11_init 157 = .ok (.bipush 50, 2) := by decide +kernel
theorem dX11_init_159 : decode cX11_init 159 = .ok (.newarray .byte, 2) := by decide +kernel
theorem dX11_init_161 : decode cX11_init 161 = .ok (.putfield 68, 3) := by decide +kernel
theorem dX11_init_164 : decode cX11_init 164 = .ok (.aload_n 0, 1) := by decide +kernel
theorem dX11_init_165 : decode cX11_init 165 = .ok (.bipush 24, 2) := by decide +kernel
theorem dX11_init_167 : decode cX11_init 167 = .ok (.newarray .int, 2) := by decide +kernel
theorem dX11_init_169 : decode cX11_init 169 = .ok (.putfield 72, 3) := by decide +kernel
theorem dX11_init_172 : decode cX11_init 172 = .ok (.aload_n 0, 1) := by decide +kernel
theorem dX11_init_173 : decode cX11_init 173 = .ok (.bipush 8, 2) := by decide +kernel
theorem dX11_init_175 : decode cX11_init 175 = .ok (.newarray .int, 2) := by decide +kernel
theorem dX11_init_177 : decode cX11_init 177 = .ok (.putfield 75, 3) := by decide +kernel
theorem dX11_init_180 : decode cX11_init 180 = .ok (.aload_n 0, 1) := by decide +kernel
theorem dX11_init_181 : decode cX11_init 181 = .ok (.bipush 8, 2) := by decide +kernel
theorem dX11_init_183 : decode cX11_init 183 = .ok (.newarray .int, 2) := by decide +kernel
theorem dX11_init_185 : decode cX11_init 185 = .ok (.putfield 78, 3) := by decide +kernel
theorem dX11_init_188 : decode cX11_init 188 = .ok (.aload_n 0, 1) := by decide +kernel
theorem dX11_init_189 : decode cX11_init 189 = .ok (.bipush 6, 2) := by decide +kernel
theorem dX11_init_191 : decode cX11_init 191 = .ok (.newarray .int, 2) := by decide +kernel
theorem dX11_init_193 : decode cX11_init 193 = .ok (.putfield 81, 3) := by decide +kernel
theorem dX11_init_196 : decode cX11_init 196 = .ok (.aload_n 0, 1) := by decide +kernel
theorem dX11_init_197 : decode cX11_init 197 = .ok (.bipush 6, 2) := by decide +kernel
theorem dX11_init_199 : decode cX11_init 199 = .ok (.newarray .int, 2) := by decide +kernel
theorem dX11_init_201 : decode cX11_init 201 = .ok (.putfield 84, 3) := by decide +kernel
theorem dX11_init_204 : decode cX11_init 204 = .ok (.aload_n 0, 1) := by decide +kernel
theorem dX11_init_205 : decode cX11_init 205 = .ok (.bipush 6, 2) := by decide +kernel
theorem dX11_init_207 : decode cX11_init 207 = .ok (.newarray .int, 2) := by decide +kernel
theorem dX11_init_209 : decode cX11_init 209 = .ok (.putfield 87, 3) := by decide +kernel
theorem dX11_init_212 : decode cX11_init 212 = .ok (.aload_n 0, 1) := by decide +kernel
theorem dX11_init_213 : decode cX11_init 213 = .ok (.bipush 6, 2) := by decide +kernel
theorem dX11_init_215 : decode cX11_init 215 = .ok (.newarray .int, 2) := by decide +kernel
theorem dX11_init_217 : decode cX11_init 217 = .ok (.putfield 90, 3) := by decide +kernel
theorem dX11_init_220 : decode cX11_init 220 = .ok (.aload_n 0, 1) := by decide +kernel
theorem dX11_init_221 : decode cX11_init 221 = .ok (.bipush 10, 2) := by decide +kernel
theorem dX11_init_223 : decode cX11_init 223 = .ok (.newarray .int, 2) := by decide +kernel
theorem dX11_init_225 : decode cX11_init 225 = .ok (.putfield 93, 3) := by decide +kernel
theorem dX11_init_228 : decode cX11_init 228 = .ok (.aload_n 0, 1) := by decide +kernel
theorem dX11_init_229 : decode cX11_init 229 = .ok (.bipush 10, 2) := by decide +kernel
theorem dX11_init_231 : decode cX11_init 231 = .ok (.newarray .boolean, 2) := by decide +kernel
theorem dX11_init_233 : decode cX11_init 233 = .ok (.putfield 96, 3) := by decide +kernel
theorem dX11_init_236 : decode cX11_init 236 = .ok (.aload_n 0, 1) := by decide +kernel
theorem dX11_init_237 : decode cX11_init 237 = .ok (.bipush 10, 2) := by decide +kernel
theorem dX11_init_239 : decode cX11_init 239 = .ok (.newarray .int, 2) := by decide +kernel
theorem dX11_init_241 : decode cX11_init 241 = .ok (.putfield 99, 3) := by decide +kernel
theorem dX11_init_244 : decode cX11_init 244 = .ok (.aload_n 0, 1) := by decide +kernel
theorem dX11_init_245 : decode cX11_init 245 = .ok (.bipush 10, 2) := by decide +kernel
theorem dX11_init_247 : decode cX11_init 247 = .ok (.newarray .int, 2) := by decide +kernel
theorem dX11_init_249 : decode cX11_init 249 = .ok (.putfield 102, 3) := by decide +kernel
theorem dX11_init_252 : decode cX11_init 252 = .ok (.return_, 1) := by decide +kernel
set_option maxHeartbeats 4000000 in
set_option maxRecDepth 100000 in
theorem c_X11_init (l : Launch) (E : zE) (n : Nat) (h : zH) (a0 : Nat) (res : Unit × zH) (hf : F_X11_init n h a0 = some res) : Met l yX11_init (zw yX11_init cX11_init 1 none) ({ frames := 1, cells := 31, slots := 400, locals := 20 } : Room) (zPc E h [.ref (zB E + a0)]) (zQc E res.2 none) 31 400 (zfr E) := by
  refine zmet (lo := [(0, .ref (zB E + a0))]) (by decide +kernel) (Nat.le_of_ble_eq_true rfl) rfl ?_
  intro p e s m args below meth c C hr hin
  unfold F_X11_init at hf
  refine zr_aload_n C dX11_init_0 rfl 0 rfl ?_
  refine zr_objInit C zt891 zt84 zt85 (Nat.le_of_ble_eq_true rfl) (Nat.le_of_ble_eq_true rfl) dX11_init_1 ?_
  refine zr_aload_n C dX11_init_4 rfl 0 rfl ?_
  refine zr_bipush (v := 6) C dX11_init_5 (by decide) ?_
  refine zr_newarray (ty := .int) (t0 := 0) (mx := 6) C hf (by decide) rfl rfl (fun _ => rfl) rfl zt101 (by decide) (Nat.le_of_ble_eq_true rfl) (Nat.le_of_ble_eq_true rfl) dX11_init_7 (fun w1 h2 hf => ?_)
  refine zr_srF C hf hin kf_X11_7 (fun _ _ _ => rfl) ⟨rfl, rfl⟩ dX11_init_9 (fun h3 hf => ?_)
  refine zr_aload_n C dX11_init_12 rfl 0 rfl ?_
  refine zr_bipush (v := 24) C dX11_init_13 (by decide) ?_
  refine zr_newarray (ty := .int) (t0 := 0) (mx := 24) C hf (by decide) rfl rfl (fun _ => rfl) rfl zt101 (by decide) (Nat.le_of_ble_eq_true rfl) (Nat.le_of_ble_eq_true rfl) dX11_init_15 (fun w4 h5 hf => ?_)
  refine zr_srF C hf hin kf_X11_13 (fun _ _ _ => rfl) ⟨rfl, rfl⟩ dX11_init_17 (fun h6 hf => ?_)
  refine zr_aload_n C dX11_init_20 rfl 0 rfl ?_
  refine zr_bipush (v := 24) C dX11_init_21 (by decide) ?_
  refine zr_newarray (ty := .int) (t0 := 0) (mx := 24) C hf (by decide) rfl rfl (fun _ => rfl) rfl zt101 (by decide) (Nat.le_of_ble_eq_true rfl) (Nat.le_of_ble_eq_true rfl) dX11_init_23 (fun w7 h8 hf => ?_)
  refine zr_srF C hf hin kf_X11_16 (fun _ _ _ => rfl) ⟨rfl, rfl⟩ dX11_init_25 (fun h9 hf => ?_)
  refine zr_aload_n C dX11_init_28 rfl 0 rfl ?_
  refine zr_bipush (v := 8) C dX11_init_29 (by decide) ?_
  refine zr_newarray (ty := .int) (t0 := 0) (mx := 8) C hf (by decide) rfl rfl (fun _ => rfl) rfl zt101 (by decide) (Nat.le_of_ble_eq_true rfl) (Nat.le_of_ble_eq_true rfl) dX11_init_31 (fun w10 h11 hf => ?_)
  refine zr_srF C hf hin kf_X11_19 (fun _ _ _ => rfl) ⟨rfl, rfl⟩ dX11_init_33 (fun h12 hf => ?_)
  refine zr_aload_n C dX11_init_36 rfl 0 rfl ?_
  refine zr_bipush (v := 8) C dX11_init_37 (by decide) ?_
  refine zr_newarray (ty := .int) (t0 := 0) (mx := 8) C hf (by decide) rfl rfl (fun _ => rfl) rfl zt101 (by decide) (Nat.le_of_ble_eq_true rfl) (Nat.le_of_ble_eq_true rfl) dX11_init_39 (fun w13 h14 hf => ?_)
  refine zr_srF C hf hin kf_X11_22 (fun _ _ _ => rfl) ⟨rfl, rfl⟩ dX11_init_41 (fun h15 hf => ?_)
  refine zr_aload_n C dX11_init_44 rfl 0 rfl ?_
  refine zr_bipush (v := 8) C dX11_init_45 (by decide) ?_
  refine zr_newarray (ty := .int) (t0 := 0) (mx := 8) C hf (by decide) rfl rfl (fun _ => rfl) rfl zt101 (by decide) (Nat.le_of_ble_eq_true rfl) (Nat.le_of_ble_eq_true rfl) dX11_init_47 (fun w16 h17 hf => ?_)
  refine zr_srF C hf hin kf_X11_25 (fun _ _ _ => rfl) ⟨rfl, rfl⟩ dX11_init_49 (fun h18 hf => ?_)
  refine zr_aload_n C dX11_init_52 rfl 0 rfl ?_
  refine zr_bipush (v := 8) C dX11_init_53 (by decide) ?_
  refine zr_newarray (ty := .int) (t0 := 0) (mx := 8) C hf (by decide) rfl rfl (fun _ => rfl) rfl zt101 (by decide) (Nat.le_of_ble_eq_true rfl) (Nat.le_of_ble_eq_true rfl) dX11_init_55 (fun w19 h20 hf => ?_)
  refine zr_srF C hf hin kf_X11_28 (fun _ _ _ => rfl) ⟨rfl, rfl⟩ dX11_init_57 (fun h21 hf => ?_)
  refine zr_aload_n C dX11_init_60 rfl 0 rfl ?_
  refine zr_bipush (v := 8) C dX11_init_61 (by decide) ?_
  refine zr_newarray (ty := .int) (t0 := 0) (mx := 8) C hf (by decide) rfl rfl (fun _ => rfl) rfl zt101 (by decide) (Nat.le_of_ble_eq_true rfl) (Nat.le_of_ble_eq_true rfl) dX11_init_63 (fun w22 h23 hf => ?_)
  refine zr_srF C hf hin kf_X11_31 (fun _ _ _ => rfl) ⟨rfl, rfl⟩ dX11_init_65 (fun h24 hf => ?_)
  refine zr_aload_n C dX11_init_68 rfl 0 rfl ?_
  refine zr_bipush (v := 8) C dX11_init_69 (by decide) ?_
  refine zr_newarray (ty := .int) (t0 := 0) (mx := 8) C hf (by decide) rfl rfl (fun _ => rfl) rfl zt101 (by decide) (Nat.le_of_ble_eq_true rfl) (Nat.le_of_ble_eq_true rfl) dX11_init_71 (fun w25 h26 hf => ?_)
  refine zr_srF C hf hin kf_X11_34 (fun _ _ _ => rfl) ⟨rfl, rfl⟩ dX11_init_73 (fun h27 hf => ?_)
  refine zr_aload_n C dX11_init_76 rfl 0 rfl ?_
  refine zr_bipush (v := 8) C dX11_init_77 (by decide) ?_
  refine zr_newarray (ty := .int) (t0 := 0) (mx := 8) C hf (by decide) rfl rfl (fun _ => rfl) rfl zt101 (by decide) (Nat.le_of_ble_eq_true rfl) (Nat.le_of_ble_eq_true rfl) dX11_init_79 (fun w28 h29 hf => ?_)
  refine zr_srF C hf hin kf_X11_37 (fun _ _ _ => rfl) ⟨rfl, rfl⟩ dX11_init_81 (fun h30 hf => ?_)
  refine zr_aload_n C dX11_init_84 rfl 0 rfl ?_
  refine zr_bipush (v := 8) C dX11_init_85 (by decide) ?_
  refine zr_newarray (ty := .int) (t0 := 0) (mx := 8) C hf (by decide) rfl rfl (fun _ => rfl) rfl zt101 (by decide) (Nat.le_of_ble_eq_true rfl) (Nat.le_of_ble_eq_true rfl) dX11_init_87 (fun w31 h32 hf => ?_)
  refine zr_srF C hf hin kf_X11_40 (fun _ _ _ => rfl) ⟨rfl, rfl⟩ dX11_init_89 (fun h33 hf => ?_)
  refine zr_aload_n C dX11_init_92 rfl 0 rfl ?_
  refine zr_bipush (v := 6) C dX11_init_93 (by decide) ?_
  refine zr_newarray (ty := .int) (t0 := 0) (mx := 6) C hf (by decide) rfl rfl (fun _ => rfl) rfl zt101 (by decide) (Nat.le_of_ble_eq_true rfl) (Nat.le_of_ble_eq_true rfl) dX11_init_95 (fun w34 h35 hf => ?_)
  refine zr_srF C hf hin kf_X11_43 (fun _ _ _ => rfl) ⟨rfl, rfl⟩ dX11_init_97 (fun h36 hf => ?_)
  refine zr_aload_n C dX11_init_100 rfl 0 rfl ?_
  refine zr_bipush (v := 6) C dX11_init_101 (by decide) ?_
  refine zr_newarray (ty := .int) (t0 := 0) (mx := 6) C hf (by decide) rfl rfl (fun _ => rfl) rfl zt101 (by decide) (Nat.le_of_ble_eq_true rfl) (Nat.le_of_ble_eq_true rfl) dX11_init_103 (fun w37 h38 hf => ?_)
  refine zr_srF C hf hin kf_X11_46 (fun _ _ _ => rfl) ⟨rfl, rfl⟩ dX11_init_105 (fun h39 hf => ?_)
  refine zr_aload_n C dX11_init_108 rfl 0 rfl ?_
  refine zr_bipush (v := 36) C dX11_init_109 (by decide) ?_
  refine zr_newarray (ty := .int) (t0 := 0) (mx := 36) C hf (by decide) rfl rfl (fun _ => rfl) rfl zt101 (by decide) (Nat.le_of_ble_eq_true rfl) (Nat.le_of_ble_eq_true rfl) dX11_init_111 (fun w40 h41 hf => ?_)
  refine zr_srF C hf hin kf_X11_49 (fun _ _ _ => rfl) ⟨rfl, rfl⟩ dX11_init_113 (fun h42 hf => ?_)
  refine zr_aload_n C dX11_init_116 rfl 0 rfl ?_
  refine zr_bipush (v := 36) C dX11_init_117 (by decide) ?_
  refine zr_newarray (ty := .int) (t0 := 0) (mx := 36) C hf (by decide) rfl rfl (fun _ => rfl) rfl zt101 (by decide) (Nat.le_of_ble_eq_true rfl) (Nat.le_of_ble_eq_true rfl) dX11_init_119 (fun w43 h44 hf => ?_)
  refine zr_srF C hf hin kf_X11_52 (fun _ _ _ => rfl) ⟨rfl, rfl⟩ dX11_init_121 (fun h45 hf => ?_)
  refine zr_aload_n C dX11_init_124 rfl 0 rfl ?_
  refine zr_bipush (v := 12) C dX11_init_125 (by decide) ?_
  refine zr_newarray (ty := .int) (t0 := 0) (mx := 12) C hf (by decide) rfl rfl (fun _ => rfl) rfl zt101 (by decide) (Nat.le_of_ble_eq_true rfl) (Nat.le_of_ble_eq_true rfl) dX11_init_127 (fun w46 h47 hf => ?_)
  refine zr_srF C hf hin kf_X11_55 (fun _ _ _ => rfl) ⟨rfl, rfl⟩ dX11_init_129 (fun h48 hf => ?_)
  refine zr_aload_n C dX11_init_132 rfl 0 rfl ?_
  refine zr_bipush (v := 12) C dX11_init_133 (by decide) ?_
  refine zr_newarray (ty := .int) (t0 := 0) (mx := 12) C hf (by decide) rfl rfl (fun _ => rfl) rfl zt101 (by decide) (Nat.le_of_ble_eq_true rfl) (Nat.le_of_ble_eq_true rfl) dX11_init_135 (fun w49 h50 hf => ?_)
  refine zr_srF C hf hin kf_X11_58 (fun _ _ _ => rfl) ⟨rfl, rfl⟩ dX11_init_137 (fun h51 hf => ?_)
  refine zr_aload_n C dX11_init_140 rfl 0 rfl ?_
  refine zr_bipush (v := 10) C dX11_init_141 (by decide) ?_
  refine zr_newarray (ty := .int) (t0 := 0) (mx := 10) C hf (by decide) rfl rfl (fun _ => rfl) rfl zt101 (by decide) (Nat.le_of_ble_eq_true rfl) (Nat.le_of_ble_eq_true rfl) dX11_init_143 (fun w52 h53 hf => ?_)
  refine zr_srF C hf hin kf_X11_61 (fun _ _ _ => rfl) ⟨rfl, rfl⟩ dX11_init_145 (fun h54 hf => ?_)
  refine zr_aload_n C dX11_init_148 rfl 0 rfl ?_
  refine zr_bipush (v := 10) C dX11_init_149 (by decide) ?_
  refine zr_newarray (ty := .boolean) (t0 := 2) (mx := 10) C hf (by decide) rfl rfl (fun _ => rfl) rfl zt165 (by decide) (Nat.le_of_ble_eq_true rfl) (Nat.le_of_ble_eq_true rfl) dX11_init_151 (fun w55 h56 hf => ?_)
  refine zr_srF C hf hin kf_X11_64 (fun _ _ _ => rfl) ⟨rfl, rfl⟩ dX11_init_153 (fun h57 hf => ?_)
  refine zr_aload_n C dX11_init_156 rfl 0 rfl ?_
  refine zr_bipush (v := 50) C dX11_init_157 (by decide) ?_
  refine zr_newarray (ty := .byte) (t0 := 1) (mx := 50) C hf (by decide) rfl rfl (fun _ => rfl) rfl zt475 (by decide) (Nat.le_of_ble_eq_true rfl) (Nat.le_of_ble_eq_true rfl) dX11_init_159 (fun w58 h59 hf => ?_)
  refine zr_srF C hf hin kf_X11_68 (fun _ _ _ => rfl) ⟨rfl, rfl⟩ dX11_init_161 (fun h60 hf => ?_)
  refine zr_aload_n C dX11_init_164 rfl 0 rfl ?_
  refine zr_bipush (v := 24) C dX11_init_165 (by decide) ?_
  refine zr_newarray (ty := .int) (t0 := 0) (mx := 24) C hf (by decide) rfl rfl (fun _ => rfl) rfl zt101 (by decide) (Nat.le_of_ble_eq_true rfl) (Nat.le_of_ble_eq_true rfl) dX11_init_167 (fun w61 h62 hf => ?_)
  refine zr_srF C hf hin kf_X11_72 (fun _ _ _ => rfl) ⟨rfl, rfl⟩ dX11_init_169 (fun h63 hf => ?_)
  refine zr_aload_n C dX11_init_172 rfl 0 rfl ?_
  refine zr_bipush (v := 8) C dX11_init_173 (by decide) ?_
  refine zr_newarray (ty := .int) (t0 := 0) (mx := 8) C hf (by decide) rfl rfl (fun _ => rfl) rfl zt101 (by decide) (Nat.le_of_ble_eq_true rfl) (Nat.le_of_ble_eq_true rfl) dX11_init_175 (fun w64 h65 hf => ?_)
  refine zr_srF C hf hin kf_X11_75 (fun _ _ _ => rfl) ⟨rfl, rfl⟩ dX11_init_177 (fun h66 hf => ?_)
  refine zr_aload_n C dX11_init_180 rfl 0 rfl ?_
  refine zr_bipush (v := 8) C dX11_init_181 (by decide) ?_
  refine zr_newarray (ty := .int) (t0 := 0) (mx := 8) C hf (by decide) rfl rfl (fun _ => rfl) rfl zt101 (by decide) (Nat.le_of_ble_eq_true rfl) (Nat.le_of_ble_eq_true rfl) dX11_init_183 (fun w67 h68 hf => ?_)
  refine zr_srF C hf hin kf_X11_78 (fun _ _ _ => rfl) ⟨rfl, rfl⟩ dX11_init_185 (fun h69 hf => ?_)
  refine zr_aload_n C dX11_init_188 rfl 0 rfl ?_
  refine zr_bipush (v := 6) C dX11_init_189 (by decide) ?_
  refine zr_newarray (ty := .int) (t0 := 0) (mx := 6) C hf (by decide) rfl rfl (fun _ => rfl) rfl zt101 (by decide) (Nat.le_of_ble_eq_true rfl) (Nat.le_of_ble_eq_true rfl) dX11_init_191 (fun w70 h71 hf => ?_)
  refine zr_srF C hf hin kf_X11_81 (fun _ _ _ => rfl) ⟨rfl, rfl⟩ dX11_init_193 (fun h72 hf => ?_)
  refine zr_aload_n C dX11_init_196 rfl 0 rfl ?_
  refine zr_bipush (v := 6) C dX11_init_197 (by decide) ?_
  refine zr_newarray (ty := .int) (t0 := 0) (mx := 6) C hf (by decide) rfl rfl (fun _ => rfl) rfl zt101 (by decide) (Nat.le_of_ble_eq_true rfl) (Nat.le_of_ble_eq_true rfl) dX11_init_199 (fun w73 h74 hf => ?_)
  refine zr_srF C hf hin kf_X11_84 (fun _ _ _ => rfl) ⟨rfl, rfl⟩ dX11_init_201 (fun h75 hf => ?_)
  refine zr_aload_n C dX11_init_204 rfl 0 rfl ?_
  refine zr_bipush (v := 6) C dX11_init_205 (by decide) ?_
  refine zr_newarray (ty := .int) (t0 := 0) (mx := 6) C hf (by decide) rfl rfl (fun _ => rfl) rfl zt101 (by decide) (Nat.le_of_ble_eq_true rfl) (Nat.le_of_ble_eq_true rfl) dX11_init_207 (fun w76 h77 hf => ?_)
  refine zr_srF C hf hin kf_X11_87 (fun _ _ _ => rfl) ⟨rfl, rfl⟩ dX11_init_209 (fun h78 hf => ?_)
  refine zr_aload_n C dX11_init_212 rfl 0 rfl ?_
  refine zr_bipush (v := 6) C dX11_init_213 (by decide) ?_
  refine zr_newarray (ty := .int) (t0 := 0) (mx := 6) C hf (by decide) rfl rfl (fun _ => rfl) rfl zt101 (by decide) (Nat.le_of_ble_eq_true rfl) (Nat.le_of_ble_eq_true rfl) dX11_init_215 (fun w79 h80 hf => ?_)
  refine zr_srF C hf hin kf_X11_90 (fun _ _ _ => rfl) ⟨rfl, rfl⟩ dX11_init_217 (fun h81 hf => ?_)
  refine zr_aload_n C dX11_init_220 rfl 0 rfl ?_
  refine zr_bipush (v := 10) C dX11_init_221 (by decide) ?_
  refine zr_newarray (ty := .int) (t0 := 0) (mx := 10) C hf (by decide) rfl rfl (fun _ => rfl) rfl zt101 (by decide) (Nat.le_of_ble_eq_true rfl) (Nat.le_of_ble_eq_true rfl) dX11_init_223 (fun w82 h83 hf => ?_)
  refine zr_srF C hf hin kf_X11_93 (fun _ _ _ => rfl) ⟨rfl, rfl⟩ dX11_init_225 (fun h84 hf => ?_)
  refine zr_aload_n C dX11_init_228 rfl 0 rfl ?_
  refine zr_bipush (v := 10) C dX11_init_229 (by decide) ?_
  refine zr_newarray (ty := .boolean) (t0 := 2) (mx := 10) C hf (by decide) rfl rfl (fun _ => rfl) rfl zt165 (by decide) (Nat.le_of_ble_eq_true rfl) (Nat.le_of_ble_eq_true rfl) dX11_init_231 (fun w85 h86 hf => ?_)
  refine zr_srF C hf hin kf_X11_96 (fun _ _ _ => rfl) ⟨rfl, rfl⟩ dX11_init_233 (fun h87 hf => ?_)
  refine zr_aload_n C dX11_init_236 rfl 0 rfl ?_
  refine zr_bipush (v := 10) C dX11_init_237 (by decide) ?_
  refine zr_newarray (ty := .int) (t0 := 0) (mx := 10) C hf (by decide) rfl rfl (fun _ => rfl) rfl zt101 (by decide) (Nat.le_of_ble_eq_true rfl) (Nat.le_of_ble_eq_true rfl) dX11_init_239 (fun w88 h89 hf => ?_)
  refine zr_srF C hf hin kf_X11_99 (fun _ _ _ => rfl) ⟨rfl, rfl⟩ dX11_init_241 (fun h90 hf => ?_)
  refine zr_aload_n C dX11_init_244 rfl 0 rfl ?_
  refine zr_bipush (v := 10) C dX11_init_245 (by decide) ?_
  refine zr_newarray (ty := .int) (t0 := 0) (mx := 10) C hf (by decide) rfl rfl (fun _ => rfl) rfl zt101 (by decide) (Nat.le_of_ble_eq_true rfl) (Nat.le_of_ble_eq_true rfl) dX11_init_247 (fun w91 h92 hf => ?_)
  refine zr_srF C hf hin kf_X11_102 (fun _ _ _ => rfl) ⟨rfl, rfl⟩ dX11_init_249 (fun h93 hf => ?_)
  exact zr_return C hf hr (Nat.le_of_ble_eq_true rfl) (Nat.le_of_ble_eq_true rfl) dX11_init_252
theorem dX11_within_0 : decode cX11_within 0 = .ok (.iload_n 0, 1) := by decide +kernel
theorem dX11_within_1 : decode cX11_within 1 = .ok (.iload_n 1, 1) := by decide +kernel
theorem dX11_within_2 : decode cX11_within 2 = .ok (.if_icmp .lt 12, 3) := by decide +kernel
theorem dX11_within_5 : decode cX11_within 5 = .ok (.iload_n 0, 1) := by decide +kernel
theorem dX11_within_6 : decode cX11_within 6 = .ok (.iload_n 2, 1) := by decide +kernel
theorem dX11_within_7 : decode cX11_within 7 = .ok (.if_icmp .gt 7, 3) := by decide +kernel
theorem dX11_within_10 : decode cX11_within 10 = .ok (.iconst 1, 1) := by decide +kernel
theorem dX11_within_11 : decode cX11_within 11 = .ok (.goto 4, 3) := by decide +kernel
theorem dX11_within_14 : decode cX11_within 14 = .ok (.iconst 0, 1) := by decide +kernel
theorem dX11_within_15 : decode cX11_within 15 = .ok (.ireturn, 1) := by decide +kernel
set_option maxHeartbeats 4000000 in
set_option maxRecDepth 100000 in
theorem c_X11_within (l : Launch) (E : zE) (n : Nat) (h : zH) (p0 : Int32) (p1 : Int32) (p2 : Int32) (res : Int32 × zH) (hf : F_X11_within n h p0 p1 p2 = some res) : Met l yX11_within (zw yX11_within cX11_within 3 (some .boolean)) ({ frames := 0, cells := 0, slots := 0, locals := 0 } : Room) (zPc E h [.int p0, .int p1, .int p2]) (zQc E res.2 (some (.int res.1))) 0 0 (zfr E) := by
  refine zmet (lo := [(0, .int p0), (1, .int p1), (2, .int p2)]) (by decide +kernel) (Nat.le_of_ble_eq_true rfl) rfl ?_
  intro p e s m args below meth c C hr hin
  unfold F_X11_within at hf
  have J15 : ∀ (h4 : zH) (x3 : Int32), F_X11_within_J15 n h4 x3 = some res → zW p l e (headSpec (zw yX11_within cX11_within 3 (some .boolean)) ({ frames := 0, cells := 0, slots := 0, locals := 0 } : Room)).room s m args below meth c E 3 (MQ below (zQc E res.2 (some (.int res.1))) args s 0 0 (zfr E)) 0 0 15 [] [.int x3] h4 := by
    intro h4 x3 hf
    unfold F_X11_within_J15 at hf
    exact zr_zreturn C hf hr (Nat.le_of_ble_eq_true rfl) (Nat.le_of_ble_eq_true rfl) dX11_within_15
  have J14 : ∀ (h6 : zH), F_X11_within_J14 n h6 = some res → zW p l e (headSpec (zw yX11_within cX11_within 3 (some .boolean)) ({ frames := 0, cells := 0, slots := 0, locals := 0 } : Room)).room s m args below meth c E 3 (MQ below (zQc E res.2 (some (.int res.1))) args s 0 0 (zfr E)) 0 0 14 [] [] h6 := by
    intro h6 hf
    unfold F_X11_within_J14 at hf
    refine zr_iconst (v := 0) C dX11_within_14 (by decide) ?_
    exact J15 h6 (0 : Int32) hf
  refine zr_iload_n C dX11_within_0 rfl 0 rfl ?_
  refine zr_iload_n C dX11_within_1 rfl 1 rfl ?_
  refine zr_icmp_lt (tgt := 14) C hf dX11_within_2 (by decide) (fun hf => ?_) (fun hf => ?_)
  · refine zsub [] rfl ?_
    exact J14 h hf
  · refine zr_iload_n C dX11_within_5 rfl 0 rfl ?_
    refine zr_iload_n C dX11_within_6 rfl 2 rfl ?_
    refine zr_icmp_gt (tgt := 14) C hf dX11_within_7 (by decide) (fun hf => ?_) (fun hf => ?_)
    · refine zsub [] rfl ?_
      exact J14 h hf
    · refine zr_iconst (v := 1) C dX11_within_10 (by decide) ?_
      refine zr_goto (tgt := 15) C dX11_within_11 (by decide) ?_
      refine zsub [] rfl ?_
      exact J15 h (1 : Int32) hf
theorem dX11_size_0 : decode cX11_size 0 = .ok (.iload_n 0, 1) := by decide +kernel
theorem dX11_size_1 : decode cX11_size 1 = .ok (.ifCond .ge 8, 3) := by decide +kernel
theorem dX11_size_4 : decode cX11_size 4 = .ok (.iload_n 0, 1) := by decide +kernel
theorem dX11_size_5 : decode cX11_size 5 = .ok (.ineg, 1) := by decide +kernel
theorem dX11_size_6 : decode cX11_size 6 = .ok (.goto 4, 3) := by decide +kernel
theorem dX11_size_9 : decode cX11_size 9 = .ok (.iload_n 0, 1) := by decide +kernel
theorem dX11_size_10 : decode cX11_size 10 = .ok (.ireturn, 1) := by decide +kernel
set_option maxHeartbeats 4000000 in
set_option maxRecDepth 100000 in
theorem c_X11_size (l : Launch) (E : zE) (n : Nat) (h : zH) (p0 : Int32) (res : Int32 × zH) (hf : F_X11_size n h p0 = some res) : Met l yX11_size (zw yX11_size cX11_size 1 (some .int)) ({ frames := 0, cells := 0, slots := 0, locals := 0 } : Room) (zPc E h [.int p0]) (zQc E res.2 (some (.int res.1))) 0 0 (zfr E) := by
  refine zmet (lo := [(0, .int p0)]) (by decide +kernel) (Nat.le_of_ble_eq_true rfl) rfl ?_
  intro p e s m args below meth c C hr hin
  unfold F_X11_size at hf
  have J10 : ∀ (h4 : zH) (x3 : Int32), F_X11_size_J10 n h4 x3 = some res → zW p l e (headSpec (zw yX11_size cX11_size 1 (some .int)) ({ frames := 0, cells := 0, slots := 0, locals := 0 } : Room)).room s m args below meth c E 1 (MQ below (zQc E res.2 (some (.int res.1))) args s 0 0 (zfr E)) 0 0 10 [] [.int x3] h4 := by
    intro h4 x3 hf
    unfold F_X11_size_J10 at hf
    exact zr_ireturn C hf hr (Nat.le_of_ble_eq_true rfl) (Nat.le_of_ble_eq_true rfl) dX11_size_10
  refine zr_iload_n C dX11_size_0 rfl 0 rfl ?_
  refine zr_if_ge (tgt := 9) C hf dX11_size_1 (by decide) (fun hf => ?_) (fun hf => ?_)
  · refine zr_iload_n C dX11_size_9 rfl 0 rfl ?_
    refine zsub [] rfl ?_
    exact J10 h p0 hf
  · refine zr_iload_n C dX11_size_4 rfl 0 rfl ?_
    refine zr_ineg C hf dX11_size_5 (fun x5 hf => ?_)
    refine zr_goto (tgt := 10) C dX11_size_6 (by decide) ?_
    refine zsub [] rfl ?_
    exact J10 h x5 hf
theorem dX11_letters_0 : decode cX11_letters 0 = .ok (.iconst 0, 1) := by decide +kernel
theorem dX11_letters_1 : decode cX11_letters 1 = .ok (.istore_n 3, 1) := by decide +kernel
theorem dX11_letters_2 : decode cX11_letters 2 = .ok (.iconst 0, 1) := by decide +kernel
theorem dX11_letters_3 : decode cX11_letters 3 = .ok (.istore 4, 2) := by decide +kernel
theorem dX11_letters_5 : decode cX11_letters 5 = .ok (.iconst 0, 1) := by decide +kernel
theorem dX11_letters_6 : decode cX11_letters 6 = .ok (.istore 5, 2) := by decide +kernel
theorem dX11_letters_8 : decode cX11_letters 8 = .ok (.iload 5, 2) := by decide +kernel
theorem dX11_letters_10 : decode cX11_letters 10 = .ok (.bipush 8, 2) := by decide +kernel
theorem dX11_letters_12 : decode cX11_letters 12 = .ok (.if_icmp .ge 73, 3) := by decide +kernel
theorem dX11_letters_15 : decode cX11_letters 15 = .ok (.lload_n 1, 1) := by decide +kernel
theorem dX11_letters_16 : decode cX11_letters 16 = .ok (.bipush 8, 2) := by decide +kernel
theorem dX11_letters_18 : decode cX11_letters 18 = .ok (.iload 5, 2) := by decide +kernel
theorem dX11_letters_20 : decode cX11_letters 20 = .ok (.imul, 1) := by decide +kernel
theorem dX11_letters_21 : decode cX11_letters 21 = .ok (.lshr, 1) := by decide +kernel
theorem dX11_letters_22 : decode cX11_letters 22 = .ok (.ldc2_w 105, 3) := by decide +kernel
theorem dX11_letters_25 : decode cX11_letters 25 = .ok (.land, 1) := by decide +kernel
theorem dX11_letters_26 : decode cX11_letters 26 = .ok (.l2i, 1) := by decide +kernel
theorem dX11_letters_27 : decode cX11_letters 27 = .ok (.istore 6, 2) := by decide +kernel
theorem dX11_letters_29 : decode cX11_letters 29 = .ok (.iload 6, 2) := by decide +kernel
theorem dX11_letters_31 : decode cX11_letters 31 = .ok (.bipush 126, 2) := by decide +kernel
theorem dX11_letters_33 : decode cX11_letters 33 = .ok (.if_icmp .gt 13, 3) := by decide +kernel
theorem dX11_letters_36 : decode cX11_letters 36 = .ok (.iload 4, 2) := by decide +kernel
theorem dX11_letters_38 : decode cX11_letters 38 = .ok (.ifCond .eq 11, 3) := by decide +kernel
theorem dX11_letters_41 : decode cX11_letters 41 = .ok (.iload 6, 2) := by decide +kernel
theorem dX11_letters_43 : decode cX11_letters 43 = .ok (.ifCond .eq 6, 3) := by decide +kernel
theorem dX11_letters_46 : decode cX11_letters 46 = .ok (.bipush (-102), 2) := by decide +kernel
theorem dX11_letters_48 : decode cX11_letters 48 = .ok (.ireturn, 1) := by decide +kernel
theorem dX11_letters_49 : decode cX11_letters 49 = .ok (.iload 4, 2) := by decide +kernel
theorem dX11_letters_51 : decode cX11_letters 51 = .ok (.ifCond .ne 8, 3) := by decide +kernel
theorem dX11_letters_54 : decode cX11_letters 54 = .ok (.iload 6, 2) := by decide +kernel
theorem dX11_letters_56 : decode cX11_letters 56 = .ok (.ifCond .ne 7, 3) := by decide +kernel
theorem dX11_letters_59 : decode cX11_letters 59 = .ok (.iconst 1, 1) := by decide +kernel
theorem dX11_letters_60 : decode cX11_letters 60 = .ok (.goto 4, 3) := by decide +kernel
theorem dX11_letters_63 : decode cX11_letters 63 = .ok (.iconst 0, 1) := by decide +kernel
theorem dX11_letters_64 : decode cX11_letters 64 = .ok (.istore 4, 2) := by decide +kernel
theorem dX11_letters_66 : decode cX11_letters 66 = .ok (.iload_n 3, 1) := by decide +kernel
theorem dX11_letters_67 : decode cX11_letters 67 = .ok (.iload 6, 2) := by decide +kernel
theorem dX11_letters_69 : decode cX11_letters 69 = .ok (.ifCond .ne 7, 3) := by decide +kernel
theorem dX11_letters_72 : decode cX11_letters 72 = .ok (.iconst 0, 1) := by decide +kernel
theorem dX11_letters_73 : decode cX11_letters 73 = .ok (.goto 4, 3) := by decide +kernel
theorem dX11_letters_76 : decode cX11_letters 76 = .ok (.iconst 1, 1) := by decide +kernel
theorem dX11_letters_77 : decode cX11_letters 77 = .ok (.iadd, 1) := by decide +kernel
theorem dX11_letters_78 : decode cX11_letters 78 = .ok (.istore_n 3, 1) := by decide +kernel
theorem dX11_letters_79 : decode cX11_letters 79 = .ok (.iinc 5 1, 3) := by decide +kernel
theorem dX11_letters_82 : decode cX11_letters 82 = .ok (.goto (-74), 3) := by decide +kernel
theorem dX11_letters_85 : decode cX11_letters 85 = .ok (.aload_n 0, 1) := by decide +kernel
theorem dX11_letters_86 : decode cX11_letters 86 = .ok (.getfield 107, 3) := by decide +kernel
theorem dX11_letters_89 : decode cX11_letters 89 = .ok (.iload_n 3, 1) := by decide +kernel
theorem dX11_letters_90 : decode cX11_letters 90 = .ok (.iadd, 1) := by decide +kernel
theorem dX11_letters_91 : decode cX11_letters 91 = .ok (.bipush 50, 2) := by decide +kernel
theorem dX11_letters_93 : decode cX11_letters 93 = .ok (.if_icmp .le 6, 3) := by decide +kernel
theorem dX11_letters_96 : decode cX11_letters 96 = .ok (.bipush (-104), 2) := by decide +kernel
theorem dX11_letters_98 : decode cX11_letters 98 = .ok (.ireturn, 1) := by decide +kernel
theorem dX11_letters_99 : decode cX11_letters 99 = .ok (.iconst 0, 1) := by decide +kernel
theorem dX11_letters_100 : decode cX11_letters 100 = .ok (.istore 5, 2) := by decide +kernel
theorem dX11_letters_102 : decode cX11_letters 102 = .ok (.iload 5, 2) := by decide +kernel
theorem dX11_letters_104 : decode cX11_letters 104 = .ok (.iload_n 3, 1) := by decide +kernel
theorem dX11_letters_105 : decode cX11_letters 105 = .ok (.if_icmp .ge 30, 3) := by decide +kernel
theorem dX11_letters_108 : decode cX11_letters 108 = .ok (.aload_n 0, 1) := by decide +kernel
theorem dX11_letters_109 : decode cX11_letters 109 = .ok (.getfield 68, 3) := by decide +kernel
theorem dX11_letters_112 : decode cX11_letters 112 = .ok (.aload_n 0, 1) := by decide +kernel
theorem dX11_letters_113 : decode cX11_letters 113 = .ok (.getfield 107, 3) := by decide +kernel
theorem dX11_letters_116 : decode cX11_letters 116 = .ok (.iload 5, 2) := by decide +kernel
theorem dX11_letters_118 : decode cX11_letters 118 = .ok (.iadd, 1) := by decide +kernel
theorem dX11_letters_119 : decode cX11_letters 119 = .ok (.lload_n 1, 1) := by decide +kernel
theorem dX11_letters_120 : decode cX11_letters 120 = .ok (.bipush 8, 2) := by decide +kernel
theorem dX11_letters_122 : decode cX11_letters 122 = .ok (.iload 5, 2) := by decide +kernel
theorem dX11_letters_124 : decode cX11_letters 124 = .ok (.imul, 1) := by decide +kernel
theorem dX11_letters_125 : decode cX11_letters 125 = .ok (.lshr, 1) := by decide +kernel
theorem dX11_letters_126 : decode cX11_letters 126 = .ok (.l2i, 1) := by decide +kernel
theorem dX11_letters_127 : decode cX11_letters 127 = .ok (.i2b, 1) := by decide +kernel
theorem dX11_letters_128 : decode cX11_letters 128 = .ok (.bastore, 1) := by decide +kernel
theorem dX11_letters_129 : decode cX11_letters 129 = .ok (.iinc 5 1, 3) := by decide +kernel
theorem dX11_letters_132 : decode cX11_letters 132 = .ok (.goto (-30), 3) := by decide +kernel
theorem dX11_letters_135 : decode cX11_letters 135 = .ok (.aload_n 0, 1) := by decide +kernel
theorem dX11_letters_136 : decode cX11_letters 136 = .ok (.dup, 1) := by decide +kernel
theorem dX11_letters_137 : decode cX11_letters 137 = .ok (.getfield 107, 3) := by decide +kernel
theorem dX11_letters_140 : decode cX11_letters 140 = .ok (.iload_n 3, 1) := by decide +kernel
theorem dX11_letters_141 : decode cX11_letters 141 = .ok (.iadd, 1) := by decide +kernel
theorem dX11_letters_142 : decode cX11_letters 142 = .ok (.putfield 107, 3) := by decide +kernel
theorem dX11_letters_145 : decode cX11_letters 145 = .ok (.aload_n 0, 1) := by decide +kernel
theorem dX11_letters_146 : decode cX11_letters 146 = .ok (.getfield 107, 3) := by decide +kernel
theorem dX11_letters_149 : decode cX11_letters 149 = .ok (.ireturn, 1) := by decide +kernel
set_option maxHeartbeats 4000000 in
set_option maxRecDepth 100000 in
theorem c_X11_letters (l : Launch) (E : zE) (n : Nat) (h : zH) (a0 : Nat) (p0 : Int64) (res : Int32 × zH) (hf : F_X11_letters n h a0 p0 = some res) : Met l yX11_letters (zw yX11_letters cX11_letters 7 (some .int)) ({ frames := 0, cells := 0, slots := 0, locals := 0 } : Room) (zPc E h [.ref (zB E + a0), .long p0]) (zQc E res.2 (some (.int res.1))) 0 0 (zfr E) := by
  refine zmet (lo := [(0, .ref (zB E + a0)), (1, .long p0)]) (by decide +kernel) (Nat.le_of_ble_eq_true rfl) rfl ?_
  intro p e s m args below meth c C hr hin
  unfold F_X11_letters at hf
  have J46 : ∀ (h2 : zH), F_X11_letters_J46 n h2 = some res → zW p l e (headSpec (zw yX11_letters cX11_letters 7 (some .int)) ({ frames := 0, cells := 0, slots := 0, locals := 0 } : Room)).room s m args below meth c E 7 (MQ below (zQc E res.2 (some (.int res.1))) args s 0 0 (zfr E)) 0 0 46 [] [] h2 := by
    intro h2 hf
    unfold F_X11_letters_J46 at hf
    refine zr_bipush (v := -102) C dX11_letters_46 (by decide) ?_
    exact zr_ireturn C hf hr (Nat.le_of_ble_eq_true rfl) (Nat.le_of_ble_eq_true rfl) dX11_letters_48
  refine zr_iconst (v := 0) C dX11_letters_0 (by decide) ?_
  refine zr_istore_n (lo2 := [(3, .int (0 : Int32)), (0, .ref (zB E + a0)), (1, .long p0)]) C dX11_letters_1 rfl (by decide) rfl ?_
  refine zr_iconst (v := 0) C dX11_letters_2 (by decide) ?_
  refine zr_istore (lo2 := [(4, .int (0 : Int32)), (3, .int (0 : Int32)), (0, .ref (zB E + a0)), (1, .long p0)]) C dX11_letters_3 (by decide) rfl ?_
  refine zr_iconst (v := 0) C dX11_letters_5 (by decide) ?_
  refine zr_istore (lo2 := [(5, .int (0 : Int32)), (4, .int (0 : Int32)), (3, .int (0 : Int32)), (0, .ref (zB E + a0)), (1, .long p0)]) C dX11_letters_6 (by decide) rfl ?_
  have L8 : ∀ (fu : Nat) (x : zH × Int32 × Int32 × Int32), zloop (fun kc x => F_X11_letters_B8 n kc x.1 a0 p0 x.2.1 x.2.2.1 x.2.2.2) fu x = some res → zW p l e (headSpec (zw yX11_letters cX11_letters 7 (some .int)) ({ frames := 0, cells := 0, slots := 0, locals := 0 } : Room)).room s m args below meth c E 7 (MQ below (zQc E res.2 (some (.int res.1))) args s 0 0 (zfr E)) 0 0 8 [(0, .ref (zB E + a0)), (1, .long p0), (3, .int x.2.1), (4, .int x.2.2.1), (5, .int x.2.2.2)] [] x.1 := by
    refine z_loop _ ?_
    intro kc8 hk8 x hf
    obtain ⟨h80, x77, x78, x79⟩ := x
    dsimp only at hf ⊢
    unfold F_X11_letters_B8 at hf
    have J77 : ∀ (h85 : zH) (x81 : Int32) (x82 : Int32) (x83 : Int32) (x84 : Int32), F_X11_letters_J77 n kc8 h85 a0 p0 x81 x82 x83 x84 = some res → zW p l e (headSpec (zw yX11_letters cX11_letters 7 (some .int)) ({ frames := 0, cells := 0, slots := 0, locals := 0 } : Room)).room s m args below meth c E 7 (MQ below (zQc E res.2 (some (.int res.1))) args s 0 0 (zfr E)) 0 0 77 [(0, .ref (zB E + a0)), (1, .long p0), (4, .int x81), (5, .int x82)] [.int x84, .int x83] h85 := by
      intro h85 x81 x82 x83 x84 hf
      unfold F_X11_letters_J77 at hf
      refine zr_iadd C hf dX11_letters_77 (fun x86 hf => ?_)
      refine zr_istore_n (lo2 := [(3, .int x86), (0, .ref (zB E + a0)), (1, .long p0), (4, .int x81), (5, .int x82)]) C dX11_letters_78 rfl (by decide) rfl ?_
      refine zr_iinc (v0 := 1) (k := 4) (f := fun v => [(5, .int v), (3, .int x86), (0, .ref (zB E + a0)), (1, .long p0), (4, .int x81)]) C hf (by decide) dX11_letters_79 rfl (by decide) (fun v => rfl) (fun x87 hf => ?_)
      refine zr_goto (tgt := 8) C dX11_letters_82 (by decide) ?_
      refine zsub [2, 3, 1, 4, 0] rfl ?_
      exact hk8 (h85, x86, x81, x87) hf
    have J64 : ∀ (h92 : zH) (x88 : Int32) (x89 : Int32) (x90 : Int32) (x91 : Int32), F_X11_letters_J64 n kc8 h92 a0 p0 x88 x89 x90 x91 = some res → zW p l e (headSpec (zw yX11_letters cX11_letters 7 (some .int)) ({ frames := 0, cells := 0, slots := 0, locals := 0 } : Room)).room s m args below meth c E 7 (MQ below (zQc E res.2 (some (.int res.1))) args s 0 0 (zfr E)) 0 0 64 [(0, .ref (zB E + a0)), (1, .long p0), (3, .int x88), (5, .int x89), (6, .int x90)] [.int x91] h92 := by
      intro h92 x88 x89 x90 x91 hf
      unfold F_X11_letters_J64 at hf
      refine zr_istore (lo2 := [(4, .int x91), (0, .ref (zB E + a0)), (1, .long p0), (3, .int x88), (5, .int x89), (6, .int x90)]) C dX11_letters_64 (by decide) rfl ?_
      refine zr_iload_n C dX11_letters_66 rfl 3 rfl ?_
      refine zr_iload C dX11_letters_67 5 rfl ?_
      refine zr_if_ne (tgt := 76) C hf dX11_letters_69 (by decide) (fun hf => ?_) (fun hf => ?_)
      · refine zr_iconst (v := 1) C dX11_letters_76 (by decide) ?_
        refine zsub [1, 2, 0, 4] rfl ?_
        exact J77 h92 x91 x89 x88 (1 : Int32) hf
      · refine zr_iconst (v := 0) C dX11_letters_72 (by decide) ?_
        refine zr_goto (tgt := 77) C dX11_letters_73 (by decide) ?_
        refine zsub [1, 2, 0, 4] rfl ?_
        exact J77 h92 x91 x89 x88 (0 : Int32) hf
    have J59 : ∀ (h96 : zH) (x93 : Int32) (x94 : Int32) (x95 : Int32), F_X11_letters_J59 n kc8 h96 a0 p0 x93 x94 x95 = some res → zW p l e (headSpec (zw yX11_letters cX11_letters 7 (some .int)) ({ frames := 0, cells := 0, slots := 0, locals := 0 } : Room)).room s m args below meth c E 7 (MQ below (zQc E res.2 (some (.int res.1))) args s 0 0 (zfr E)) 0 0 59 [(0, .ref (zB E + a0)), (1, .long p0), (3, .int x93), (5, .int x94), (6, .int x95)] [] h96 := by
      intro h96 x93 x94 x95 hf
      unfold F_X11_letters_J59 at hf
      refine zr_iconst (v := 1) C dX11_letters_59 (by decide) ?_
      refine zr_goto (tgt := 64) C dX11_letters_60 (by decide) ?_
      exact J64 h96 x93 x94 x95 (1 : Int32) hf
    have J49 : ∀ (h101 : zH) (x97 : Int32) (x98 : Int32) (x99 : Int32) (x100 : Int32), F_X11_letters_J49 n kc8 h101 a0 p0 x97 x98 x99 x100 = some res → zW p l e (headSpec (zw yX11_letters cX11_letters 7 (some .int)) ({ frames := 0, cells := 0, slots := 0, locals := 0 } : Room)).room s m args below meth c E 7 (MQ below (zQc E res.2 (some (.int res.1))) args s 0 0 (zfr E)) 0 0 49 [(0, .ref (zB E + a0)), (1, .long p0), (3, .int x97), (4, .int x98), (5, .int x99), (6, .int x100)] [] h101 := by
      intro h101 x97 x98 x99 x100 hf
      unfold F_X11_letters_J49 at hf
      refine zr_iload C dX11_letters_49 3 rfl ?_
      refine zr_if_ne (tgt := 59) C hf dX11_letters_51 (by decide) (fun hf => ?_) (fun hf => ?_)
      · refine zsub [0, 1, 2, 4, 5] rfl ?_
        exact J59 h101 x97 x99 x100 hf
      · refine zr_iload C dX11_letters_54 5 rfl ?_
        refine zr_if_ne (tgt := 63) C hf dX11_letters_56 (by decide) (fun hf => ?_) (fun hf => ?_)
        · refine zr_iconst (v := 0) C dX11_letters_63 (by decide) ?_
          refine zsub [0, 1, 2, 4, 5] rfl ?_
          exact J64 h101 x97 x99 x100 (0 : Int32) hf
        · refine zsub [0, 1, 2, 4, 5] rfl ?_
          exact J59 h101 x97 x99 x100 hf
    refine zr_iload C dX11_letters_8 4 rfl ?_
    refine zr_bipush (v := 8) C dX11_letters_10 (by decide) ?_
    refine zr_icmp_ge (tgt := 85) C hf dX11_letters_12 (by decide) (fun hf => ?_) (fun hf => ?_)
    · refine zr_aload_n C dX11_letters_85 rfl 0 rfl ?_
      refine zr_gi C hf kg_X11_107 (fun _ _ _ => rfl) dX11_letters_86 (fun x102 hf => ?_)
      refine zr_iload_n C dX11_letters_89 rfl 2 rfl ?_
      refine zr_iadd C hf dX11_letters_90 (fun x103 hf => ?_)
      refine zr_bipush (v := 50) C dX11_letters_91 (by decide) ?_
      refine zr_icmp_le (tgt := 99) C hf dX11_letters_93 (by decide) (fun hf => ?_) (fun hf => ?_)
      · refine zr_iconst (v := 0) C dX11_letters_99 (by decide) ?_
        refine zr_istore (lo2 := [(5, .int (0 : Int32)), (0, .ref (zB E + a0)), (1, .long p0), (3, .int x77), (4, .int x78)]) C dX11_letters_100 (by decide) rfl ?_
        have L102 : ∀ (fu : Nat) (x : zH × Int32), zloop (fun kc x => F_X11_letters_B102 n kc x.1 a0 p0 x77 x.2) fu x = some res → zW p l e (headSpec (zw yX11_letters cX11_letters 7 (some .int)) ({ frames := 0, cells := 0, slots := 0, locals := 0 } : Room)).room s m args below meth c E 7 (MQ below (zQc E res.2 (some (.int res.1))) args s 0 0 (zfr E)) 0 0 102 [(0, .ref (zB E + a0)), (1, .long p0), (3, .int x77), (5, .int x.2)] [] x.1 := by
          refine z_loop _ ?_
          intro kc102 hk102 x hf
          obtain ⟨h105, x104⟩ := x
          dsimp only at hf ⊢
          unfold F_X11_letters_B102 at hf
          refine zr_iload C dX11_letters_102 3 rfl ?_
          refine zr_iload_n C dX11_letters_104 rfl 2 rfl ?_
          refine zr_icmp_ge (tgt := 135) C hf dX11_letters_105 (by decide) (fun hf => ?_) (fun hf => ?_)
          · refine zr_aload_n C dX11_letters_135 rfl 0 rfl ?_
            refine zr_dup C dX11_letters_136 rfl ?_
            refine zr_gi C hf kg_X11_107 (fun _ _ _ => rfl) dX11_letters_137 (fun x106 hf => ?_)
            refine zr_iload_n C dX11_letters_140 rfl 2 rfl ?_
            refine zr_iadd C hf dX11_letters_141 (fun x107 hf => ?_)
            refine zr_si C hf kp_X11_107 (fun _ _ _ => rfl) rfl dX11_letters_142 (fun h108 hf => ?_)
            refine zr_aload_n C dX11_letters_145 rfl 0 rfl ?_
            refine zr_gi C hf kg_X11_107 (fun _ _ _ => rfl) dX11_letters_146 (fun x109 hf => ?_)
            exact zr_ireturn C hf hr (Nat.le_of_ble_eq_true rfl) (Nat.le_of_ble_eq_true rfl) dX11_letters_149
          · refine zr_aload_n C dX11_letters_108 rfl 0 rfl ?_
            refine zr_gr C hf kg_X11_68 (fun _ _ _ => rfl) dX11_letters_109 (fun w110 hf => ?_)
            refine zr_aload_n C dX11_letters_112 rfl 0 rfl ?_
            refine zr_gi C hf kg_X11_107 (fun _ _ _ => rfl) dX11_letters_113 (fun x111 hf => ?_)
            refine zr_iload C dX11_letters_116 3 rfl ?_
            refine zr_iadd C hf dX11_letters_118 (fun x112 hf => ?_)
            refine zr_lload_n C dX11_letters_119 rfl 1 rfl ?_
            refine zr_bipush (v := 8) C dX11_letters_120 (by decide) ?_
            refine zr_iload C dX11_letters_122 3 rfl ?_
            refine zr_imul C hf dX11_letters_124 (fun x113 hf => ?_)
            refine zr_lshr C hf dX11_letters_125 (fun j114 hf => ?_)
            refine zr_l2i C hf dX11_letters_126 (fun x115 hf => ?_)
            refine zr_i2b C hf dX11_letters_127 (fun x116 hf => ?_)
            refine zr_bastore C hf dX11_letters_128 (fun h117 hf => ?_)
            refine zr_iinc (v0 := 1) (k := 3) (f := fun v => [(5, .int v), (0, .ref (zB E + a0)), (1, .long p0), (3, .int x77)]) C hf (by decide) dX11_letters_129 rfl (by decide) (fun v => rfl) (fun x118 hf => ?_)
            refine zr_goto (tgt := 102) C dX11_letters_132 (by decide) ?_
            refine zsub [1, 2, 3, 0] rfl ?_
            exact hk102 (h117, x118) hf
        refine zsub [1, 2, 3, 0] rfl ?_
        exact L102 n (h80, (0 : Int32)) hf
      · refine zr_bipush (v := -104) C dX11_letters_96 (by decide) ?_
        exact zr_ireturn C hf hr (Nat.le_of_ble_eq_true rfl) (Nat.le_of_ble_eq_true rfl) dX11_letters_98
    · refine zr_lload_n C dX11_letters_15 rfl 1 rfl ?_
      refine zr_bipush (v := 8) C dX11_letters_16 (by decide) ?_
      refine zr_iload C dX11_letters_18 4 rfl ?_
      refine zr_imul C hf dX11_letters_20 (fun x119 hf => ?_)
      refine zr_lshr C hf dX11_letters_21 (fun j120 hf => ?_)
      refine zr_ldc2 (v := 255) C zt1050 dX11_letters_22 ?_
      refine zr_land C hf dX11_letters_25 (fun j121 hf => ?_)
      refine zr_l2i C hf dX11_letters_26 (fun x122 hf => ?_)
      refine zr_istore (lo2 := [(6, .int x122), (0, .ref (zB E + a0)), (1, .long p0), (3, .int x77), (4, .int x78), (5, .int x79)]) C dX11_letters_27 (by decide) rfl ?_
      refine zr_iload C dX11_letters_29 0 rfl ?_
      refine zr_bipush (v := 126) C dX11_letters_31 (by decide) ?_
      refine zr_icmp_gt (tgt := 46) C hf dX11_letters_33 (by decide) (fun hf => ?_) (fun hf => ?_)
      · refine zsub [] rfl ?_
        exact J46 h80 hf
      · refine zr_iload C dX11_letters_36 4 rfl ?_
        refine zr_if_eq (tgt := 49) C hf dX11_letters_38 (by decide) (fun hf => ?_) (fun hf => ?_)
        · refine zsub [1, 2, 3, 4, 5, 0] rfl ?_
          exact J49 h80 x77 x78 x79 x122 hf
        · refine zr_iload C dX11_letters_41 0 rfl ?_
          refine zr_if_eq (tgt := 49) C hf dX11_letters_43 (by decide) (fun hf => ?_) (fun hf => ?_)
          · refine zsub [1, 2, 3, 4, 5, 0] rfl ?_
            exact J49 h80 x77 x78 x79 x122 hf
          · refine zsub [] rfl ?_
            exact J46 h80 hf
  refine zsub [3, 4, 2, 1, 0] rfl ?_
  exact L8 n (h, (0 : Int32), (0 : Int32), (0 : Int32)) hf
theorem dX11_blank_0 : decode cX11_blank 0 = .ok (.aload_n 0, 1) := by decide +kernel
theorem dX11_blank_1 : decode cX11_blank 1 = .ok (.getfield 107, 3) := by decide +kernel
theorem dX11_blank_4 : decode cX11_blank 4 = .ok (.istore_n 1, 1) := by decide +kernel
theorem dX11_blank_5 : decode cX11_blank 5 = .ok (.aload_n 0, 1) := by decide +kernel
theorem dX11_blank_6 : decode cX11_blank 6 = .ok (.iconst 0, 1) := by decide +kernel
theorem dX11_blank_7 : decode cX11_blank 7 = .ok (.putfield 107, 3) := by decide +kernel
theorem dX11_blank_10 : decode cX11_blank 10 = .ok (.iload_n 1, 1) := by decide +kernel
theorem dX11_blank_11 : decode cX11_blank 11 = .ok (.ireturn, 1) := by decide +kernel
set_option maxHeartbeats 4000000 in
set_option maxRecDepth 100000 in
theorem c_X11_blank (l : Launch) (E : zE) (n : Nat) (h : zH) (a0 : Nat) (res : Int32 × zH) (hf : F_X11_blank n h a0 = some res) : Met l yX11_blank (zw yX11_blank cX11_blank 2 (some .int)) ({ frames := 0, cells := 0, slots := 0, locals := 0 } : Room) (zPc E h [.ref (zB E + a0)]) (zQc E res.2 (some (.int res.1))) 0 0 (zfr E) := by
  refine zmet (lo := [(0, .ref (zB E + a0))]) (by decide +kernel) (Nat.le_of_ble_eq_true rfl) rfl ?_
  intro p e s m args below meth c C hr hin
  unfold F_X11_blank at hf
  refine zr_aload_n C dX11_blank_0 rfl 0 rfl ?_
  refine zr_gi C hf kg_X11_107 (fun _ _ _ => rfl) dX11_blank_1 (fun x1 hf => ?_)
  refine zr_istore_n (lo2 := [(1, .int x1), (0, .ref (zB E + a0))]) C dX11_blank_4 rfl (by decide) rfl ?_
  refine zr_aload_n C dX11_blank_5 rfl 1 rfl ?_
  refine zr_iconst (v := 0) C dX11_blank_6 (by decide) ?_
  refine zr_si C hf kp_X11_107 (fun _ _ _ => rfl) rfl dX11_blank_7 (fun h2 hf => ?_)
  refine zr_iload_n C dX11_blank_10 rfl 0 rfl ?_
  exact zr_ireturn C hf hr (Nat.le_of_ble_eq_true rfl) (Nat.le_of_ble_eq_true rfl) dX11_blank_11
theorem dX11_isDigit_0 : decode cX11_isDigit 0 = .ok (.iload_n 0, 1) := by decide +kernel
theorem dX11_isDigit_1 : decode cX11_isDigit 1 = .ok (.bipush 48, 2) := by decide +kernel
theorem dX11_isDigit_3 : decode cX11_isDigit 3 = .ok (.bipush 57, 2) := by decide +kernel
theorem dX11_isDigit_5 : decode cX11_isDigit 5 = .ok (.invokestatic 111, 3) := by decide +kernel
theorem dX11_isDigit_8 : decode cX11_isDigit 8 = .ok (.ireturn, 1) := by decide +kernel
set_option maxHeartbeats 4000000 in
set_option maxRecDepth 100000 in
theorem c_X11_isDigit (l : Launch) (E : zE) (n : Nat) (h : zH) (p0 : Int32) (res : Int32 × zH) (hf : F_X11_isDigit n h p0 = some res) : Met l yX11_isDigit (zw yX11_isDigit cX11_isDigit 1 (some .boolean)) ({ frames := 1, cells := 0, slots := 0, locals := 22 } : Room) (zPc E h [.int p0]) (zQc E res.2 (some (.int res.1))) 0 0 (zfr E) := by
  refine zmet (lo := [(0, .int p0)]) (by decide +kernel) (Nat.le_of_ble_eq_true rfl) rfl ?_
  intro p e s m args below meth c C hr hin
  unfold F_X11_isDigit at hf
  refine zr_iload_n C dX11_isDigit_0 rfl 0 rfl ?_
  refine zr_bipush (v := 48) C dX11_isDigit_1 (by decide) ?_
  refine zr_bipush (v := 57) C dX11_isDigit_3 (by decide) ?_
  refine zr_callSi (As := [.int p0, .int (48 : Int32), .int (57 : Int32)]) (rest := []) C hf (fun x hx => c_X11_within l E n h p0 (48 : Int32) (57 : Int32) x hx) ks_X11_111 rfl rfl (Nat.le_of_ble_eq_true rfl) ⟨rfl, rfl⟩ ⟨Nat.le_of_ble_eq_true rfl, Nat.le_of_ble_eq_true rfl⟩ ⟨Nat.le_of_ble_eq_true rfl, Nat.le_of_ble_eq_true rfl⟩ dX11_isDigit_5 (fun x2 h1 hf => ?_)
  exact zr_zreturn C hf hr (Nat.le_of_ble_eq_true rfl) (Nat.le_of_ble_eq_true rfl) dX11_isDigit_8
theorem dX11_nextCup_0 : decode cX11_nextCup 0 = .ok (.iload_n 1, 1) := by decide +kernel
theorem dX11_nextCup_1 : decode cX11_nextCup 1 = .ok (.bipush 9, 2) := by decide +kernel
theorem dX11_nextCup_3 : decode cX11_nextCup 3 = .ok (.if_icmp .le 29, 3) := by decide +kernel
theorem dX11_nextCup_6 : decode cX11_nextCup 6 = .ok (.aload_n 0, 1) := by decide +kernel
theorem dX11_nextCup_7 : decode cX11_nextCup 7 = .ok (.getfield 84, 3) := by decide +kernel
theorem dX11_nextCup_10 : decode cX11_nextCup 10 = .ok (.iconst 5, 1) := by decide +kernel
theorem dX11_nextCup_11 : decode cX11_nextCup 11 = .ok (.iconst 1, 1) := by decide +kernel
theorem dX11_nextCup_12 : decode cX11_nextCup 12 = .ok (.iastore, 1) := by decide +kernel
theorem dX11_nextCup_13 : decode cX11_nextCup 13 = .ok (.iload_n 1, 1) := by decide +kernel
theorem dX11_nextCup_14 : decode cX11_nextCup 14 = .ok (.bipush 10, 2) := by decide +kernel
theorem dX11_nextCup_16 : decode cX11_nextCup 16 = .ok (.if_icmp .ne 14, 3) := by decide +kernel
theorem dX11_nextCup_19 : decode cX11_nextCup 19 = .ok (.iload_n 2, 1) := by decide +kernel
theorem dX11_nextCup_20 : decode cX11_nextCup 20 = .ok (.bipush 113, 2) := by decide +kernel
theorem dX11_nextCup_22 : decode cX11_nextCup 22 = .ok (.if_icmp .ne 8, 3) := by decide +kernel
theorem dX11_nextCup_25 : decode cX11_nextCup 25 = .ok (.bipush 11, 2) := by decide +kernel
theorem dX11_nextCup_27 : decode cX11_nextCup 27 = .ok (.goto 4, 3) := by decide +kernel
theorem dX11_nextCup_30 : decode cX11_nextCup 30 = .ok (.iconst (-1), 1) := by decide +kernel
theorem dX11_nextCup_31 : decode cX11_nextCup 31 = .ok (.ireturn, 1) := by decide +kernel
theorem dX11_nextCup_32 : decode cX11_nextCup 32 = .ok (.iload_n 1, 1) := by decide +kernel
theorem dX11_nextCup_33 : decode cX11_nextCup 33 = .ok (.iconst 2, 1) := by decide +kernel
theorem dX11_nextCup_34 : decode cX11_nextCup 34 = .ok (.irem, 1) := by decide +kernel
theorem dX11_nextCup_35 : decode cX11_nextCup 35 = .ok (.ifCond .ne 59, 3) := by decide +kernel
theorem dX11_nextCup_38 : decode cX11_nextCup 38 = .ok (.iload_n 1, 1) := by decide +kernel
theorem dX11_nextCup_39 : decode cX11_nextCup 39 = .ok (.ifCond .ne 8, 3) := by decide +kernel
theorem dX11_nextCup_42 : decode cX11_nextCup 42 = .ok (.bipush 114, 2) := by decide +kernel
theorem dX11_nextCup_44 : decode cX11_nextCup 44 = .ok (.goto 36, 3) := by decide +kernel
theorem dX11_nextCup_47 : decode cX11_nextCup 47 = .ok (.iload_n 1, 1) := by decide +kernel
theorem dX11_nextCup_48 : decode cX11_nextCup 48 = .ok (.iconst 2, 1) := by decide +kernel
theorem dX11_nextCup_49 : decode cX11_nextCup 49 = .ok (.if_icmp .ne 8, 3) := by decide +kernel
theorem dX11_nextCup_52 : decode cX11_nextCup 52 = .ok (.bipush 104, 2) := by decide +kernel
theorem dX11_nextCup_54 : decode cX11_nextCup 54 = .ok (.goto 26, 3) := by decide +kernel
theorem dX11_nextCup_57 : decode cX11_nextCup 57 = .ok (.iload_n 1, 1) := by decide +kernel
theorem dX11_nextCup_58 : decode cX11_nextCup 58 = .ok (.iconst 4, 1) := by decide +kernel
theorem dX11_nextCup_59 : decode cX11_nextCup 59 = .ok (.if_icmp .ne 8, 3) := by decide +kernel
theorem dX11_nextCup_62 : decode cX11_nextCup 62 = .ok (.bipush 102, 2) := by decide +kernel
theorem dX11_nextCup_64 : decode cX11_nextCup 64 = .ok (.goto 16, 3) := by decide +kernel
theorem dX11_nextCup_67 : decode cX11_nextCup 67 = .ok (.iload_n 1, 1) := by decide +kernel
theorem dX11_nextCup_68 : decode cX11_nextCup 68 = .ok (.bipush 6, 2) := by decide +kernel
theorem dX11_nextCup_70 : decode cX11_nextCup 70 = .ok (.if_icmp .ne 8, 3) := by decide +kernel
theorem dX11_nextCup_73 : decode cX11_nextCup 73 = .ok (.bipush 119, 2) := by decide +kernel
theorem dX11_nextCup_75 : decode cX11_nextCup 75 = .ok (.goto 5, 3) := by decide +kernel
theorem dX11_nextCup_78 : decode cX11_nextCup 78 = .ok (.bipush 109, 2) := by decide +kernel
theorem dX11_nextCup_80 : decode cX11_nextCup 80 = .ok (.istore_n 3, 1) := by decide +kernel
theorem dX11_nextCup_81 : decode cX11_nextCup 81 = .ok (.iload_n 2, 1) := by decide +kernel
theorem dX11_nextCup_82 : decode cX11_nextCup 82 = .ok (.iload_n 3, 1) := by decide +kernel
theorem dX11_nextCup_83 : decode cX11_nextCup 83 = .ok (.if_icmp .ne 9, 3) := by decide +kernel
theorem dX11_nextCup_86 : decode cX11_nextCup 86 = .ok (.iload_n 1, 1) := by decide +kernel
theorem dX11_nextCup_87 : decode cX11_nextCup 87 = .ok (.iconst 1, 1) := by decide +kernel
theorem dX11_nextCup_88 : decode cX11_nextCup 88 = .ok (.iadd, 1) := by decide +kernel
theorem dX11_nextCup_89 : decode cX11_nextCup 89 = .ok (.goto 4, 3) := by decide +kernel
theorem dX11_nextCup_92 : decode cX11_nextCup 92 = .ok (.iconst (-1), 1) := by decide +kernel
theorem dX11_nextCup_93 : decode cX11_nextCup 93 = .ok (.ireturn, 1) := by decide +kernel
theorem dX11_nextCup_94 : decode cX11_nextCup 94 = .ok (.iload_n 1, 1) := by decide +kernel
theorem dX11_nextCup_95 : decode cX11_nextCup 95 = .ok (.iconst 4, 1) := by decide +kernel
theorem dX11_nextCup_96 : decode cX11_nextCup 96 = .ok (.if_icmp .ge 7, 3) := by decide +kernel
theorem dX11_nextCup_99 : decode cX11_nextCup 99 = .ok (.iconst 2, 1) := by decide +kernel
theorem dX11_nextCup_100 : decode cX11_nextCup 100 = .ok (.goto 4, 3) := by decide +kernel
theorem dX11_nextCup_103 : decode cX11_nextCup 103 = .ok (.iconst 0, 1) := by decide +kernel
theorem dX11_nextCup_104 : decode cX11_nextCup 104 = .ok (.istore_n 3, 1) := by decide +kernel
theorem dX11_nextCup_105 : decode cX11_nextCup 105 = .ok (.iload_n 1, 1) := by decide +kernel
theorem dX11_nextCup_106 : decode cX11_nextCup 106 = .ok (.iconst 1, 1) := by decide +kernel
theorem dX11_nextCup_107 : decode cX11_nextCup 107 = .ok (.if_icmp .ne 8, 3) := by decide +kernel
theorem dX11_nextCup_110 : decode cX11_nextCup 110 = .ok (.bipush 6, 2) := by decide +kernel
theorem dX11_nextCup_112 : decode cX11_nextCup 112 = .ok (.goto 14, 3) := by decide +kernel
theorem dX11_nextCup_115 : decode cX11_nextCup 115 = .ok (.iload_n 1, 1) := by decide +kernel
theorem dX11_nextCup_116 : decode cX11_nextCup 116 = .ok (.iconst 3, 1) := by decide +kernel
theorem dX11_nextCup_117 : decode cX11_nextCup 117 = .ok (.if_icmp .ne 7, 3) := by decide +kernel
theorem dX11_nextCup_120 : decode cX11_nextCup 120 = .ok (.iconst 4, 1) := by decide +kernel
theorem dX11_nextCup_121 : decode cX11_nextCup 121 = .ok (.goto 5, 3) := by decide +kernel
theorem dX11_nextCup_124 : decode cX11_nextCup 124 = .ok (.bipush 9, 2) := by decide +kernel
theorem dX11_nextCup_126 : decode cX11_nextCup 126 = .ok (.istore 4, 2) := by decide +kernel
theorem dX11_nextCup_128 : decode cX11_nextCup 128 = .ok (.aload_n 0, 1) := by decide +kernel
theorem dX11_nextCup_129 : decode cX11_nextCup 129 = .ok (.getfield 84, 3) := by decide +kernel
theorem dX11_nextCup_132 : decode cX11_nextCup 132 = .ok (.iload_n 1, 1) := by decide +kernel
theorem dX11_nextCup_133 : decode cX11_nextCup 133 = .ok (.iconst 2, 1) := by decide +kernel
theorem dX11_nextCup_134 : decode cX11_nextCup 134 = .ok (.idiv, 1) := by decide +kernel
theorem dX11_nextCup_135 : decode cX11_nextCup 135 = .ok (.iload_n 2, 1) := by decide +kernel
theorem dX11_nextCup_136 : decode cX11_nextCup 136 = .ok (.bipush 48, 2) := by decide +kernel
theorem dX11_nextCup_138 : decode cX11_nextCup 138 = .ok (.isub, 1) := by decide +kernel
theorem dX11_nextCup_139 : decode cX11_nextCup 139 = .ok (.iastore, 1) := by decide +kernel
theorem dX11_nextCup_140 : decode cX11_nextCup 140 = .ok (.iload_n 2, 1) := by decide +kernel
theorem dX11_nextCup_141 : decode cX11_nextCup 141 = .ok (.bipush 48, 2) := by decide +kernel
theorem dX11_nextCup_143 : decode cX11_nextCup 143 = .ok (.iload_n 3, 1) := by decide +kernel
theorem dX11_nextCup_144 : decode cX11_nextCup 144 = .ok (.iadd, 1) := by decide +kernel
theorem dX11_nextCup_145 : decode cX11_nextCup 145 = .ok (.bipush 48, 2) := by decide +kernel
theorem dX11_nextCup_147 : decode cX11_nextCup 147 = .ok (.iload 4, 2) := by decide +kernel
theorem dX11_nextCup_149 : decode cX11_nextCup 149 = .ok (.iadd, 1) := by decide +kernel
theorem dX11_nextCup_150 : decode cX11_nextCup 150 = .ok (.invokestatic 111, 3) := by decide +kernel
theorem dX11_nextCup_153 : decode cX11_nextCup 153 = .ok (.ifCond .eq 9, 3) := by decide +kernel
theorem dX11_nextCup_156 : decode cX11_nextCup 156 = .ok (.iload_n 1, 1) := by decide +kernel
theorem dX11_nextCup_157 : decode cX11_nextCup 157 = .ok (.iconst 1, 1) := by decide +kernel
theorem dX11_nextCup_158 : decode cX11_nextCup 158 = .ok (.iadd, 1) := by decide +kernel
theorem dX11_nextCup_159 : decode cX11_nextCup 159 = .ok (.goto 4, 3) := by decide +kernel
theorem dX11_nextCup_162 : decode cX11_nextCup 162 = .ok (.iconst (-1), 1) := by decide +kernel
theorem dX11_nextCup_163 : decode cX11_nextCup 163 = .ok (.ireturn, 1) := by decide +kernel
set_option maxHeartbeats 4000000 in
set_option maxRecDepth 100000 in
theorem c_X11_nextCup (l : Launch) (E : zE) (n : Nat) (h : zH) (a0 : Nat) (p0 : Int32) (p1 : Int32) (res : Int32 × zH) (hf : F_X11_nextCup n h a0 p0 p1 = some res) : Met l yX11_nextCup (zw yX11_nextCup cX11_nextCup 5 (some .int)) ({ frames := 1, cells := 0, slots := 0, locals := 22 } : Room) (zPc E h [.ref (zB E + a0), .int p0, .int p1]) (zQc E res.2 (some (.int res.1))) 0 0 (zfr E) := by
  refine zmet (lo := [(0, .ref (zB E + a0)), (1, .int p0), (2, .int p1)]) (by decide +kernel) (Nat.le_of_ble_eq_true rfl) rfl ?_
  intro p e s m args below meth c C hr hin
  unfold F_X11_nextCup at hf
  have J163 : ∀ (h4 : zH) (x3 : Int32), F_X11_nextCup_J163 n h4 x3 = some res → zW p l e (headSpec (zw yX11_nextCup cX11_nextCup 5 (some .int)) ({ frames := 1, cells := 0, slots := 0, locals := 22 } : Room)).room s m args below meth c E 5 (MQ below (zQc E res.2 (some (.int res.1))) args s 0 0 (zfr E)) 0 0 163 [] [.int x3] h4 := by
    intro h4 x3 hf
    unfold F_X11_nextCup_J163 at hf
    exact zr_ireturn C hf hr (Nat.le_of_ble_eq_true rfl) (Nat.le_of_ble_eq_true rfl) dX11_nextCup_163
  have J126 : ∀ (h25 : zH) (w20 : Nat) (x21 : Int32) (x22 : Int32) (x23 : Int32) (x24 : Int32), F_X11_nextCup_J126 n h25 w20 x21 x22 x23 x24 = some res → zW p l e (headSpec (zw yX11_nextCup cX11_nextCup 5 (some .int)) ({ frames := 1, cells := 0, slots := 0, locals := 22 } : Room)).room s m args below meth c E 5 (MQ below (zQc E res.2 (some (.int res.1))) args s 0 0 (zfr E)) 0 0 126 [(0, .ref (zB E + w20)), (1, .int x21), (2, .int x22), (3, .int x23)] [.int x24] h25 := by
    intro h25 w20 x21 x22 x23 x24 hf
    unfold F_X11_nextCup_J126 at hf
    refine zr_istore (lo2 := [(4, .int x24), (0, .ref (zB E + w20)), (1, .int x21), (2, .int x22), (3, .int x23)]) C dX11_nextCup_126 (by decide) rfl ?_
    refine zr_aload_n C dX11_nextCup_128 rfl 1 rfl ?_
    refine zr_gr C hf kg_X11_84 (fun _ _ _ => rfl) dX11_nextCup_129 (fun w26 hf => ?_)
    refine zr_iload_n C dX11_nextCup_132 rfl 2 rfl ?_
    refine zr_iconst (v := 2) C dX11_nextCup_133 (by decide) ?_
    refine zr_idiv C hf dX11_nextCup_134 (fun x27 hf => ?_)
    refine zr_iload_n C dX11_nextCup_135 rfl 3 rfl ?_
    refine zr_bipush (v := 48) C dX11_nextCup_136 (by decide) ?_
    refine zr_isub C hf dX11_nextCup_138 (fun x28 hf => ?_)
    refine zr_iastore C hf dX11_nextCup_139 (fun h29 hf => ?_)
    refine zr_iload_n C dX11_nextCup_140 rfl 3 rfl ?_
    refine zr_bipush (v := 48) C dX11_nextCup_141 (by decide) ?_
    refine zr_iload_n C dX11_nextCup_143 rfl 4 rfl ?_
    refine zr_iadd C hf dX11_nextCup_144 (fun x30 hf => ?_)
    refine zr_bipush (v := 48) C dX11_nextCup_145 (by decide) ?_
    refine zr_iload C dX11_nextCup_147 0 rfl ?_
    refine zr_iadd C hf dX11_nextCup_149 (fun x31 hf => ?_)
    refine zr_callSi (As := [.int x22, .int x30, .int x31]) (rest := []) C hf (fun x hx => c_X11_within l E n h29 x22 x30 x31 x hx) ks_X11_111 rfl rfl (Nat.le_of_ble_eq_true rfl) ⟨rfl, rfl⟩ ⟨Nat.le_of_ble_eq_true rfl, Nat.le_of_ble_eq_true rfl⟩ ⟨Nat.le_of_ble_eq_true rfl, Nat.le_of_ble_eq_true rfl⟩ dX11_nextCup_150 (fun x33 h32 hf => ?_)
    refine zr_if_eq (tgt := 162) C hf dX11_nextCup_153 (by decide) (fun hf => ?_) (fun hf => ?_)
    · refine zr_iconst (v := -1) C dX11_nextCup_162 (by decide) ?_
      refine zsub [] rfl ?_
      exact J163 h32 (-1 : Int32) hf
    · refine zr_iload_n C dX11_nextCup_156 rfl 2 rfl ?_
      refine zr_iconst (v := 1) C dX11_nextCup_157 (by decide) ?_
      refine zr_iadd C hf dX11_nextCup_158 (fun x34 hf => ?_)
      refine zr_goto (tgt := 163) C dX11_nextCup_159 (by decide) ?_
      refine zsub [] rfl ?_
      exact J163 h32 x34 hf
  have J104 : ∀ (h44 : zH) (w40 : Nat) (x41 : Int32) (x42 : Int32) (x43 : Int32), F_X11_nextCup_J104 n h44 w40 x41 x42 x43 = some res → zW p l e (headSpec (zw yX11_nextCup cX11_nextCup 5 (some .int)) ({ frames := 1, cells := 0, slots := 0, locals := 22 } : Room)).room s m args below meth c E 5 (MQ below (zQc E res.2 (some (.int res.1))) args s 0 0 (zfr E)) 0 0 104 [(0, .ref (zB E + w40)), (1, .int x41), (2, .int x42)] [.int x43] h44 := by
    intro h44 w40 x41 x42 x43 hf
    unfold F_X11_nextCup_J104 at hf
    refine zr_istore_n (lo2 := [(3, .int x43), (0, .ref (zB E + w40)), (1, .int x41), (2, .int x42)]) C dX11_nextCup_104 rfl (by decide) rfl ?_
    refine zr_iload_n C dX11_nextCup_105 rfl 2 rfl ?_
    refine zr_iconst (v := 1) C dX11_nextCup_106 (by decide) ?_
    refine zr_icmp_ne (tgt := 115) C hf dX11_nextCup_107 (by decide) (fun hf => ?_) (fun hf => ?_)
    · refine zr_iload_n C dX11_nextCup_115 rfl 2 rfl ?_
      refine zr_iconst (v := 3) C dX11_nextCup_116 (by decide) ?_
      refine zr_icmp_ne (tgt := 124) C hf dX11_nextCup_117 (by decide) (fun hf => ?_) (fun hf => ?_)
      · refine zr_bipush (v := 9) C dX11_nextCup_124 (by decide) ?_
        refine zsub [1, 2, 3, 0] rfl ?_
        exact J126 h44 w40 x41 x42 x43 (9 : Int32) hf
      · refine zr_iconst (v := 4) C dX11_nextCup_120 (by decide) ?_
        refine zr_goto (tgt := 126) C dX11_nextCup_121 (by decide) ?_
        refine zsub [1, 2, 3, 0] rfl ?_
        exact J126 h44 w40 x41 x42 x43 (4 : Int32) hf
    · refine zr_bipush (v := 6) C dX11_nextCup_110 (by decide) ?_
      refine zr_goto (tgt := 126) C dX11_nextCup_112 (by decide) ?_
      refine zsub [1, 2, 3, 0] rfl ?_
      exact J126 h44 w40 x41 x42 x43 (6 : Int32) hf
  have J93 : ∀ (h48 : zH) (x47 : Int32), F_X11_nextCup_J93 n h48 x47 = some res → zW p l e (headSpec (zw yX11_nextCup cX11_nextCup 5 (some .int)) ({ frames := 1, cells := 0, slots := 0, locals := 22 } : Room)).room s m args below meth c E 5 (MQ below (zQc E res.2 (some (.int res.1))) args s 0 0 (zfr E)) 0 0 93 [] [.int x47] h48 := by
    intro h48 x47 hf
    unfold F_X11_nextCup_J93 at hf
    exact zr_ireturn C hf hr (Nat.le_of_ble_eq_true rfl) (Nat.le_of_ble_eq_true rfl) dX11_nextCup_93
  have J80 : ∀ (h57 : zH) (x54 : Int32) (x55 : Int32) (x56 : Int32), F_X11_nextCup_J80 n h57 x54 x55 x56 = some res → zW p l e (headSpec (zw yX11_nextCup cX11_nextCup 5 (some .int)) ({ frames := 1, cells := 0, slots := 0, locals := 22 } : Room)).room s m args below meth c E 5 (MQ below (zQc E res.2 (some (.int res.1))) args s 0 0 (zfr E)) 0 0 80 [(1, .int x54), (2, .int x55)] [.int x56] h57 := by
    intro h57 x54 x55 x56 hf
    unfold F_X11_nextCup_J80 at hf
    refine zr_istore_n (lo2 := [(3, .int x56), (1, .int x54), (2, .int x55)]) C dX11_nextCup_80 rfl (by decide) rfl ?_
    refine zr_iload_n C dX11_nextCup_81 rfl 2 rfl ?_
    refine zr_iload_n C dX11_nextCup_82 rfl 0 rfl ?_
    refine zr_icmp_ne (tgt := 92) C hf dX11_nextCup_83 (by decide) (fun hf => ?_) (fun hf => ?_)
    · refine zr_iconst (v := -1) C dX11_nextCup_92 (by decide) ?_
      refine zsub [] rfl ?_
      exact J93 h57 (-1 : Int32) hf
    · refine zr_iload_n C dX11_nextCup_86 rfl 1 rfl ?_
      refine zr_iconst (v := 1) C dX11_nextCup_87 (by decide) ?_
      refine zr_iadd C hf dX11_nextCup_88 (fun x58 hf => ?_)
      refine zr_goto (tgt := 93) C dX11_nextCup_89 (by decide) ?_
      refine zsub [] rfl ?_
      exact J93 h57 x58 hf
  have J31 : ∀ (h62 : zH) (x61 : Int32), F_X11_nextCup_J31 n h62 x61 = some res → zW p l e (headSpec (zw yX11_nextCup cX11_nextCup 5 (some .int)) ({ frames := 1, cells := 0, slots := 0, locals := 22 } : Room)).room s m args below meth c E 5 (MQ below (zQc E res.2 (some (.int res.1))) args s 0 0 (zfr E)) 0 0 31 [] [.int x61] h62 := by
    intro h62 x61 hf
    unfold F_X11_nextCup_J31 at hf
    exact zr_ireturn C hf hr (Nat.le_of_ble_eq_true rfl) (Nat.le_of_ble_eq_true rfl) dX11_nextCup_31
  have J30 : ∀ (h64 : zH), F_X11_nextCup_J30 n h64 = some res → zW p l e (headSpec (zw yX11_nextCup cX11_nextCup 5 (some .int)) ({ frames := 1, cells := 0, slots := 0, locals := 22 } : Room)).room s m args below meth c E 5 (MQ below (zQc E res.2 (some (.int res.1))) args s 0 0 (zfr E)) 0 0 30 [] [] h64 := by
    intro h64 hf
    unfold F_X11_nextCup_J30 at hf
    refine zr_iconst (v := -1) C dX11_nextCup_30 (by decide) ?_
    exact J31 h64 (-1 : Int32) hf
  refine zr_iload_n C dX11_nextCup_0 rfl 1 rfl ?_
  refine zr_bipush (v := 9) C dX11_nextCup_1 (by decide) ?_
  refine zr_icmp_le (tgt := 32) C hf dX11_nextCup_3 (by decide) (fun hf => ?_) (fun hf => ?_)
  · refine zr_iload_n C dX11_nextCup_32 rfl 1 rfl ?_
    refine zr_iconst (v := 2) C dX11_nextCup_33 (by decide) ?_
    refine zr_irem C hf dX11_nextCup_34 (fun x65 hf => ?_)
    refine zr_if_ne (tgt := 94) C hf dX11_nextCup_35 (by decide) (fun hf => ?_) (fun hf => ?_)
    · refine zr_iload_n C dX11_nextCup_94 rfl 1 rfl ?_
      refine zr_iconst (v := 4) C dX11_nextCup_95 (by decide) ?_
      refine zr_icmp_ge (tgt := 103) C hf dX11_nextCup_96 (by decide) (fun hf => ?_) (fun hf => ?_)
      · refine zr_iconst (v := 0) C dX11_nextCup_103 (by decide) ?_
        exact J104 h a0 p0 p1 (0 : Int32) hf
      · refine zr_iconst (v := 2) C dX11_nextCup_99 (by decide) ?_
        refine zr_goto (tgt := 104) C dX11_nextCup_100 (by decide) ?_
        exact J104 h a0 p0 p1 (2 : Int32) hf
    · refine zr_iload_n C dX11_nextCup_38 rfl 1 rfl ?_
      refine zr_if_ne (tgt := 47) C hf dX11_nextCup_39 (by decide) (fun hf => ?_) (fun hf => ?_)
      · refine zr_iload_n C dX11_nextCup_47 rfl 1 rfl ?_
        refine zr_iconst (v := 2) C dX11_nextCup_48 (by decide) ?_
        refine zr_icmp_ne (tgt := 57) C hf dX11_nextCup_49 (by decide) (fun hf => ?_) (fun hf => ?_)
        · refine zr_iload_n C dX11_nextCup_57 rfl 1 rfl ?_
          refine zr_iconst (v := 4) C dX11_nextCup_58 (by decide) ?_
          refine zr_icmp_ne (tgt := 67) C hf dX11_nextCup_59 (by decide) (fun hf => ?_) (fun hf => ?_)
          · refine zr_iload_n C dX11_nextCup_67 rfl 1 rfl ?_
            refine zr_bipush (v := 6) C dX11_nextCup_68 (by decide) ?_
            refine zr_icmp_ne (tgt := 78) C hf dX11_nextCup_70 (by decide) (fun hf => ?_) (fun hf => ?_)
            · refine zr_bipush (v := 109) C dX11_nextCup_78 (by decide) ?_
              refine zsub [1, 2] rfl ?_
              exact J80 h p0 p1 (109 : Int32) hf
            · refine zr_bipush (v := 119) C dX11_nextCup_73 (by decide) ?_
              refine zr_goto (tgt := 80) C dX11_nextCup_75 (by decide) ?_
              refine zsub [1, 2] rfl ?_
              exact J80 h p0 p1 (119 : Int32) hf
          · refine zr_bipush (v := 102) C dX11_nextCup_62 (by decide) ?_
            refine zr_goto (tgt := 80) C dX11_nextCup_64 (by decide) ?_
            refine zsub [1, 2] rfl ?_
            exact J80 h p0 p1 (102 : Int32) hf
        · refine zr_bipush (v := 104) C dX11_nextCup_52 (by decide) ?_
          refine zr_goto (tgt := 80) C dX11_nextCup_54 (by decide) ?_
          refine zsub [1, 2] rfl ?_
          exact J80 h p0 p1 (104 : Int32) hf
      · refine zr_bipush (v := 114) C dX11_nextCup_42 (by decide) ?_
        refine zr_goto (tgt := 80) C dX11_nextCup_44 (by decide) ?_
        refine zsub [1, 2] rfl ?_
        exact J80 h p0 p1 (114 : Int32) hf
  · refine zr_aload_n C dX11_nextCup_6 rfl 0 rfl ?_
    refine zr_gr C hf kg_X11_84 (fun _ _ _ => rfl) dX11_nextCup_7 (fun w66 hf => ?_)
    refine zr_iconst (v := 5) C dX11_nextCup_10 (by decide) ?_
    refine zr_iconst (v := 1) C dX11_nextCup_11 (by decide) ?_
    refine zr_iastore C hf dX11_nextCup_12 (fun h67 hf => ?_)
    refine zr_iload_n C dX11_nextCup_13 rfl 1 rfl ?_
    refine zr_bipush (v := 10) C dX11_nextCup_14 (by decide) ?_
    refine zr_icmp_ne (tgt := 30) C hf dX11_nextCup_16 (by decide) (fun hf => ?_) (fun hf => ?_)
    · refine zsub [] rfl ?_
      exact J30 h67 hf
    · refine zr_iload_n C dX11_nextCup_19 rfl 2 rfl ?_
      refine zr_bipush (v := 113) C dX11_nextCup_20 (by decide) ?_
      refine zr_icmp_ne (tgt := 30) C hf dX11_nextCup_22 (by decide) (fun hf => ?_) (fun hf => ?_)
      · refine zsub [] rfl ?_
        exact J30 h67 hf
      · refine zr_bipush (v := 11) C dX11_nextCup_25 (by decide) ?_
        refine zr_goto (tgt := 31) C dX11_nextCup_27 (by decide) ?_
        refine zsub [] rfl ?_
        exact J31 h67 (11 : Int32) hf
theorem dX11_nextRow_0 : decode cX11_nextRow 0 = .ok (.iload_n 1, 1) := by decide +kernel
theorem dX11_nextRow_1 : decode cX11_nextRow 1 = .ok (.tableswitch 124 0 2 #[27, 57, 69], 27) := by decide +kernel
theorem dX11_nextRow_28 : decode cX11_nextRow 28 = .ok (.aload_n 0, 1) := by decide +kernel
theorem dX11_nextRow_29 : decode cX11_nextRow 29 = .ok (.getfield 87, 3) := by decide +kernel
theorem dX11_nextRow_32 : decode cX11_nextRow 32 = .ok (.aload_n 0, 1) := by decide +kernel
theorem dX11_nextRow_33 : decode cX11_nextRow 33 = .ok (.getfield 115, 3) := by decide +kernel
theorem dX11_nextRow_36 : decode cX11_nextRow 36 = .ok (.iload_n 2, 1) := by decide +kernel
theorem dX11_nextRow_37 : decode cX11_nextRow 37 = .ok (.bipush 48, 2) := by decide +kernel
theorem dX11_nextRow_39 : decode cX11_nextRow 39 = .ok (.isub, 1) := by decide +kernel
theorem dX11_nextRow_40 : decode cX11_nextRow 40 = .ok (.iastore, 1) := by decide +kernel
theorem dX11_nextRow_41 : decode cX11_nextRow 41 = .ok (.iload_n 2, 1) := by decide +kernel
theorem dX11_nextRow_42 : decode cX11_nextRow 42 = .ok (.bipush 48, 2) := by decide +kernel
theorem dX11_nextRow_44 : decode cX11_nextRow 44 = .ok (.bipush 55, 2) := by decide +kernel
theorem dX11_nextRow_46 : decode cX11_nextRow 46 = .ok (.invokestatic 111, 3) := by decide +kernel
theorem dX11_nextRow_49 : decode cX11_nextRow 49 = .ok (.ifCond .eq 7, 3) := by decide +kernel
theorem dX11_nextRow_52 : decode cX11_nextRow 52 = .ok (.iconst 1, 1) := by decide +kernel
theorem dX11_nextRow_53 : decode cX11_nextRow 53 = .ok (.goto 4, 3) := by decide +kernel
theorem dX11_nextRow_56 : decode cX11_nextRow 56 = .ok (.iconst (-1), 1) := by decide +kernel
theorem dX11_nextRow_57 : decode cX11_nextRow 57 = .ok (.ireturn, 1) := by decide +kernel
theorem dX11_nextRow_58 : decode cX11_nextRow 58 = .ok (.iload_n 2, 1) := by decide +kernel
theorem dX11_nextRow_59 : decode cX11_nextRow 59 = .ok (.bipush 42, 2) := by decide +kernel
theorem dX11_nextRow_61 : decode cX11_nextRow 61 = .ok (.if_icmp .ne 7, 3) := by decide +kernel
theorem dX11_nextRow_64 : decode cX11_nextRow 64 = .ok (.iconst 2, 1) := by decide +kernel
theorem dX11_nextRow_65 : decode cX11_nextRow 65 = .ok (.goto 4, 3) := by decide +kernel
theorem dX11_nextRow_68 : decode cX11_nextRow 68 = .ok (.iconst (-1), 1) := by decide +kernel
theorem dX11_nextRow_69 : decode cX11_nextRow 69 = .ok (.ireturn, 1) := by decide +kernel
theorem dX11_nextRow_70 : decode cX11_nextRow 70 = .ok (.aload_n 0, 1) := by decide +kernel
theorem dX11_nextRow_71 : decode cX11_nextRow 71 = .ok (.getfield 90, 3) := by decide +kernel
theorem dX11_nextRow_74 : decode cX11_nextRow 74 = .ok (.aload_n 0, 1) := by decide +kernel
theorem dX11_nextRow_75 : decode cX11_nextRow 75 = .ok (.getfield 115, 3) := by decide +kernel
theorem dX11_nextRow_78 : decode cX11_nextRow 78 = .ok (.iload_n 2, 1) := by decide +kernel
theorem dX11_nextRow_79 : decode cX11_nextRow 79 = .ok (.bipush 48, 2) := by decide +kernel
theorem dX11_nextRow_81 : decode cX11_nextRow 81 = .ok (.isub, 1) := by decide +kernel
theorem dX11_nextRow_82 : decode cX11_nextRow 82 = .ok (.iastore, 1) := by decide +kernel
theorem dX11_nextRow_83 : decode cX11_nextRow 83 = .ok (.aload_n 0, 1) := by decide +kernel
theorem dX11_nextRow_84 : decode cX11_nextRow 84 = .ok (.dup, 1) := by decide +kernel
theorem dX11_nextRow_85 : decode cX11_nextRow 85 = .ok (.getfield 115, 3) := by decide +kernel
theorem dX11_nextRow_88 : decode cX11_nextRow 88 = .ok (.iload_n 2, 1) := by decide +kernel
theorem dX11_nextRow_89 : decode cX11_nextRow 89 = .ok (.bipush 49, 2) := by decide +kernel
theorem dX11_nextRow_91 : decode cX11_nextRow 91 = .ok (.bipush 57, 2) := by decide +kernel
theorem dX11_nextRow_93 : decode cX11_nextRow 93 = .ok (.invokestatic 111, 3) := by decide +kernel
theorem dX11_nextRow_96 : decode cX11_nextRow 96 = .ok (.ifCond .eq 7, 3) := by decide +kernel
theorem dX11_nextRow_99 : decode cX11_nextRow 99 = .ok (.iconst 1, 1) := by decide +kernel
theorem dX11_nextRow_100 : decode cX11_nextRow 100 = .ok (.goto 4, 3) := by decide +kernel
theorem dX11_nextRow_103 : decode cX11_nextRow 103 = .ok (.iconst 0, 1) := by decide +kernel
theorem dX11_nextRow_104 : decode cX11_nextRow 104 = .ok (.iadd, 1) := by decide +kernel
theorem dX11_nextRow_105 : decode cX11_nextRow 105 = .ok (.putfield 115, 3) := by decide +kernel
theorem dX11_nextRow_108 : decode cX11_nextRow 108 = .ok (.iload_n 2, 1) := by decide +kernel
theorem dX11_nextRow_109 : decode cX11_nextRow 109 = .ok (.bipush 49, 2) := by decide +kernel
theorem dX11_nextRow_111 : decode cX11_nextRow 111 = .ok (.bipush 57, 2) := by decide +kernel
theorem dX11_nextRow_113 : decode cX11_nextRow 113 = .ok (.invokestatic 111, 3) := by decide +kernel
theorem dX11_nextRow_116 : decode cX11_nextRow 116 = .ok (.ifCond .eq 7, 3) := by decide +kernel
theorem dX11_nextRow_119 : decode cX11_nextRow 119 = .ok (.iconst 3, 1) := by decide +kernel
theorem dX11_nextRow_120 : decode cX11_nextRow 120 = .ok (.goto 4, 3) := by decide +kernel
theorem dX11_nextRow_123 : decode cX11_nextRow 123 = .ok (.iconst (-1), 1) := by decide +kernel
theorem dX11_nextRow_124 : decode cX11_nextRow 124 = .ok (.ireturn, 1) := by decide +kernel
theorem dX11_nextRow_125 : decode cX11_nextRow 125 = .ok (.iload_n 1, 1) := by decide +kernel
theorem dX11_nextRow_126 : decode cX11_nextRow 126 = .ok (.iconst 3, 1) := by decide +kernel
theorem dX11_nextRow_127 : decode cX11_nextRow 127 = .ok (.if_icmp .ne 66, 3) := by decide +kernel
theorem dX11_nextRow_130 : decode cX11_nextRow 130 = .ok (.iload_n 2, 1) := by decide +kernel
theorem dX11_nextRow_131 : decode cX11_nextRow 131 = .ok (.invokestatic 118, 3) := by decide +kernel
theorem dX11_nextRow_134 : decode cX11_nextRow 134 = .ok (.ifCond .eq 59, 3) := by decide +kernel
theorem dX11_nextRow_137 : decode cX11_nextRow 137 = .ok (.bipush 10, 2) := by decide +kernel
theorem dX11_nextRow_139 : decode cX11_nextRow 139 = .ok (.aload_n 0, 1) := by decide +kernel
theorem dX11_nextRow_140 : decode cX11_nextRow 140 = .ok (.getfield 90, 3) := by decide +kernel
theorem dX11_nextRow_143 : decode cX11_nextRow 143 = .ok (.aload_n 0, 1) := by decide +kernel
theorem dX11_nextRow_144 : decode cX11_nextRow 144 = .ok (.getfield 115, 3) := by decide +kernel
theorem dX11_nextRow_147 : decode cX11_nextRow 147 = .ok (.iconst 1, 1) := by decide +kernel
theorem dX11_nextRow_148 : decode cX11_nextRow 148 = .ok (.isub, 1) := by decide +kernel
theorem dX11_nextRow_149 : decode cX11_nextRow 149 = .ok (.iaload, 1) := by decide +kernel
theorem dX11_nextRow_150 : decode cX11_nextRow 150 = .ok (.imul, 1) := by decide +kernel
theorem dX11_nextRow_151 : decode cX11_nextRow 151 = .ok (.iload_n 2, 1) := by decide +kernel
theorem dX11_nextRow_152 : decode cX11_nextRow 152 = .ok (.iadd, 1) := by decide +kernel
theorem dX11_nextRow_153 : decode cX11_nextRow 153 = .ok (.bipush 48, 2) := by decide +kernel
theorem dX11_nextRow_155 : decode cX11_nextRow 155 = .ok (.isub, 1) := by decide +kernel
theorem dX11_nextRow_156 : decode cX11_nextRow 156 = .ok (.bipush 60, 2) := by decide +kernel
theorem dX11_nextRow_158 : decode cX11_nextRow 158 = .ok (.if_icmp .gt 35, 3) := by decide +kernel
theorem dX11_nextRow_161 : decode cX11_nextRow 161 = .ok (.aload_n 0, 1) := by decide +kernel
theorem dX11_nextRow_162 : decode cX11_nextRow 162 = .ok (.getfield 90, 3) := by decide +kernel
theorem dX11_nextRow_165 : decode cX11_nextRow 165 = .ok (.aload_n 0, 1) := by decide +kernel
theorem dX11_nextRow_166 : decode cX11_nextRow 166 = .ok (.getfield 115, 3) := by decide +kernel
theorem dX11_nextRow_169 : decode cX11_nextRow 169 = .ok (.iconst 1, 1) := by decide +kernel
theorem dX11_nextRow_170 : decode cX11_nextRow 170 = .ok (.isub, 1) := by decide +kernel
theorem dX11_nextRow_171 : decode cX11_nextRow 171 = .ok (.bipush 10, 2) := by decide +kernel
theorem dX11_nextRow_173 : decode cX11_nextRow 173 = .ok (.aload_n 0, 1) := by decide +kernel
theorem dX11_nextRow_174 : decode cX11_nextRow 174 = .ok (.getfield 90, 3) := by decide +kernel
theorem dX11_nextRow_177 : decode cX11_nextRow 177 = .ok (.aload_n 0, 1) := by decide +kernel
theorem dX11_nextRow_178 : decode cX11_nextRow 178 = .ok (.getfield 115, 3) := by decide +kernel
theorem dX11_nextRow_181 : decode cX11_nextRow 181 = .ok (.iconst 1, 1) := by decide +kernel
theorem dX11_nextRow_182 : decode cX11_nextRow 182 = .ok (.isub, 1) := by decide +kernel
theorem dX11_nextRow_183 : decode cX11_nextRow 183 = .ok (.iaload, 1) := by decide +kernel
theorem dX11_nextRow_184 : decode cX11_nextRow 184 = .ok (.imul, 1) := by decide +kernel
theorem dX11_nextRow_185 : decode cX11_nextRow 185 = .ok (.iload_n 2, 1) := by decide +kernel
theorem dX11_nextRow_186 : decode cX11_nextRow 186 = .ok (.iadd, 1) := by decide +kernel
theorem dX11_nextRow_187 : decode cX11_nextRow 187 = .ok (.bipush 48, 2) := by decide +kernel
theorem dX11_nextRow_189 : decode cX11_nextRow 189 = .ok (.isub, 1) := by decide +kernel
theorem dX11_nextRow_190 : decode cX11_nextRow 190 = .ok (.iastore, 1) := by decide +kernel
theorem dX11_nextRow_191 : decode cX11_nextRow 191 = .ok (.iconst 4, 1) := by decide +kernel
theorem dX11_nextRow_192 : decode cX11_nextRow 192 = .ok (.ireturn, 1) := by decide +kernel
theorem dX11_nextRow_193 : decode cX11_nextRow 193 = .ok (.iload_n 2, 1) := by decide +kernel
theorem dX11_nextRow_194 : decode cX11_nextRow 194 = .ok (.bipush 44, 2) := by decide +kernel
theorem dX11_nextRow_196 : decode cX11_nextRow 196 = .ok (.if_icmp .ne 16, 3) := by decide +kernel
theorem dX11_nextRow_199 : decode cX11_nextRow 199 = .ok (.aload_n 0, 1) := by decide +kernel
theorem dX11_nextRow_200 : decode cX11_nextRow 200 = .ok (.getfield 115, 3) := by decide +kernel
theorem dX11_nextRow_203 : decode cX11_nextRow 203 = .ok (.bipush 6, 2) := by decide +kernel
theorem dX11_nextRow_205 : decode cX11_nextRow 205 = .ok (.if_icmp .ge 7, 3) := by decide +kernel
theorem dX11_nextRow_208 : decode cX11_nextRow 208 = .ok (.iconst 0, 1) := by decide +kernel
theorem dX11_nextRow_209 : decode cX11_nextRow 209 = .ok (.goto 4, 3) := by decide +kernel
theorem dX11_nextRow_212 : decode cX11_nextRow 212 = .ok (.iconst (-1), 1) := by decide +kernel
theorem dX11_nextRow_213 : decode cX11_nextRow 213 = .ok (.ireturn, 1) := by decide +kernel
set_option maxHeartbeats 4000000 in
set_option maxRecDepth 100000 in
theorem c_X11_nextRow (l : Launch) (E : zE) (n : Nat) (h : zH) (a0 : Nat) (p0 : Int32) (p1 : Int32) (res : Int32 × zH) (hf : F_X11_nextRow n h a0 p0 p1 = some res) : Met l yX11_nextRow (zw yX11_nextRow cX11_nextRow 3 (some .int)) ({ frames := 2, cells := 0, slots := 0, locals := 42 } : Room) (zPc E h [.ref (zB E + a0), .int p0, .int p1]) (zQc E res.2 (some (.int res.1))) 0 0 (zfr E) := by
  refine zmet (lo := [(0, .ref (zB E + a0)), (1, .int p0), (2, .int p1)]) (by decide +kernel) (Nat.le_of_ble_eq_true rfl) rfl ?_
  intro p e s m args below meth c C hr hin
  unfold F_X11_nextRow at hf
  have J213 : ∀ (h4 : zH) (x3 : Int32), F_X11_nextRow_J213 n h4 x3 = some res → zW p l e (headSpec (zw yX11_nextRow cX11_nextRow 3 (some .int)) ({ frames := 2, cells := 0, slots := 0, locals := 42 } : Room)).room s m args below meth c E 3 (MQ below (zQc E res.2 (some (.int res.1))) args s 0 0 (zfr E)) 0 0 213 [] [.int x3] h4 := by
    intro h4 x3 hf
    unfold F_X11_nextRow_J213 at hf
    exact zr_ireturn C hf hr (Nat.le_of_ble_eq_true rfl) (Nat.le_of_ble_eq_true rfl) dX11_nextRow_213
  have J212 : ∀ (h6 : zH), F_X11_nextRow_J212 n h6 = some res → zW p l e (headSpec (zw yX11_nextRow cX11_nextRow 3 (some .int)) ({ frames := 2, cells := 0, slots := 0, locals := 42 } : Room)).room s m args below meth c E 3 (MQ below (zQc E res.2 (some (.int res.1))) args s 0 0 (zfr E)) 0 0 212 [] [] h6 := by
    intro h6 hf
    unfold F_X11_nextRow_J212 at hf
    refine zr_iconst (v := -1) C dX11_nextRow_212 (by decide) ?_
    exact J213 h6 (-1 : Int32) hf
  have J193 : ∀ (h13 : zH) (w11 : Nat) (x12 : Int32), F_X11_nextRow_J193 n h13 w11 x12 = some res → zW p l e (headSpec (zw yX11_nextRow cX11_nextRow 3 (some .int)) ({ frames := 2, cells := 0, slots := 0, locals := 42 } : Room)).room s m args below meth c E 3 (MQ below (zQc E res.2 (some (.int res.1))) args s 0 0 (zfr E)) 0 0 193 [(0, .ref (zB E + w11)), (2, .int x12)] [] h13 := by
    intro h13 w11 x12 hf
    unfold F_X11_nextRow_J193 at hf
    refine zr_iload_n C dX11_nextRow_193 rfl 1 rfl ?_
    refine zr_bipush (v := 44) C dX11_nextRow_194 (by decide) ?_
    refine zr_icmp_ne (tgt := 212) C hf dX11_nextRow_196 (by decide) (fun hf => ?_) (fun hf => ?_)
    · refine zsub [] rfl ?_
      exact J212 h13 hf
    · refine zr_aload_n C dX11_nextRow_199 rfl 0 rfl ?_
      refine zr_gi C hf kg_X11_115 (fun _ _ _ => rfl) dX11_nextRow_200 (fun x14 hf => ?_)
      refine zr_bipush (v := 6) C dX11_nextRow_203 (by decide) ?_
      refine zr_icmp_ge (tgt := 212) C hf dX11_nextRow_205 (by decide) (fun hf => ?_) (fun hf => ?_)
      · refine zsub [] rfl ?_
        exact J212 h13 hf
      · refine zr_iconst (v := 0) C dX11_nextRow_208 (by decide) ?_
        refine zr_goto (tgt := 213) C dX11_nextRow_209 (by decide) ?_
        refine zsub [] rfl ?_
        exact J213 h13 (0 : Int32) hf
  have J124 : ∀ (h18 : zH) (x17 : Int32), F_X11_nextRow_J124 n h18 x17 = some res → zW p l e (headSpec (zw yX11_nextRow cX11_nextRow 3 (some .int)) ({ frames := 2, cells := 0, slots := 0, locals := 42 } : Room)).room s m args below meth c E 3 (MQ below (zQc E res.2 (some (.int res.1))) args s 0 0 (zfr E)) 0 0 124 [] [.int x17] h18 := by
    intro h18 x17 hf
    unfold F_X11_nextRow_J124 at hf
    exact zr_ireturn C hf hr (Nat.le_of_ble_eq_true rfl) (Nat.le_of_ble_eq_true rfl) dX11_nextRow_124
  have J104 : ∀ (h32 : zH) (x28 : Int32) (w29 : Nat) (x30 : Int32) (x31 : Int32), F_X11_nextRow_J104 n h32 x28 w29 x30 x31 = some res → zW p l e (headSpec (zw yX11_nextRow cX11_nextRow 3 (some .int)) ({ frames := 2, cells := 0, slots := 0, locals := 42 } : Room)).room s m args below meth c E 3 (MQ below (zQc E res.2 (some (.int res.1))) args s 0 0 (zfr E)) 0 0 104 [(2, .int x28)] [.int x31, .int x30, .ref (zB E + w29)] h32 := by
    intro h32 x28 w29 x30 x31 hf
    unfold F_X11_nextRow_J104 at hf
    refine zr_iadd C hf dX11_nextRow_104 (fun x33 hf => ?_)
    refine zr_si C hf kp_X11_115 (fun _ _ _ => rfl) rfl dX11_nextRow_105 (fun h34 hf => ?_)
    refine zr_iload_n C dX11_nextRow_108 rfl 0 rfl ?_
    refine zr_bipush (v := 49) C dX11_nextRow_109 (by decide) ?_
    refine zr_bipush (v := 57) C dX11_nextRow_111 (by decide) ?_
    refine zr_callSi (As := [.int x28, .int (49 : Int32), .int (57 : Int32)]) (rest := []) C hf (fun x hx => c_X11_within l E n h34 x28 (49 : Int32) (57 : Int32) x hx) ks_X11_111 rfl rfl (Nat.le_of_ble_eq_true rfl) ⟨rfl, rfl⟩ ⟨Nat.le_of_ble_eq_true rfl, Nat.le_of_ble_eq_true rfl⟩ ⟨Nat.le_of_ble_eq_true rfl, Nat.le_of_ble_eq_true rfl⟩ dX11_nextRow_113 (fun x36 h35 hf => ?_)
    refine zr_if_eq (tgt := 123) C hf dX11_nextRow_116 (by decide) (fun hf => ?_) (fun hf => ?_)
    · refine zr_iconst (v := -1) C dX11_nextRow_123 (by decide) ?_
      refine zsub [] rfl ?_
      exact J124 h35 (-1 : Int32) hf
    · refine zr_iconst (v := 3) C dX11_nextRow_119 (by decide) ?_
      refine zr_goto (tgt := 124) C dX11_nextRow_120 (by decide) ?_
      refine zsub [] rfl ?_
      exact J124 h35 (3 : Int32) hf
  have J69 : ∀ (h40 : zH) (x39 : Int32), F_X11_nextRow_J69 n h40 x39 = some res → zW p l e (headSpec (zw yX11_nextRow cX11_nextRow 3 (some .int)) ({ frames := 2, cells := 0, slots := 0, locals := 42 } : Room)).room s m args below meth c E 3 (MQ below (zQc E res.2 (some (.int res.1))) args s 0 0 (zfr E)) 0 0 69 [] [.int x39] h40 := by
    intro h40 x39 hf
    unfold F_X11_nextRow_J69 at hf
    exact zr_ireturn C hf hr (Nat.le_of_ble_eq_true rfl) (Nat.le_of_ble_eq_true rfl) dX11_nextRow_69
  have J57 : ∀ (h44 : zH) (x43 : Int32), F_X11_nextRow_J57 n h44 x43 = some res → zW p l e (headSpec (zw yX11_nextRow cX11_nextRow 3 (some .int)) ({ frames := 2, cells := 0, slots := 0, locals := 42 } : Room)).room s m args below meth c E 3 (MQ below (zQc E res.2 (some (.int res.1))) args s 0 0 (zfr E)) 0 0 57 [] [.int x43] h44 := by
    intro h44 x43 hf
    unfold F_X11_nextRow_J57 at hf
    exact zr_ireturn C hf hr (Nat.le_of_ble_eq_true rfl) (Nat.le_of_ble_eq_true rfl) dX11_nextRow_57
  refine zr_iload_n C dX11_nextRow_0 rfl 1 rfl ?_
  refine zr_ite hf (fun hx hf => zr_tableOut (tgt := 125) C dX11_nextRow_1 hx (by decide) ?_) (fun hx hf => ?_)
  · refine zr_iload_n C dX11_nextRow_125 rfl 1 rfl ?_
    refine zr_iconst (v := 3) C dX11_nextRow_126 (by decide) ?_
    refine zr_icmp_ne (tgt := 193) C hf dX11_nextRow_127 (by decide) (fun hf => ?_) (fun hf => ?_)
    · refine zsub [0, 2] rfl ?_
      exact J193 h a0 p1 hf
    · refine zr_iload_n C dX11_nextRow_130 rfl 2 rfl ?_
      refine zr_callSi (As := [.int p1]) (rest := []) C hf (fun x hx => c_X11_isDigit l E n h p1 x hx) ks_X11_118 rfl rfl (Nat.le_of_ble_eq_true rfl) ⟨rfl, rfl⟩ ⟨Nat.le_of_ble_eq_true rfl, Nat.le_of_ble_eq_true rfl⟩ ⟨Nat.le_of_ble_eq_true rfl, Nat.le_of_ble_eq_true rfl⟩ dX11_nextRow_131 (fun x46 h45 hf => ?_)
      refine zr_if_eq (tgt := 193) C hf dX11_nextRow_134 (by decide) (fun hf => ?_) (fun hf => ?_)
      · refine zsub [0, 2] rfl ?_
        exact J193 h45 a0 p1 hf
      · refine zr_bipush (v := 10) C dX11_nextRow_137 (by decide) ?_
        refine zr_aload_n C dX11_nextRow_139 rfl 0 rfl ?_
        refine zr_gr C hf kg_X11_90 (fun _ _ _ => rfl) dX11_nextRow_140 (fun w47 hf => ?_)
        refine zr_aload_n C dX11_nextRow_143 rfl 0 rfl ?_
        refine zr_gi C hf kg_X11_115 (fun _ _ _ => rfl) dX11_nextRow_144 (fun x48 hf => ?_)
        refine zr_iconst (v := 1) C dX11_nextRow_147 (by decide) ?_
        refine zr_isub C hf dX11_nextRow_148 (fun x49 hf => ?_)
        refine zr_iaload C hf dX11_nextRow_149 (fun x50 hf => ?_)
        refine zr_imul C hf dX11_nextRow_150 (fun x51 hf => ?_)
        refine zr_iload_n C dX11_nextRow_151 rfl 2 rfl ?_
        refine zr_iadd C hf dX11_nextRow_152 (fun x52 hf => ?_)
        refine zr_bipush (v := 48) C dX11_nextRow_153 (by decide) ?_
        refine zr_isub C hf dX11_nextRow_155 (fun x53 hf => ?_)
        refine zr_bipush (v := 60) C dX11_nextRow_156 (by decide) ?_
        refine zr_icmp_gt (tgt := 193) C hf dX11_nextRow_158 (by decide) (fun hf => ?_) (fun hf => ?_)
        · refine zsub [0, 2] rfl ?_
          exact J193 h45 a0 p1 hf
        · refine zr_aload_n C dX11_nextRow_161 rfl 0 rfl ?_
          refine zr_gr C hf kg_X11_90 (fun _ _ _ => rfl) dX11_nextRow_162 (fun w54 hf => ?_)
          refine zr_aload_n C dX11_nextRow_165 rfl 0 rfl ?_
          refine zr_gi C hf kg_X11_115 (fun _ _ _ => rfl) dX11_nextRow_166 (fun x55 hf => ?_)
          refine zr_iconst (v := 1) C dX11_nextRow_169 (by decide) ?_
          refine zr_isub C hf dX11_nextRow_170 (fun x56 hf => ?_)
          refine zr_bipush (v := 10) C dX11_nextRow_171 (by decide) ?_
          refine zr_aload_n C dX11_nextRow_173 rfl 0 rfl ?_
          refine zr_gr C hf kg_X11_90 (fun _ _ _ => rfl) dX11_nextRow_174 (fun w57 hf => ?_)
          refine zr_aload_n C dX11_nextRow_177 rfl 0 rfl ?_
          refine zr_gi C hf kg_X11_115 (fun _ _ _ => rfl) dX11_nextRow_178 (fun x58 hf => ?_)
          refine zr_iconst (v := 1) C dX11_nextRow_181 (by decide) ?_
          refine zr_isub C hf dX11_nextRow_182 (fun x59 hf => ?_)
          refine zr_iaload C hf dX11_nextRow_183 (fun x60 hf => ?_)
          refine zr_imul C hf dX11_nextRow_184 (fun x61 hf => ?_)
          refine zr_iload_n C dX11_nextRow_185 rfl 2 rfl ?_
          refine zr_iadd C hf dX11_nextRow_186 (fun x62 hf => ?_)
          refine zr_bipush (v := 48) C dX11_nextRow_187 (by decide) ?_
          refine zr_isub C hf dX11_nextRow_189 (fun x63 hf => ?_)
          refine zr_iastore C hf dX11_nextRow_190 (fun h64 hf => ?_)
          refine zr_iconst (v := 4) C dX11_nextRow_191 (by decide) ?_
          exact zr_ireturn C hf hr (Nat.le_of_ble_eq_true rfl) (Nat.le_of_ble_eq_true rfl) dX11_nextRow_192
  · refine zr_ite hf (fun he hf => zr_tableIn (off := 27) (tgt := 28) C dX11_nextRow_1 (by rw [he]; decide) (by rw [he]; decide) (by rw [he]; decide +kernel) (by decide) ?_) (fun _ hf => ?_)
    · refine zr_aload_n C dX11_nextRow_28 rfl 0 rfl ?_
      refine zr_gr C hf kg_X11_87 (fun _ _ _ => rfl) dX11_nextRow_29 (fun w65 hf => ?_)
      refine zr_aload_n C dX11_nextRow_32 rfl 0 rfl ?_
      refine zr_gi C hf kg_X11_115 (fun _ _ _ => rfl) dX11_nextRow_33 (fun x66 hf => ?_)
      refine zr_iload_n C dX11_nextRow_36 rfl 2 rfl ?_
      refine zr_bipush (v := 48) C dX11_nextRow_37 (by decide) ?_
      refine zr_isub C hf dX11_nextRow_39 (fun x67 hf => ?_)
      refine zr_iastore C hf dX11_nextRow_40 (fun h68 hf => ?_)
      refine zr_iload_n C dX11_nextRow_41 rfl 2 rfl ?_
      refine zr_bipush (v := 48) C dX11_nextRow_42 (by decide) ?_
      refine zr_bipush (v := 55) C dX11_nextRow_44 (by decide) ?_
      refine zr_callSi (As := [.int p1, .int (48 : Int32), .int (55 : Int32)]) (rest := []) C hf (fun x hx => c_X11_within l E n h68 p1 (48 : Int32) (55 : Int32) x hx) ks_X11_111 rfl rfl (Nat.le_of_ble_eq_true rfl) ⟨rfl, rfl⟩ ⟨Nat.le_of_ble_eq_true rfl, Nat.le_of_ble_eq_true rfl⟩ ⟨Nat.le_of_ble_eq_true rfl, Nat.le_of_ble_eq_true rfl⟩ dX11_nextRow_46 (fun x70 h69 hf => ?_)
      refine zr_if_eq (tgt := 56) C hf dX11_nextRow_49 (by decide) (fun hf => ?_) (fun hf => ?_)
      · refine zr_iconst (v := -1) C dX11_nextRow_56 (by decide) ?_
        refine zsub [] rfl ?_
        exact J57 h69 (-1 : Int32) hf
      · refine zr_iconst (v := 1) C dX11_nextRow_52 (by decide) ?_
        refine zr_goto (tgt := 57) C dX11_nextRow_53 (by decide) ?_
        refine zsub [] rfl ?_
        exact J57 h69 (1 : Int32) hf
    refine zr_ite hf (fun he hf => zr_tableIn (off := 57) (tgt := 58) C dX11_nextRow_1 (by rw [he]; decide) (by rw [he]; decide) (by rw [he]; decide +kernel) (by decide) ?_) (fun _ hf => ?_)
    · refine zr_iload_n C dX11_nextRow_58 rfl 2 rfl ?_
      refine zr_bipush (v := 42) C dX11_nextRow_59 (by decide) ?_
      refine zr_icmp_ne (tgt := 68) C hf dX11_nextRow_61 (by decide) (fun hf => ?_) (fun hf => ?_)
      · refine zr_iconst (v := -1) C dX11_nextRow_68 (by decide) ?_
        refine zsub [] rfl ?_
        exact J69 h (-1 : Int32) hf
      · refine zr_iconst (v := 2) C dX11_nextRow_64 (by decide) ?_
        refine zr_goto (tgt := 69) C dX11_nextRow_65 (by decide) ?_
        refine zsub [] rfl ?_
        exact J69 h (2 : Int32) hf
    refine zr_ite hf (fun he hf => zr_tableIn (off := 69) (tgt := 70) C dX11_nextRow_1 (by rw [he]; decide) (by rw [he]; decide) (by rw [he]; decide +kernel) (by decide) ?_) (fun _ hf => ?_)
    · refine zr_aload_n C dX11_nextRow_70 rfl 0 rfl ?_
      refine zr_gr C hf kg_X11_90 (fun _ _ _ => rfl) dX11_nextRow_71 (fun w71 hf => ?_)
      refine zr_aload_n C dX11_nextRow_74 rfl 0 rfl ?_
      refine zr_gi C hf kg_X11_115 (fun _ _ _ => rfl) dX11_nextRow_75 (fun x72 hf => ?_)
      refine zr_iload_n C dX11_nextRow_78 rfl 2 rfl ?_
      refine zr_bipush (v := 48) C dX11_nextRow_79 (by decide) ?_
      refine zr_isub C hf dX11_nextRow_81 (fun x73 hf => ?_)
      refine zr_iastore C hf dX11_nextRow_82 (fun h74 hf => ?_)
      refine zr_aload_n C dX11_nextRow_83 rfl 0 rfl ?_
      refine zr_dup C dX11_nextRow_84 rfl ?_
      refine zr_gi C hf kg_X11_115 (fun _ _ _ => rfl) dX11_nextRow_85 (fun x75 hf => ?_)
      refine zr_iload_n C dX11_nextRow_88 rfl 2 rfl ?_
      refine zr_bipush (v := 49) C dX11_nextRow_89 (by decide) ?_
      refine zr_bipush (v := 57) C dX11_nextRow_91 (by decide) ?_
      refine zr_callSi (As := [.int p1, .int (49 : Int32), .int (57 : Int32)]) (rest := [.int x75, .ref (zB E + a0)]) C hf (fun x hx => c_X11_within l E n h74 p1 (49 : Int32) (57 : Int32) x hx) ks_X11_111 rfl rfl (Nat.le_of_ble_eq_true rfl) ⟨rfl, rfl⟩ ⟨Nat.le_of_ble_eq_true rfl, Nat.le_of_ble_eq_true rfl⟩ ⟨Nat.le_of_ble_eq_true rfl, Nat.le_of_ble_eq_true rfl⟩ dX11_nextRow_93 (fun x77 h76 hf => ?_)
      refine zr_if_eq (tgt := 103) C hf dX11_nextRow_96 (by decide) (fun hf => ?_) (fun hf => ?_)
      · refine zr_iconst (v := 0) C dX11_nextRow_103 (by decide) ?_
        refine zsub [2] rfl ?_
        exact J104 h76 p1 a0 x75 (0 : Int32) hf
      · refine zr_iconst (v := 1) C dX11_nextRow_99 (by decide) ?_
        refine zr_goto (tgt := 104) C dX11_nextRow_100 (by decide) ?_
        refine zsub [2] rfl ?_
        exact J104 h76 p1 a0 x75 (1 : Int32) hf
    cases hf
theorem dX11_nextRiver_0 : decode cX11_nextRiver 0 = .ok (.iload_n 1, 1) := by decide +kernel
theorem dX11_nextRiver_1 : decode cX11_nextRiver 1 = .ok (.ifCond .ne 70, 3) := by decide +kernel
theorem dX11_nextRiver_4 : decode cX11_nextRiver 4 = .ok (.aload_n 0, 1) := by decide +kernel
theorem dX11_nextRiver_5 : decode cX11_nextRiver 5 = .ok (.getfield 93, 3) := by decide +kernel
theorem dX11_nextRiver_8 : decode cX11_nextRiver 8 = .ok (.aload_n 0, 1) := by decide +kernel
theorem dX11_nextRiver_9 : decode cX11_nextRiver 9 = .ok (.getfield 122, 3) := by decide +kernel
theorem dX11_nextRiver_12 : decode cX11_nextRiver 12 = .ok (.iload_n 2, 1) := by decide +kernel
theorem dX11_nextRiver_13 : decode cX11_nextRiver 13 = .ok (.bipush 48, 2) := by decide +kernel
theorem dX11_nextRiver_15 : decode cX11_nextRiver 15 = .ok (.isub, 1) := by decide +kernel
theorem dX11_nextRiver_16 : decode cX11_nextRiver 16 = .ok (.iastore, 1) := by decide +kernel
theorem dX11_nextRiver_17 : decode cX11_nextRiver 17 = .ok (.aload_n 0, 1) := by decide +kernel
theorem dX11_nextRiver_18 : decode cX11_nextRiver 18 = .ok (.getfield 96, 3) := by decide +kernel
theorem dX11_nextRiver_21 : decode cX11_nextRiver 21 = .ok (.aload_n 0, 1) := by decide +kernel
theorem dX11_nextRiver_22 : decode cX11_nextRiver 22 = .ok (.getfield 122, 3) := by decide +kernel
theorem dX11_nextRiver_25 : decode cX11_nextRiver 25 = .ok (.iconst 0, 1) := by decide +kernel
theorem dX11_nextRiver_26 : decode cX11_nextRiver 26 = .ok (.bastore, 1) := by decide +kernel
theorem dX11_nextRiver_27 : decode cX11_nextRiver 27 = .ok (.aload_n 0, 1) := by decide +kernel
theorem dX11_nextRiver_28 : decode cX11_nextRiver 28 = .ok (.dup, 1) := by decide +kernel
theorem dX11_nextRiver_29 : decode cX11_nextRiver 29 = .ok (.getfield 122, 3) := by decide +kernel
theorem dX11_nextRiver_32 : decode cX11_nextRiver 32 = .ok (.iload_n 2, 1) := by decide +kernel
theorem dX11_nextRiver_33 : decode cX11_nextRiver 33 = .ok (.invokestatic 118, 3) := by decide +kernel
theorem dX11_nextRiver_36 : decode cX11_nextRiver 36 = .ok (.ifCond .eq 7, 3) := by decide +kernel
theorem dX11_nextRiver_39 : decode cX11_nextRiver 39 = .ok (.iconst 1, 1) := by decide +kernel
theorem dX11_nextRiver_40 : decode cX11_nextRiver 40 = .ok (.goto 4, 3) := by decide +kernel
theorem dX11_nextRiver_43 : decode cX11_nextRiver 43 = .ok (.iconst 0, 1) := by decide +kernel
theorem dX11_nextRiver_44 : decode cX11_nextRiver 44 = .ok (.iadd, 1) := by decide +kernel
theorem dX11_nextRiver_45 : decode cX11_nextRiver 45 = .ok (.putfield 122, 3) := by decide +kernel
theorem dX11_nextRiver_48 : decode cX11_nextRiver 48 = .ok (.iload_n 2, 1) := by decide +kernel
theorem dX11_nextRiver_49 : decode cX11_nextRiver 49 = .ok (.bipush 48, 2) := by decide +kernel
theorem dX11_nextRiver_51 : decode cX11_nextRiver 51 = .ok (.if_icmp .ne 7, 3) := by decide +kernel
theorem dX11_nextRiver_54 : decode cX11_nextRiver 54 = .ok (.iconst 2, 1) := by decide +kernel
theorem dX11_nextRiver_55 : decode cX11_nextRiver 55 = .ok (.goto 15, 3) := by decide +kernel
theorem dX11_nextRiver_58 : decode cX11_nextRiver 58 = .ok (.iload_n 2, 1) := by decide +kernel
theorem dX11_nextRiver_59 : decode cX11_nextRiver 59 = .ok (.invokestatic 118, 3) := by decide +kernel
theorem dX11_nextRiver_62 : decode cX11_nextRiver 62 = .ok (.ifCond .eq 7, 3) := by decide +kernel
theorem dX11_nextRiver_65 : decode cX11_nextRiver 65 = .ok (.iconst 1, 1) := by decide +kernel
theorem dX11_nextRiver_66 : decode cX11_nextRiver 66 = .ok (.goto 4, 3) := by decide +kernel
theorem dX11_nextRiver_69 : decode cX11_nextRiver 69 = .ok (.iconst (-1), 1) := by decide +kernel
theorem dX11_nextRiver_70 : decode cX11_nextRiver 70 = .ok (.ireturn, 1) := by decide +kernel
theorem dX11_nextRiver_71 : decode cX11_nextRiver 71 = .ok (.iload_n 1, 1) := by decide +kernel
theorem dX11_nextRiver_72 : decode cX11_nextRiver 72 = .ok (.iconst 1, 1) := by decide +kernel
theorem dX11_nextRiver_73 : decode cX11_nextRiver 73 = .ok (.if_icmp .ne 42, 3) := by decide +kernel
theorem dX11_nextRiver_76 : decode cX11_nextRiver 76 = .ok (.iload_n 2, 1) := by decide +kernel
theorem dX11_nextRiver_77 : decode cX11_nextRiver 77 = .ok (.invokestatic 118, 3) := by decide +kernel
theorem dX11_nextRiver_80 : decode cX11_nextRiver 80 = .ok (.ifCond .eq 35, 3) := by decide +kernel
theorem dX11_nextRiver_83 : decode cX11_nextRiver 83 = .ok (.aload_n 0, 1) := by decide +kernel
theorem dX11_nextRiver_84 : decode cX11_nextRiver 84 = .ok (.getfield 93, 3) := by decide +kernel
theorem dX11_nextRiver_87 : decode cX11_nextRiver 87 = .ok (.aload_n 0, 1) := by decide +kernel
theorem dX11_nextRiver_88 : decode cX11_nextRiver 88 = .ok (.getfield 122, 3) := by decide +kernel
theorem dX11_nextRiver_91 : decode cX11_nextRiver 91 = .ok (.iconst 1, 1) := by decide +kernel
theorem dX11_nextRiver_92 : decode cX11_nextRiver 92 = .ok (.isub, 1) := by decide +kernel
theorem dX11_nextRiver_93 : decode cX11_nextRiver 93 = .ok (.bipush 10, 2) := by decide +kernel
theorem dX11_nextRiver_95 : decode cX11_nextRiver 95 = .ok (.aload_n 0, 1) := by decide +kernel
theorem dX11_nextRiver_96 : decode cX11_nextRiver 96 = .ok (.getfield 93, 3) := by decide +kernel
theorem dX11_nextRiver_99 : decode cX11_nextRiver 99 = .ok (.aload_n 0, 1) := by decide +kernel
theorem dX11_nextRiver_100 : decode cX11_nextRiver 100 = .ok (.getfield 122, 3) := by decide +kernel
theorem dX11_nextRiver_103 : decode cX11_nextRiver 103 = .ok (.iconst 1, 1) := by decide +kernel
theorem dX11_nextRiver_104 : decode cX11_nextRiver 104 = .ok (.isub, 1) := by decide +kernel
theorem dX11_nextRiver_105 : decode cX11_nextRiver 105 = .ok (.iaload, 1) := by decide +kernel
theorem dX11_nextRiver_106 : decode cX11_nextRiver 106 = .ok (.imul, 1) := by decide +kernel
theorem dX11_nextRiver_107 : decode cX11_nextRiver 107 = .ok (.iload_n 2, 1) := by decide +kernel
theorem dX11_nextRiver_108 : decode cX11_nextRiver 108 = .ok (.iadd, 1) := by decide +kernel
theorem dX11_nextRiver_109 : decode cX11_nextRiver 109 = .ok (.bipush 48, 2) := by decide +kernel
theorem dX11_nextRiver_111 : decode cX11_nextRiver 111 = .ok (.isub, 1) := by decide +kernel
theorem dX11_nextRiver_112 : decode cX11_nextRiver 112 = .ok (.iastore, 1) := by decide +kernel
theorem dX11_nextRiver_113 : decode cX11_nextRiver 113 = .ok (.iconst 2, 1) := by decide +kernel
theorem dX11_nextRiver_114 : decode cX11_nextRiver 114 = .ok (.ireturn, 1) := by decide +kernel
theorem dX11_nextRiver_115 : decode cX11_nextRiver 115 = .ok (.iload_n 1, 1) := by decide +kernel
theorem dX11_nextRiver_116 : decode cX11_nextRiver 116 = .ok (.iconst 3, 1) := by decide +kernel
theorem dX11_nextRiver_117 : decode cX11_nextRiver 117 = .ok (.if_icmp .ge 23, 3) := by decide +kernel
theorem dX11_nextRiver_120 : decode cX11_nextRiver 120 = .ok (.iload_n 2, 1) := by decide +kernel
theorem dX11_nextRiver_121 : decode cX11_nextRiver 121 = .ok (.bipush 104, 2) := by decide +kernel
theorem dX11_nextRiver_123 : decode cX11_nextRiver 123 = .ok (.if_icmp .ne 17, 3) := by decide +kernel
theorem dX11_nextRiver_126 : decode cX11_nextRiver 126 = .ok (.aload_n 0, 1) := by decide +kernel
theorem dX11_nextRiver_127 : decode cX11_nextRiver 127 = .ok (.getfield 96, 3) := by decide +kernel
theorem dX11_nextRiver_130 : decode cX11_nextRiver 130 = .ok (.aload_n 0, 1) := by decide +kernel
theorem dX11_nextRiver_131 : decode cX11_nextRiver 131 = .ok (.getfield 122, 3) := by decide +kernel
theorem dX11_nextRiver_134 : decode cX11_nextRiver 134 = .ok (.iconst 1, 1) := by decide +kernel
theorem dX11_nextRiver_135 : decode cX11_nextRiver 135 = .ok (.isub, 1) := by decide +kernel
theorem dX11_nextRiver_136 : decode cX11_nextRiver 136 = .ok (.iconst 1, 1) := by decide +kernel
theorem dX11_nextRiver_137 : decode cX11_nextRiver 137 = .ok (.bastore, 1) := by decide +kernel
theorem dX11_nextRiver_138 : decode cX11_nextRiver 138 = .ok (.iconst 3, 1) := by decide +kernel
theorem dX11_nextRiver_139 : decode cX11_nextRiver 139 = .ok (.ireturn, 1) := by decide +kernel
theorem dX11_nextRiver_140 : decode cX11_nextRiver 140 = .ok (.iload_n 2, 1) := by decide +kernel
theorem dX11_nextRiver_141 : decode cX11_nextRiver 141 = .ok (.bipush 44, 2) := by decide +kernel
theorem dX11_nextRiver_143 : decode cX11_nextRiver 143 = .ok (.if_icmp .ne 16, 3) := by decide +kernel
theorem dX11_nextRiver_146 : decode cX11_nextRiver 146 = .ok (.aload_n 0, 1) := by decide +kernel
theorem dX11_nextRiver_147 : decode cX11_nextRiver 147 = .ok (.getfield 122, 3) := by decide +kernel
theorem dX11_nextRiver_150 : decode cX11_nextRiver 150 = .ok (.bipush 10, 2) := by decide +kernel
theorem dX11_nextRiver_152 : decode cX11_nextRiver 152 = .ok (.if_icmp .ge 7, 3) := by decide +kernel
theorem dX11_nextRiver_155 : decode cX11_nextRiver 155 = .ok (.iconst 0, 1) := by decide +kernel
theorem dX11_nextRiver_156 : decode cX11_nextRiver 156 = .ok (.goto 4, 3) := by decide +kernel
theorem dX11_nextRiver_159 : decode cX11_nextRiver 159 = .ok (.iconst (-1), 1) := by decide +kernel
theorem dX11_nextRiver_160 : decode cX11_nextRiver 160 = .ok (.ireturn, 1) := by decide +kernel
set_option maxHeartbeats 4000000 in
set_option maxRecDepth 100000 in
theorem c_X11_nextRiver (l : Launch) (E : zE) (n : Nat) (h : zH) (a0 : Nat) (p0 : Int32) (p1 : Int32) (res : Int32 × zH) (hf : F_X11_nextRiver n h a0 p0 p1 = some res) : Met l yX11_nextRiver (zw yX11_nextRiver cX11_nextRiver 3 (some .int)) ({ frames := 2, cells := 0, slots := 0, locals := 42 } : Room) (zPc E h [.ref (zB E + a0), .int p0, .int p1]) (zQc E res.2 (some (.int res.1))) 0 0 (zfr E) := by
  refine zmet (lo := [(0, .ref (zB E + a0)), (1, .int p0), (2, .int p1)]) (by decide +kernel) (Nat.le_of_ble_eq_true rfl) rfl ?_
  intro p e s m args below meth c C hr hin
  unfold F_X11_nextRiver at hf
  have J160 : ∀ (h4 : zH) (x3 : Int32), F_X11_nextRiver_J160 n h4 x3 = some res → zW p l e (headSpec (zw yX11_nextRiver cX11_nextRiver 3 (some .int)) ({ frames := 2, cells := 0, slots := 0, locals := 42 } : Room)).room s m args below meth c E 3 (MQ below (zQc E res.2 (some (.int res.1))) args s 0 0 (zfr E)) 0 0 160 [] [.int x3] h4 := by
    intro h4 x3 hf
    unfold F_X11_nextRiver_J160 at hf
    exact zr_ireturn C hf hr (Nat.le_of_ble_eq_true rfl) (Nat.le_of_ble_eq_true rfl) dX11_nextRiver_160
  have J159 : ∀ (h6 : zH), F_X11_nextRiver_J159 n h6 = some res → zW p l e (headSpec (zw yX11_nextRiver cX11_nextRiver 3 (some .int)) ({ frames := 2, cells := 0, slots := 0, locals := 42 } : Room)).room s m args below meth c E 3 (MQ below (zQc E res.2 (some (.int res.1))) args s 0 0 (zfr E)) 0 0 159 [] [] h6 := by
    intro h6 hf
    unfold F_X11_nextRiver_J159 at hf
    refine zr_iconst (v := -1) C dX11_nextRiver_159 (by decide) ?_
    exact J160 h6 (-1 : Int32) hf
  have J140 : ∀ (h13 : zH) (w11 : Nat) (x12 : Int32), F_X11_nextRiver_J140 n h13 w11 x12 = some res → zW p l e (headSpec (zw yX11_nextRiver cX11_nextRiver 3 (some .int)) ({ frames := 2, cells := 0, slots := 0, locals := 42 } : Room)).room s m args below meth c E 3 (MQ below (zQc E res.2 (some (.int res.1))) args s 0 0 (zfr E)) 0 0 140 [(0, .ref (zB E + w11)), (2, .int x12)] [] h13 := by
    intro h13 w11 x12 hf
    unfold F_X11_nextRiver_J140 at hf
    refine zr_iload_n C dX11_nextRiver_140 rfl 1 rfl ?_
    refine zr_bipush (v := 44) C dX11_nextRiver_141 (by decide) ?_
    refine zr_icmp_ne (tgt := 159) C hf dX11_nextRiver_143 (by decide) (fun hf => ?_) (fun hf => ?_)
    · refine zsub [] rfl ?_
      exact J159 h13 hf
    · refine zr_aload_n C dX11_nextRiver_146 rfl 0 rfl ?_
      refine zr_gi C hf kg_X11_122 (fun _ _ _ => rfl) dX11_nextRiver_147 (fun x14 hf => ?_)
      refine zr_bipush (v := 10) C dX11_nextRiver_150 (by decide) ?_
      refine zr_icmp_ge (tgt := 159) C hf dX11_nextRiver_152 (by decide) (fun hf => ?_) (fun hf => ?_)
      · refine zsub [] rfl ?_
        exact J159 h13 hf
      · refine zr_iconst (v := 0) C dX11_nextRiver_155 (by decide) ?_
        refine zr_goto (tgt := 160) C dX11_nextRiver_156 (by decide) ?_
        refine zsub [] rfl ?_
        exact J160 h13 (0 : Int32) hf
  have J115 : ∀ (h26 : zH) (w23 : Nat) (x24 : Int32) (x25 : Int32), F_X11_nextRiver_J115 n h26 w23 x24 x25 = some res → zW p l e (headSpec (zw yX11_nextRiver cX11_nextRiver 3 (some .int)) ({ frames := 2, cells := 0, slots := 0, locals := 42 } : Room)).room s m args below meth c E 3 (MQ below (zQc E res.2 (some (.int res.1))) args s 0 0 (zfr E)) 0 0 115 [(0, .ref (zB E + w23)), (1, .int x24), (2, .int x25)] [] h26 := by
    intro h26 w23 x24 x25 hf
    unfold F_X11_nextRiver_J115 at hf
    refine zr_iload_n C dX11_nextRiver_115 rfl 1 rfl ?_
    refine zr_iconst (v := 3) C dX11_nextRiver_116 (by decide) ?_
    refine zr_icmp_ge (tgt := 140) C hf dX11_nextRiver_117 (by decide) (fun hf => ?_) (fun hf => ?_)
    · refine zsub [0, 2] rfl ?_
      exact J140 h26 w23 x25 hf
    · refine zr_iload_n C dX11_nextRiver_120 rfl 2 rfl ?_
      refine zr_bipush (v := 104) C dX11_nextRiver_121 (by decide) ?_
      refine zr_icmp_ne (tgt := 140) C hf dX11_nextRiver_123 (by decide) (fun hf => ?_) (fun hf => ?_)
      · refine zsub [0, 2] rfl ?_
        exact J140 h26 w23 x25 hf
      · refine zr_aload_n C dX11_nextRiver_126 rfl 0 rfl ?_
        refine zr_gr C hf kg_X11_96 (fun _ _ _ => rfl) dX11_nextRiver_127 (fun w27 hf => ?_)
        refine zr_aload_n C dX11_nextRiver_130 rfl 0 rfl ?_
        refine zr_gi C hf kg_X11_122 (fun _ _ _ => rfl) dX11_nextRiver_131 (fun x28 hf => ?_)
        refine zr_iconst (v := 1) C dX11_nextRiver_134 (by decide) ?_
        refine zr_isub C hf dX11_nextRiver_135 (fun x29 hf => ?_)
        refine zr_iconst (v := 1) C dX11_nextRiver_136 (by decide) ?_
        refine zr_zastore C hf dX11_nextRiver_137 (fun h30 hf => ?_)
        refine zr_iconst (v := 3) C dX11_nextRiver_138 (by decide) ?_
        exact zr_ireturn C hf hr (Nat.le_of_ble_eq_true rfl) (Nat.le_of_ble_eq_true rfl) dX11_nextRiver_139
  have J70 : ∀ (h34 : zH) (x33 : Int32), F_X11_nextRiver_J70 n h34 x33 = some res → zW p l e (headSpec (zw yX11_nextRiver cX11_nextRiver 3 (some .int)) ({ frames := 2, cells := 0, slots := 0, locals := 42 } : Room)).room s m args below meth c E 3 (MQ below (zQc E res.2 (some (.int res.1))) args s 0 0 (zfr E)) 0 0 70 [] [.int x33] h34 := by
    intro h34 x33 hf
    unfold F_X11_nextRiver_J70 at hf
    exact zr_ireturn C hf hr (Nat.le_of_ble_eq_true rfl) (Nat.le_of_ble_eq_true rfl) dX11_nextRiver_70
  have J44 : ∀ (h48 : zH) (x44 : Int32) (w45 : Nat) (x46 : Int32) (x47 : Int32), F_X11_nextRiver_J44 n h48 x44 w45 x46 x47 = some res → zW p l e (headSpec (zw yX11_nextRiver cX11_nextRiver 3 (some .int)) ({ frames := 2, cells := 0, slots := 0, locals := 42 } : Room)).room s m args below meth c E 3 (MQ below (zQc E res.2 (some (.int res.1))) args s 0 0 (zfr E)) 0 0 44 [(2, .int x44)] [.int x47, .int x46, .ref (zB E + w45)] h48 := by
    intro h48 x44 w45 x46 x47 hf
    unfold F_X11_nextRiver_J44 at hf
    refine zr_iadd C hf dX11_nextRiver_44 (fun x49 hf => ?_)
    refine zr_si C hf kp_X11_122 (fun _ _ _ => rfl) rfl dX11_nextRiver_45 (fun h50 hf => ?_)
    refine zr_iload_n C dX11_nextRiver_48 rfl 0 rfl ?_
    refine zr_bipush (v := 48) C dX11_nextRiver_49 (by decide) ?_
    refine zr_icmp_ne (tgt := 58) C hf dX11_nextRiver_51 (by decide) (fun hf => ?_) (fun hf => ?_)
    · refine zr_iload_n C dX11_nextRiver_58 rfl 0 rfl ?_
      refine zr_callSi (As := [.int x44]) (rest := []) C hf (fun x hx => c_X11_isDigit l E n h50 x44 x hx) ks_X11_118 rfl rfl (Nat.le_of_ble_eq_true rfl) ⟨rfl, rfl⟩ ⟨Nat.le_of_ble_eq_true rfl, Nat.le_of_ble_eq_true rfl⟩ ⟨Nat.le_of_ble_eq_true rfl, Nat.le_of_ble_eq_true rfl⟩ dX11_nextRiver_59 (fun x52 h51 hf => ?_)
      refine zr_if_eq (tgt := 69) C hf dX11_nextRiver_62 (by decide) (fun hf => ?_) (fun hf => ?_)
      · refine zr_iconst (v := -1) C dX11_nextRiver_69 (by decide) ?_
        refine zsub [] rfl ?_
        exact J70 h51 (-1 : Int32) hf
      · refine zr_iconst (v := 1) C dX11_nextRiver_65 (by decide) ?_
        refine zr_goto (tgt := 70) C dX11_nextRiver_66 (by decide) ?_
        refine zsub [] rfl ?_
        exact J70 h51 (1 : Int32) hf
    · refine zr_iconst (v := 2) C dX11_nextRiver_54 (by decide) ?_
      refine zr_goto (tgt := 70) C dX11_nextRiver_55 (by decide) ?_
      refine zsub [] rfl ?_
      exact J70 h50 (2 : Int32) hf
  refine zr_iload_n C dX11_nextRiver_0 rfl 1 rfl ?_
  refine zr_if_ne (tgt := 71) C hf dX11_nextRiver_1 (by decide) (fun hf => ?_) (fun hf => ?_)
  · refine zr_iload_n C dX11_nextRiver_71 rfl 1 rfl ?_
    refine zr_iconst (v := 1) C dX11_nextRiver_72 (by decide) ?_
    refine zr_icmp_ne (tgt := 115) C hf dX11_nextRiver_73 (by decide) (fun hf => ?_) (fun hf => ?_)
    · exact J115 h a0 p0 p1 hf
    · refine zr_iload_n C dX11_nextRiver_76 rfl 2 rfl ?_
      refine zr_callSi (As := [.int p1]) (rest := []) C hf (fun x hx => c_X11_isDigit l E n h p1 x hx) ks_X11_118 rfl rfl (Nat.le_of_ble_eq_true rfl) ⟨rfl, rfl⟩ ⟨Nat.le_of_ble_eq_true rfl, Nat.le_of_ble_eq_true rfl⟩ ⟨Nat.le_of_ble_eq_true rfl, Nat.le_of_ble_eq_true rfl⟩ dX11_nextRiver_77 (fun x54 h53 hf => ?_)
      refine zr_if_eq (tgt := 115) C hf dX11_nextRiver_80 (by decide) (fun hf => ?_) (fun hf => ?_)
      · exact J115 h53 a0 p0 p1 hf
      · refine zr_aload_n C dX11_nextRiver_83 rfl 0 rfl ?_
        refine zr_gr C hf kg_X11_93 (fun _ _ _ => rfl) dX11_nextRiver_84 (fun w55 hf => ?_)
        refine zr_aload_n C dX11_nextRiver_87 rfl 0 rfl ?_
        refine zr_gi C hf kg_X11_122 (fun _ _ _ => rfl) dX11_nextRiver_88 (fun x56 hf => ?_)
        refine zr_iconst (v := 1) C dX11_nextRiver_91 (by decide) ?_
        refine zr_isub C hf dX11_nextRiver_92 (fun x57 hf => ?_)
        refine zr_bipush (v := 10) C dX11_nextRiver_93 (by decide) ?_
        refine zr_aload_n C dX11_nextRiver_95 rfl 0 rfl ?_
        refine zr_gr C hf kg_X11_93 (fun _ _ _ => rfl) dX11_nextRiver_96 (fun w58 hf => ?_)
        refine zr_aload_n C dX11_nextRiver_99 rfl 0 rfl ?_
        refine zr_gi C hf kg_X11_122 (fun _ _ _ => rfl) dX11_nextRiver_100 (fun x59 hf => ?_)
        refine zr_iconst (v := 1) C dX11_nextRiver_103 (by decide) ?_
        refine zr_isub C hf dX11_nextRiver_104 (fun x60 hf => ?_)
        refine zr_iaload C hf dX11_nextRiver_105 (fun x61 hf => ?_)
        refine zr_imul C hf dX11_nextRiver_106 (fun x62 hf => ?_)
        refine zr_iload_n C dX11_nextRiver_107 rfl 2 rfl ?_
        refine zr_iadd C hf dX11_nextRiver_108 (fun x63 hf => ?_)
        refine zr_bipush (v := 48) C dX11_nextRiver_109 (by decide) ?_
        refine zr_isub C hf dX11_nextRiver_111 (fun x64 hf => ?_)
        refine zr_iastore C hf dX11_nextRiver_112 (fun h65 hf => ?_)
        refine zr_iconst (v := 2) C dX11_nextRiver_113 (by decide) ?_
        exact zr_ireturn C hf hr (Nat.le_of_ble_eq_true rfl) (Nat.le_of_ble_eq_true rfl) dX11_nextRiver_114
  · refine zr_aload_n C dX11_nextRiver_4 rfl 0 rfl ?_
    refine zr_gr C hf kg_X11_93 (fun _ _ _ => rfl) dX11_nextRiver_5 (fun w66 hf => ?_)
    refine zr_aload_n C dX11_nextRiver_8 rfl 0 rfl ?_
    refine zr_gi C hf kg_X11_122 (fun _ _ _ => rfl) dX11_nextRiver_9 (fun x67 hf => ?_)
    refine zr_iload_n C dX11_nextRiver_12 rfl 2 rfl ?_
    refine zr_bipush (v := 48) C dX11_nextRiver_13 (by decide) ?_
    refine zr_isub C hf dX11_nextRiver_15 (fun x68 hf => ?_)
    refine zr_iastore C hf dX11_nextRiver_16 (fun h69 hf => ?_)
    refine zr_aload_n C dX11_nextRiver_17 rfl 0 rfl ?_
    refine zr_gr C hf kg_X11_96 (fun _ _ _ => rfl) dX11_nextRiver_18 (fun w70 hf => ?_)
    refine zr_aload_n C dX11_nextRiver_21 rfl 0 rfl ?_
    refine zr_gi C hf kg_X11_122 (fun _ _ _ => rfl) dX11_nextRiver_22 (fun x71 hf => ?_)
    refine zr_iconst (v := 0) C dX11_nextRiver_25 (by decide) ?_
    refine zr_zastore C hf dX11_nextRiver_26 (fun h72 hf => ?_)
    refine zr_aload_n C dX11_nextRiver_27 rfl 0 rfl ?_
    refine zr_dup C dX11_nextRiver_28 rfl ?_
    refine zr_gi C hf kg_X11_122 (fun _ _ _ => rfl) dX11_nextRiver_29 (fun x73 hf => ?_)
    refine zr_iload_n C dX11_nextRiver_32 rfl 2 rfl ?_
    refine zr_callSi (As := [.int p1]) (rest := [.int x73, .ref (zB E + a0)]) C hf (fun x hx => c_X11_isDigit l E n h72 p1 x hx) ks_X11_118 rfl rfl (Nat.le_of_ble_eq_true rfl) ⟨rfl, rfl⟩ ⟨Nat.le_of_ble_eq_true rfl, Nat.le_of_ble_eq_true rfl⟩ ⟨Nat.le_of_ble_eq_true rfl, Nat.le_of_ble_eq_true rfl⟩ dX11_nextRiver_33 (fun x75 h74 hf => ?_)
    refine zr_if_eq (tgt := 43) C hf dX11_nextRiver_36 (by decide) (fun hf => ?_) (fun hf => ?_)
    · refine zr_iconst (v := 0) C dX11_nextRiver_43 (by decide) ?_
      refine zsub [2] rfl ?_
      exact J44 h74 p1 a0 x73 (0 : Int32) hf
    · refine zr_iconst (v := 1) C dX11_nextRiver_39 (by decide) ?_
      refine zr_goto (tgt := 44) C dX11_nextRiver_40 (by decide) ?_
      refine zsub [2] rfl ?_
      exact J44 h74 p1 a0 x73 (1 : Int32) hf
theorem dX11_readPage_0 : decode cX11_readPage 0 = .ok (.aload_n 0, 1) := by decide +kernel
theorem dX11_readPage_1 : decode cX11_readPage 1 = .ok (.getfield 84, 3) := by decide +kernel
theorem dX11_readPage_4 : decode cX11_readPage 4 = .ok (.iconst 5, 1) := by decide +kernel
theorem dX11_readPage_5 : decode cX11_readPage 5 = .ok (.iconst 0, 1) := by decide +kernel
theorem dX11_readPage_6 : decode cX11_readPage 6 = .ok (.iastore, 1) := by decide +kernel
theorem dX11_readPage_7 : decode cX11_readPage 7 = .ok (.aload_n 0, 1) := by decide +kernel
theorem dX11_readPage_8 : decode cX11_readPage 8 = .ok (.iconst 0, 1) := by decide +kernel
theorem dX11_readPage_9 : decode cX11_readPage 9 = .ok (.putfield 115, 3) := by decide +kernel
theorem dX11_readPage_12 : decode cX11_readPage 12 = .ok (.aload_n 0, 1) := by decide +kernel
theorem dX11_readPage_13 : decode cX11_readPage 13 = .ok (.iconst 0, 1) := by decide +kernel
theorem dX11_readPage_14 : decode cX11_readPage 14 = .ok (.putfield 122, 3) := by decide +kernel
theorem dX11_readPage_17 : decode cX11_readPage 17 = .ok (.iconst 0, 1) := by decide +kernel
theorem dX11_readPage_18 : decode cX11_readPage 18 = .ok (.istore_n 2, 1) := by decide +kernel
theorem dX11_readPage_19 : decode cX11_readPage 19 = .ok (.iconst 0, 1) := by decide +kernel
theorem dX11_readPage_20 : decode cX11_readPage 20 = .ok (.istore_n 3, 1) := by decide +kernel
theorem dX11_readPage_21 : decode cX11_readPage 21 = .ok (.iconst 1, 1) := by decide +kernel
theorem dX11_readPage_22 : decode cX11_readPage 22 = .ok (.istore 4, 2) := by decide +kernel
theorem dX11_readPage_24 : decode cX11_readPage 24 = .ok (.iload_n 3, 1) := by decide +kernel
theorem dX11_readPage_25 : decode cX11_readPage 25 = .ok (.aload_n 0, 1) := by decide +kernel
theorem dX11_readPage_26 : decode cX11_readPage 26 = .ok (.getfield 107, 3) := by decide +kernel
theorem dX11_readPage_29 : decode cX11_readPage 29 = .ok (.if_icmp .ge 99, 3) := by decide +kernel
theorem dX11_readPage_32 : decode cX11_readPage 32 = .ok (.iload 4, 2) := by decide +kernel
theorem dX11_readPage_34 : decode cX11_readPage 34 = .ok (.ifCond .eq 94, 3) := by decide +kernel
theorem dX11_readPage_37 : decode cX11_readPage 37 = .ok (.iload_n 1, 1) := by decide +kernel
theorem dX11_readPage_38 : decode cX11_readPage 38 = .ok (.ifCond .ne 17, 3) := by decide +kernel
theorem dX11_readPage_41 : decode cX11_readPage 41 = .ok (.aload_n 0, 1) := by decide +kernel
theorem dX11_readPage_42 : decode cX11_readPage 42 = .ok (.iload_n 2, 1) := by decide +kernel
theorem dX11_readPage_43 : decode cX11_readPage 43 = .ok (.aload_n 0, 1) := by decide +kernel
theorem dX11_readPage_44 : decode cX11_readPage 44 = .ok (.getfield 68, 3) := by decide +kernel
theorem dX11_readPage_47 : decode cX11_readPage 47 = .ok (.iload_n 3, 1) := by decide +kernel
theorem dX11_readPage_48 : decode cX11_readPage 48 = .ok (.baload, 1) := by decide +kernel
theorem dX11_readPage_49 : decode cX11_readPage 49 = .ok (.invokevirtual 125, 3) := by decide +kernel
theorem dX11_readPage_52 : decode cX11_readPage 52 = .ok (.goto 33, 3) := by decide +kernel
theorem dX11_readPage_55 : decode cX11_readPage 55 = .ok (.iload_n 1, 1) := by decide +kernel
theorem dX11_readPage_56 : decode cX11_readPage 56 = .ok (.iconst 1, 1) := by decide +kernel
theorem dX11_readPage_57 : decode cX11_readPage 57 = .ok (.if_icmp .ne 17, 3) := by decide +kernel
theorem dX11_readPage_60 : decode cX11_readPage 60 = .ok (.aload_n 0, 1) := by decide +kernel
theorem dX11_readPage_61 : decode cX11_readPage 61 = .ok (.iload_n 2, 1) := by decide +kernel
theorem dX11_readPage_62 : decode cX11_readPage 62 = .ok (.aload_n 0, 1) := by decide +kernel
theorem dX11_readPage_63 : decode cX11_readPage 63 = .ok (.getfield 68, 3) := by decide +kernel
theorem dX11_readPage_66 : decode cX11_readPage 66 = .ok (.iload_n 3, 1) := by decide +kernel
theorem dX11_readPage_67 : decode cX11_readPage 67 = .ok (.baload, 1) := by decide +kernel
theorem dX11_readPage_68 : decode cX11_readPage 68 = .ok (.invokevirtual 129, 3) := by decide +kernel
theorem dX11_readPage_71 : decode cX11_readPage 71 = .ok (.goto 14, 3) := by decide +kernel
theorem dX11_readPage_74 : decode cX11_readPage 74 = .ok (.aload_n 0, 1) := by decide +kernel
theorem dX11_readPage_75 : decode cX11_readPage 75 = .ok (.iload_n 2, 1) := by decide +kernel
theorem dX11_readPage_76 : decode cX11_readPage 76 = .ok (.aload_n 0, 1) := by decide +kernel
theorem dX11_readPage_77 : decode cX11_readPage 77 = .ok (.getfield 68, 3) := by decide +kernel
theorem dX11_readPage_80 : decode cX11_readPage 80 = .ok (.iload_n 3, 1) := by decide +kernel
theorem dX11_readPage_81 : decode cX11_readPage 81 = .ok (.baload, 1) := by decide +kernel
theorem dX11_readPage_82 : decode cX11_readPage 82 = .ok (.invokevirtual 132, 3) := by decide +kernel
theorem dX11_readPage_85 : decode cX11_readPage 85 = .ok (.istore 5, 2) := by decide +kernel
theorem dX11_readPage_87 : decode cX11_readPage 87 = .ok (.iload 5, 2) := by decide +kernel
theorem dX11_readPage_89 : decode cX11_readPage 89 = .ok (.iconst (-1), 1) := by decide +kernel
theorem dX11_readPage_90 : decode cX11_readPage 90 = .ok (.if_icmp .eq 7, 3) := by decide +kernel
theorem dX11_readPage_93 : decode cX11_readPage 93 = .ok (.iconst 1, 1) := by decide +kernel
theorem dX11_readPage_94 : decode cX11_readPage 94 = .ok (.goto 4, 3) := by decide +kernel
theorem dX11_readPage_97 : decode cX11_readPage 97 = .ok (.iconst 0, 1) := by decide +kernel
theorem dX11_readPage_98 : decode cX11_readPage 98 = .ok (.istore 4, 2) := by decide +kernel
theorem dX11_readPage_100 : decode cX11_readPage 100 = .ok (.iload 4, 2) := by decide +kernel
theorem dX11_readPage_102 : decode cX11_readPage 102 = .ok (.ifCond .eq 8, 3) := by decide +kernel
theorem dX11_readPage_105 : decode cX11_readPage 105 = .ok (.iload 5, 2) := by decide +kernel
theorem dX11_readPage_107 : decode cX11_readPage 107 = .ok (.goto 4, 3) := by decide +kernel
theorem dX11_readPage_110 : decode cX11_readPage 110 = .ok (.iload_n 2, 1) := by decide +kernel
theorem dX11_readPage_111 : decode cX11_readPage 111 = .ok (.istore_n 2, 1) := by decide +kernel
theorem dX11_readPage_112 : decode cX11_readPage 112 = .ok (.iload_n 3, 1) := by decide +kernel
theorem dX11_readPage_113 : decode cX11_readPage 113 = .ok (.iload 4, 2) := by decide +kernel
theorem dX11_readPage_115 : decode cX11_readPage 115 = .ok (.ifCond .eq 7, 3) := by decide +kernel
theorem dX11_readPage_118 : decode cX11_readPage 118 = .ok (.iconst 1, 1) := by decide +kernel
theorem dX11_readPage_119 : decode cX11_readPage 119 = .ok (.goto 4, 3) := by decide +kernel
theorem dX11_readPage_122 : decode cX11_readPage 122 = .ok (.iconst 0, 1) := by decide +kernel
theorem dX11_readPage_123 : decode cX11_readPage 123 = .ok (.iadd, 1) := by decide +kernel
theorem dX11_readPage_124 : decode cX11_readPage 124 = .ok (.istore_n 3, 1) := by decide +kernel
theorem dX11_readPage_125 : decode cX11_readPage 125 = .ok (.goto (-101), 3) := by decide +kernel
theorem dX11_readPage_128 : decode cX11_readPage 128 = .ok (.aload_n 0, 1) := by decide +kernel
theorem dX11_readPage_129 : decode cX11_readPage 129 = .ok (.iload_n 3, 1) := by decide +kernel
theorem dX11_readPage_130 : decode cX11_readPage 130 = .ok (.putfield 135, 3) := by decide +kernel
theorem dX11_readPage_133 : decode cX11_readPage 133 = .ok (.aload_n 0, 1) := by decide +kernel
theorem dX11_readPage_134 : decode cX11_readPage 134 = .ok (.iload_n 3, 1) := by decide +kernel
theorem dX11_readPage_135 : decode cX11_readPage 135 = .ok (.aload_n 0, 1) := by decide +kernel
theorem dX11_readPage_136 : decode cX11_readPage 136 = .ok (.getfield 107, 3) := by decide +kernel
theorem dX11_readPage_139 : decode cX11_readPage 139 = .ok (.if_icmp .ne 45, 3) := by decide +kernel
theorem dX11_readPage_142 : decode cX11_readPage 142 = .ok (.iload_n 1, 1) := by decide +kernel
theorem dX11_readPage_143 : decode cX11_readPage 143 = .ok (.ifCond .ne 12, 3) := by decide +kernel
theorem dX11_readPage_146 : decode cX11_readPage 146 = .ok (.iload_n 2, 1) := by decide +kernel
theorem dX11_readPage_147 : decode cX11_readPage 147 = .ok (.bipush 9, 2) := by decide +kernel
theorem dX11_readPage_149 : decode cX11_readPage 149 = .ok (.if_icmp .le 35, 3) := by decide +kernel
theorem dX11_readPage_152 : decode cX11_readPage 152 = .ok (.goto 28, 3) := by decide +kernel
theorem dX11_readPage_155 : decode cX11_readPage 155 = .ok (.iload_n 1, 1) := by decide +kernel
theorem dX11_readPage_156 : decode cX11_readPage 156 = .ok (.iconst 1, 1) := by decide +kernel
theorem dX11_readPage_157 : decode cX11_readPage 157 = .ok (.if_icmp .ne 11, 3) := by decide +kernel
theorem dX11_readPage_160 : decode cX11_readPage 160 = .ok (.iload_n 2, 1) := by decide +kernel
theorem dX11_readPage_161 : decode cX11_readPage 161 = .ok (.iconst 2, 1) := by decide +kernel
theorem dX11_readPage_162 : decode cX11_readPage 162 = .ok (.if_icmp .le 22, 3) := by decide +kernel
theorem dX11_readPage_165 : decode cX11_readPage 165 = .ok (.goto 15, 3) := by decide +kernel
theorem dX11_readPage_168 : decode cX11_readPage 168 = .ok (.iload_n 2, 1) := by decide +kernel
theorem dX11_readPage_169 : decode cX11_readPage 169 = .ok (.ifCond .le 15, 3) := by decide +kernel
theorem dX11_readPage_172 : decode cX11_readPage 172 = .ok (.aload_n 0, 1) := by decide +kernel
theorem dX11_readPage_173 : decode cX11_readPage 173 = .ok (.getfield 122, 3) := by decide +kernel
theorem dX11_readPage_176 : decode cX11_readPage 176 = .ok (.iconst 3, 1) := by decide +kernel
theorem dX11_readPage_177 : decode cX11_readPage 177 = .ok (.if_icmp .le 7, 3) := by decide +kernel
theorem dX11_readPage_180 : decode cX11_readPage 180 = .ok (.iconst 1, 1) := by decide +kernel
theorem dX11_readPage_181 : decode cX11_readPage 181 = .ok (.goto 4, 3) := by decide +kernel
theorem dX11_readPage_184 : decode cX11_readPage 184 = .ok (.iconst 0, 1) := by decide +kernel
theorem dX11_readPage_185 : decode cX11_readPage 185 = .ok (.putfield 138, 3) := by decide +kernel
theorem dX11_readPage_188 : decode cX11_readPage 188 = .ok (.aload_n 0, 1) := by decide +kernel
theorem dX11_readPage_189 : decode cX11_readPage 189 = .ok (.getfield 84, 3) := by decide +kernel
theorem dX11_readPage_192 : decode cX11_readPage 192 = .ok (.iconst 5, 1) := by decide +kernel
theorem dX11_readPage_193 : decode cX11_readPage 193 = .ok (.iload_n 2, 1) := by decide +kernel
theorem dX11_readPage_194 : decode cX11_readPage 194 = .ok (.bipush 11, 2) := by decide +kernel
theorem dX11_readPage_196 : decode cX11_readPage 196 = .ok (.if_icmp .ne 7, 3) := by decide +kernel
theorem dX11_readPage_199 : decode cX11_readPage 199 = .ok (.iconst 1, 1) := by decide +kernel
theorem dX11_readPage_200 : decode cX11_readPage 200 = .ok (.goto 4, 3) := by decide +kernel
theorem dX11_readPage_203 : decode cX11_readPage 203 = .ok (.iconst 0, 1) := by decide +kernel
theorem dX11_readPage_204 : decode cX11_readPage 204 = .ok (.iastore, 1) := by decide +kernel
theorem dX11_readPage_205 : decode cX11_readPage 205 = .ok (.return_, 1) := by decide +kernel
set_option maxHeartbeats 4000000 in
set_option maxRecDepth 100000 in
theorem c_X11_readPage (l : Launch) (E : zE) (n : Nat) (h : zH) (a0 : Nat) (p0 : Int32) (res : Unit × zH) (hf : F_X11_readPage n h a0 p0 = some res) : Met l yX11_readPage (zw yX11_readPage cX11_readPage 6 none) ({ frames := 3, cells := 0, slots := 0, locals := 64 } : Room) (zPc E h [.ref (zB E + a0), .int p0]) (zQc E res.2 none) 0 0 (zfr E) := by
  refine zmet (lo := [(0, .ref (zB E + a0)), (1, .int p0)]) (by decide +kernel) (Nat.le_of_ble_eq_true rfl) rfl ?_
  intro p e s m args below meth c C hr hin
  unfold F_X11_readPage at hf
  have J204 : ∀ (h9 : zH) (w6 : Nat) (x7 : Int32) (x8 : Int32), F_X11_readPage_J204 n h9 w6 x7 x8 = some res → zW p l e (headSpec (zw yX11_readPage cX11_readPage 6 none) ({ frames := 3, cells := 0, slots := 0, locals := 64 } : Room)).room s m args below meth c E 6 (MQ below (zQc E res.2 none) args s 0 0 (zfr E)) 0 0 204 [] [.int x8, .int x7, .ref (zB E + w6)] h9 := by
    intro h9 w6 x7 x8 hf
    unfold F_X11_readPage_J204 at hf
    refine zr_iastore C hf dX11_readPage_204 (fun h10 hf => ?_)
    exact zr_return C hf hr (Nat.le_of_ble_eq_true rfl) (Nat.le_of_ble_eq_true rfl) dX11_readPage_205
  have J185 : ∀ (h22 : zH) (w18 : Nat) (x19 : Int32) (w20 : Nat) (x21 : Int32), F_X11_readPage_J185 n h22 w18 x19 w20 x21 = some res → zW p l e (headSpec (zw yX11_readPage cX11_readPage 6 none) ({ frames := 3, cells := 0, slots := 0, locals := 64 } : Room)).room s m args below meth c E 6 (MQ below (zQc E res.2 none) args s 0 0 (zfr E)) 0 0 185 [(0, .ref (zB E + w18)), (2, .int x19)] [.int x21, .ref (zB E + w20)] h22 := by
    intro h22 w18 x19 w20 x21 hf
    unfold F_X11_readPage_J185 at hf
    refine zr_sb C hf kp_X11_138 (fun _ _ _ => rfl) rfl dX11_readPage_185 (fun h23 hf => ?_)
    refine zr_aload_n C dX11_readPage_188 rfl 0 rfl ?_
    refine zr_gr C hf kg_X11_84 (fun _ _ _ => rfl) dX11_readPage_189 (fun w24 hf => ?_)
    refine zr_iconst (v := 5) C dX11_readPage_192 (by decide) ?_
    refine zr_iload_n C dX11_readPage_193 rfl 1 rfl ?_
    refine zr_bipush (v := 11) C dX11_readPage_194 (by decide) ?_
    refine zr_icmp_ne (tgt := 203) C hf dX11_readPage_196 (by decide) (fun hf => ?_) (fun hf => ?_)
    · refine zr_iconst (v := 0) C dX11_readPage_203 (by decide) ?_
      refine zsub [] rfl ?_
      exact J204 h23 w24 (5 : Int32) (0 : Int32) hf
    · refine zr_iconst (v := 1) C dX11_readPage_199 (by decide) ?_
      refine zr_goto (tgt := 204) C dX11_readPage_200 (by decide) ?_
      refine zsub [] rfl ?_
      exact J204 h23 w24 (5 : Int32) (1 : Int32) hf
  have J184 : ∀ (h32 : zH) (w29 : Nat) (x30 : Int32) (w31 : Nat), F_X11_readPage_J184 n h32 w29 x30 w31 = some res → zW p l e (headSpec (zw yX11_readPage cX11_readPage 6 none) ({ frames := 3, cells := 0, slots := 0, locals := 64 } : Room)).room s m args below meth c E 6 (MQ below (zQc E res.2 none) args s 0 0 (zfr E)) 0 0 184 [(0, .ref (zB E + w29)), (2, .int x30)] [.ref (zB E + w31)] h32 := by
    intro h32 w29 x30 w31 hf
    unfold F_X11_readPage_J184 at hf
    refine zr_iconst (v := 0) C dX11_readPage_184 (by decide) ?_
    exact J185 h32 w29 x30 w31 (0 : Int32) hf
  have J180 : ∀ (h40 : zH) (w37 : Nat) (x38 : Int32) (w39 : Nat), F_X11_readPage_J180 n h40 w37 x38 w39 = some res → zW p l e (headSpec (zw yX11_readPage cX11_readPage 6 none) ({ frames := 3, cells := 0, slots := 0, locals := 64 } : Room)).room s m args below meth c E 6 (MQ below (zQc E res.2 none) args s 0 0 (zfr E)) 0 0 180 [(0, .ref (zB E + w37)), (2, .int x38)] [.ref (zB E + w39)] h40 := by
    intro h40 w37 x38 w39 hf
    unfold F_X11_readPage_J180 at hf
    refine zr_iconst (v := 1) C dX11_readPage_180 (by decide) ?_
    refine zr_goto (tgt := 185) C dX11_readPage_181 (by decide) ?_
    exact J185 h40 w37 x38 w39 (1 : Int32) hf
  have J128 : ∀ (h53 : zH) (w49 : Nat) (x50 : Int32) (x51 : Int32) (x52 : Int32), F_X11_readPage_J128 n h53 w49 x50 x51 x52 = some res → zW p l e (headSpec (zw yX11_readPage cX11_readPage 6 none) ({ frames := 3, cells := 0, slots := 0, locals := 64 } : Room)).room s m args below meth c E 6 (MQ below (zQc E res.2 none) args s 0 0 (zfr E)) 0 0 128 [(0, .ref (zB E + w49)), (1, .int x50), (2, .int x51), (3, .int x52)] [] h53 := by
    intro h53 w49 x50 x51 x52 hf
    unfold F_X11_readPage_J128 at hf
    refine zr_aload_n C dX11_readPage_128 rfl 0 rfl ?_
    refine zr_iload_n C dX11_readPage_129 rfl 3 rfl ?_
    refine zr_si C hf kp_X11_135 (fun _ _ _ => rfl) rfl dX11_readPage_130 (fun h54 hf => ?_)
    refine zr_aload_n C dX11_readPage_133 rfl 0 rfl ?_
    refine zr_iload_n C dX11_readPage_134 rfl 3 rfl ?_
    refine zr_aload_n C dX11_readPage_135 rfl 0 rfl ?_
    refine zr_gi C hf kg_X11_107 (fun _ _ _ => rfl) dX11_readPage_136 (fun x55 hf => ?_)
    refine zr_icmp_ne (tgt := 184) C hf dX11_readPage_139 (by decide) (fun hf => ?_) (fun hf => ?_)
    · refine zsub [0, 2] rfl ?_
      exact J184 h54 w49 x51 w49 hf
    · refine zr_iload_n C dX11_readPage_142 rfl 1 rfl ?_
      refine zr_if_ne (tgt := 155) C hf dX11_readPage_143 (by decide) (fun hf => ?_) (fun hf => ?_)
      · refine zr_iload_n C dX11_readPage_155 rfl 1 rfl ?_
        refine zr_iconst (v := 1) C dX11_readPage_156 (by decide) ?_
        refine zr_icmp_ne (tgt := 168) C hf dX11_readPage_157 (by decide) (fun hf => ?_) (fun hf => ?_)
        · refine zr_iload_n C dX11_readPage_168 rfl 2 rfl ?_
          refine zr_if_le (tgt := 184) C hf dX11_readPage_169 (by decide) (fun hf => ?_) (fun hf => ?_)
          · refine zsub [0, 2] rfl ?_
            exact J184 h54 w49 x51 w49 hf
          · refine zr_aload_n C dX11_readPage_172 rfl 0 rfl ?_
            refine zr_gi C hf kg_X11_122 (fun _ _ _ => rfl) dX11_readPage_173 (fun x56 hf => ?_)
            refine zr_iconst (v := 3) C dX11_readPage_176 (by decide) ?_
            refine zr_icmp_le (tgt := 184) C hf dX11_readPage_177 (by decide) (fun hf => ?_) (fun hf => ?_)
            · refine zsub [0, 2] rfl ?_
              exact J184 h54 w49 x51 w49 hf
            · refine zsub [0, 2] rfl ?_
              exact J180 h54 w49 x51 w49 hf
        · refine zr_iload_n C dX11_readPage_160 rfl 2 rfl ?_
          refine zr_iconst (v := 2) C dX11_readPage_161 (by decide) ?_
          refine zr_icmp_le (tgt := 184) C hf dX11_readPage_162 (by decide) (fun hf => ?_) (fun hf => ?_)
          · refine zsub [0, 2] rfl ?_
            exact J184 h54 w49 x51 w49 hf
          · refine zr_goto (tgt := 180) C dX11_readPage_165 (by decide) ?_
            refine zsub [0, 2] rfl ?_
            exact J180 h54 w49 x51 w49 hf
      · refine zr_iload_n C dX11_readPage_146 rfl 2 rfl ?_
        refine zr_bipush (v := 9) C dX11_readPage_147 (by decide) ?_
        refine zr_icmp_le (tgt := 184) C hf dX11_readPage_149 (by decide) (fun hf => ?_) (fun hf => ?_)
        · refine zsub [0, 2] rfl ?_
          exact J184 h54 w49 x51 w49 hf
        · refine zr_goto (tgt := 180) C dX11_readPage_152 (by decide) ?_
          refine zsub [0, 2] rfl ?_
          exact J180 h54 w49 x51 w49 hf
  refine zr_aload_n C dX11_readPage_0 rfl 0 rfl ?_
  refine zr_gr C hf kg_X11_84 (fun _ _ _ => rfl) dX11_readPage_1 (fun w57 hf => ?_)
  refine zr_iconst (v := 5) C dX11_readPage_4 (by decide) ?_
  refine zr_iconst (v := 0) C dX11_readPage_5 (by decide) ?_
  refine zr_iastore C hf dX11_readPage_6 (fun h58 hf => ?_)
  refine zr_aload_n C dX11_readPage_7 rfl 0 rfl ?_
  refine zr_iconst (v := 0) C dX11_readPage_8 (by decide) ?_
  refine zr_si C hf kp_X11_115 (fun _ _ _ => rfl) rfl dX11_readPage_9 (fun h59 hf => ?_)
  refine zr_aload_n C dX11_readPage_12 rfl 0 rfl ?_
  refine zr_iconst (v := 0) C dX11_readPage_13 (by decide) ?_
  refine zr_si C hf kp_X11_122 (fun _ _ _ => rfl) rfl dX11_readPage_14 (fun h60 hf => ?_)
  refine zr_iconst (v := 0) C dX11_readPage_17 (by decide) ?_
  refine zr_istore_n (lo2 := [(2, .int (0 : Int32)), (0, .ref (zB E + a0)), (1, .int p0)]) C dX11_readPage_18 rfl (by decide) rfl ?_
  refine zr_iconst (v := 0) C dX11_readPage_19 (by decide) ?_
  refine zr_istore_n (lo2 := [(3, .int (0 : Int32)), (2, .int (0 : Int32)), (0, .ref (zB E + a0)), (1, .int p0)]) C dX11_readPage_20 rfl (by decide) rfl ?_
  refine zr_iconst (v := 1) C dX11_readPage_21 (by decide) ?_
  refine zr_istore (lo2 := [(4, .int (1 : Int32)), (3, .int (0 : Int32)), (2, .int (0 : Int32)), (0, .ref (zB E + a0)), (1, .int p0)]) C dX11_readPage_22 (by decide) rfl ?_
  have L24 : ∀ (fu : Nat) (x : zH × Int32 × Int32 × Int32), zloop (fun kc x => F_X11_readPage_B24 n kc x.1 a0 p0 x.2.1 x.2.2.1 x.2.2.2) fu x = some res → zW p l e (headSpec (zw yX11_readPage cX11_readPage 6 none) ({ frames := 3, cells := 0, slots := 0, locals := 64 } : Room)).room s m args below meth c E 6 (MQ below (zQc E res.2 none) args s 0 0 (zfr E)) 0 0 24 [(0, .ref (zB E + a0)), (1, .int p0), (2, .int x.2.1), (3, .int x.2.2.1), (4, .int x.2.2.2)] [] x.1 := by
    refine z_loop _ ?_
    intro kc24 hk24 x hf
    obtain ⟨h110, x107, x108, x109⟩ := x
    dsimp only at hf ⊢
    unfold F_X11_readPage_B24 at hf
    have J123 : ∀ (h115 : zH) (x111 : Int32) (x112 : Int32) (x113 : Int32) (x114 : Int32), F_X11_readPage_J123 n kc24 h115 a0 p0 x111 x112 x113 x114 = some res → zW p l e (headSpec (zw yX11_readPage cX11_readPage 6 none) ({ frames := 3, cells := 0, slots := 0, locals := 64 } : Room)).room s m args below meth c E 6 (MQ below (zQc E res.2 none) args s 0 0 (zfr E)) 0 0 123 [(0, .ref (zB E + a0)), (1, .int p0), (2, .int x111), (4, .int x112)] [.int x114, .int x113] h115 := by
      intro h115 x111 x112 x113 x114 hf
      unfold F_X11_readPage_J123 at hf
      refine zr_iadd C hf dX11_readPage_123 (fun x116 hf => ?_)
      refine zr_istore_n (lo2 := [(3, .int x116), (0, .ref (zB E + a0)), (1, .int p0), (2, .int x111), (4, .int x112)]) C dX11_readPage_124 rfl (by decide) rfl ?_
      refine zr_goto (tgt := 24) C dX11_readPage_125 (by decide) ?_
      refine zsub [1, 2, 3, 0, 4] rfl ?_
      exact hk24 (h115, x111, x116, x112) hf
    have J111 : ∀ (h120 : zH) (x117 : Int32) (x118 : Int32) (x119 : Int32), F_X11_readPage_J111 n kc24 h120 a0 p0 x117 x118 x119 = some res → zW p l e (headSpec (zw yX11_readPage cX11_readPage 6 none) ({ frames := 3, cells := 0, slots := 0, locals := 64 } : Room)).room s m args below meth c E 6 (MQ below (zQc E res.2 none) args s 0 0 (zfr E)) 0 0 111 [(0, .ref (zB E + a0)), (1, .int p0), (3, .int x117), (4, .int x118)] [.int x119] h120 := by
      intro h120 x117 x118 x119 hf
      unfold F_X11_readPage_J111 at hf
      refine zr_istore_n (lo2 := [(2, .int x119), (0, .ref (zB E + a0)), (1, .int p0), (3, .int x117), (4, .int x118)]) C dX11_readPage_111 rfl (by decide) rfl ?_
      refine zr_iload_n C dX11_readPage_112 rfl 3 rfl ?_
      refine zr_iload C dX11_readPage_113 4 rfl ?_
      refine zr_if_eq (tgt := 122) C hf dX11_readPage_115 (by decide) (fun hf => ?_) (fun hf => ?_)
      · refine zr_iconst (v := 0) C dX11_readPage_122 (by decide) ?_
        refine zsub [1, 2, 0, 4] rfl ?_
        exact J123 h120 x119 x118 x117 (0 : Int32) hf
      · refine zr_iconst (v := 1) C dX11_readPage_118 (by decide) ?_
        refine zr_goto (tgt := 123) C dX11_readPage_119 (by decide) ?_
        refine zsub [1, 2, 0, 4] rfl ?_
        exact J123 h120 x119 x118 x117 (1 : Int32) hf
    have J98 : ∀ (h125 : zH) (x121 : Int32) (x122 : Int32) (x123 : Int32) (x124 : Int32), F_X11_readPage_J98 n kc24 h125 a0 p0 x121 x122 x123 x124 = some res → zW p l e (headSpec (zw yX11_readPage cX11_readPage 6 none) ({ frames := 3, cells := 0, slots := 0, locals := 64 } : Room)).room s m args below meth c E 6 (MQ below (zQc E res.2 none) args s 0 0 (zfr E)) 0 0 98 [(0, .ref (zB E + a0)), (1, .int p0), (2, .int x121), (3, .int x122), (5, .int x123)] [.int x124] h125 := by
      intro h125 x121 x122 x123 x124 hf
      unfold F_X11_readPage_J98 at hf
      refine zr_istore (lo2 := [(4, .int x124), (0, .ref (zB E + a0)), (1, .int p0), (2, .int x121), (3, .int x122), (5, .int x123)]) C dX11_readPage_98 (by decide) rfl ?_
      refine zr_iload C dX11_readPage_100 0 rfl ?_
      refine zr_if_eq (tgt := 110) C hf dX11_readPage_102 (by decide) (fun hf => ?_) (fun hf => ?_)
      · refine zr_iload_n C dX11_readPage_110 rfl 3 rfl ?_
        refine zsub [1, 2, 4, 0] rfl ?_
        exact J111 h125 x122 x124 x121 hf
      · refine zr_iload C dX11_readPage_105 5 rfl ?_
        refine zr_goto (tgt := 111) C dX11_readPage_107 (by decide) ?_
        refine zsub [1, 2, 4, 0] rfl ?_
        exact J111 h125 x122 x124 x123 hf
    have J85 : ∀ (h129 : zH) (x126 : Int32) (x127 : Int32) (x128 : Int32), F_X11_readPage_J85 n kc24 h129 a0 p0 x126 x127 x128 = some res → zW p l e (headSpec (zw yX11_readPage cX11_readPage 6 none) ({ frames := 3, cells := 0, slots := 0, locals := 64 } : Room)).room s m args below meth c E 6 (MQ below (zQc E res.2 none) args s 0 0 (zfr E)) 0 0 85 [(0, .ref (zB E + a0)), (1, .int p0), (2, .int x126), (3, .int x127)] [.int x128] h129 := by
      intro h129 x126 x127 x128 hf
      unfold F_X11_readPage_J85 at hf
      refine zr_istore (lo2 := [(5, .int x128), (0, .ref (zB E + a0)), (1, .int p0), (2, .int x126), (3, .int x127)]) C dX11_readPage_85 (by decide) rfl ?_
      refine zr_iload C dX11_readPage_87 0 rfl ?_
      refine zr_iconst (v := -1) C dX11_readPage_89 (by decide) ?_
      refine zr_icmp_eq (tgt := 97) C hf dX11_readPage_90 (by decide) (fun hf => ?_) (fun hf => ?_)
      · refine zr_iconst (v := 0) C dX11_readPage_97 (by decide) ?_
        refine zsub [1, 2, 3, 4, 0] rfl ?_
        exact J98 h129 x126 x127 x128 (0 : Int32) hf
      · refine zr_iconst (v := 1) C dX11_readPage_93 (by decide) ?_
        refine zr_goto (tgt := 98) C dX11_readPage_94 (by decide) ?_
        refine zsub [1, 2, 3, 4, 0] rfl ?_
        exact J98 h129 x126 x127 x128 (1 : Int32) hf
    refine zr_iload_n C dX11_readPage_24 rfl 3 rfl ?_
    refine zr_aload_n C dX11_readPage_25 rfl 0 rfl ?_
    refine zr_gi C hf kg_X11_107 (fun _ _ _ => rfl) dX11_readPage_26 (fun x130 hf => ?_)
    refine zr_icmp_ge (tgt := 128) C hf dX11_readPage_29 (by decide) (fun hf => ?_) (fun hf => ?_)
    · refine zsub [0, 1, 2, 3] rfl ?_
      exact J128 h110 a0 p0 x107 x108 hf
    · refine zr_iload C dX11_readPage_32 4 rfl ?_
      refine zr_if_eq (tgt := 128) C hf dX11_readPage_34 (by decide) (fun hf => ?_) (fun hf => ?_)
      · refine zsub [0, 1, 2, 3] rfl ?_
        exact J128 h110 a0 p0 x107 x108 hf
      · refine zr_iload_n C dX11_readPage_37 rfl 1 rfl ?_
        refine zr_if_ne (tgt := 55) C hf dX11_readPage_38 (by decide) (fun hf => ?_) (fun hf => ?_)
        · refine zr_iload_n C dX11_readPage_55 rfl 1 rfl ?_
          refine zr_iconst (v := 1) C dX11_readPage_56 (by decide) ?_
          refine zr_icmp_ne (tgt := 74) C hf dX11_readPage_57 (by decide) (fun hf => ?_) (fun hf => ?_)
          · refine zr_aload_n C dX11_readPage_74 rfl 0 rfl ?_
            refine zr_iload_n C dX11_readPage_75 rfl 2 rfl ?_
            refine zr_aload_n C dX11_readPage_76 rfl 0 rfl ?_
            refine zr_gr C hf kg_X11_68 (fun _ _ _ => rfl) dX11_readPage_77 (fun w131 hf => ?_)
            refine zr_iload_n C dX11_readPage_80 rfl 3 rfl ?_
            refine zr_baload C hf dX11_readPage_81 (fun x132 hf => ?_)
            refine zr_callVi (As := [.int x107, .int x132]) (rest := []) C hf (fun x hx => c_X11_nextRiver l E n h110 a0 x107 x132 x hx) kv_X11_132 rfl rfl (Nat.le_of_ble_eq_true rfl) ⟨rfl, rfl⟩ ⟨Nat.le_of_ble_eq_true rfl, Nat.le_of_ble_eq_true rfl⟩ ⟨Nat.le_of_ble_eq_true rfl, Nat.le_of_ble_eq_true rfl⟩ dX11_readPage_82 (fun x134 h133 hf => ?_)
            refine zsub [0, 1, 2, 3] rfl ?_
            exact J85 h133 x107 x108 x134 hf
          · refine zr_aload_n C dX11_readPage_60 rfl 0 rfl ?_
            refine zr_iload_n C dX11_readPage_61 rfl 2 rfl ?_
            refine zr_aload_n C dX11_readPage_62 rfl 0 rfl ?_
            refine zr_gr C hf kg_X11_68 (fun _ _ _ => rfl) dX11_readPage_63 (fun w135 hf => ?_)
            refine zr_iload_n C dX11_readPage_66 rfl 3 rfl ?_
            refine zr_baload C hf dX11_readPage_67 (fun x136 hf => ?_)
            refine zr_callVi (As := [.int x107, .int x136]) (rest := []) C hf (fun x hx => c_X11_nextRow l E n h110 a0 x107 x136 x hx) kv_X11_129 rfl rfl (Nat.le_of_ble_eq_true rfl) ⟨rfl, rfl⟩ ⟨Nat.le_of_ble_eq_true rfl, Nat.le_of_ble_eq_true rfl⟩ ⟨Nat.le_of_ble_eq_true rfl, Nat.le_of_ble_eq_true rfl⟩ dX11_readPage_68 (fun x138 h137 hf => ?_)
            refine zr_goto (tgt := 85) C dX11_readPage_71 (by decide) ?_
            refine zsub [0, 1, 2, 3] rfl ?_
            exact J85 h137 x107 x108 x138 hf
        · refine zr_aload_n C dX11_readPage_41 rfl 0 rfl ?_
          refine zr_iload_n C dX11_readPage_42 rfl 2 rfl ?_
          refine zr_aload_n C dX11_readPage_43 rfl 0 rfl ?_
          refine zr_gr C hf kg_X11_68 (fun _ _ _ => rfl) dX11_readPage_44 (fun w139 hf => ?_)
          refine zr_iload_n C dX11_readPage_47 rfl 3 rfl ?_
          refine zr_baload C hf dX11_readPage_48 (fun x140 hf => ?_)
          refine zr_callVi (As := [.int x107, .int x140]) (rest := []) C hf (fun x hx => c_X11_nextCup l E n h110 a0 x107 x140 x hx) kv_X11_125 rfl rfl (Nat.le_of_ble_eq_true rfl) ⟨rfl, rfl⟩ ⟨Nat.le_of_ble_eq_true rfl, Nat.le_of_ble_eq_true rfl⟩ ⟨Nat.le_of_ble_eq_true rfl, Nat.le_of_ble_eq_true rfl⟩ dX11_readPage_49 (fun x142 h141 hf => ?_)
          refine zr_goto (tgt := 85) C dX11_readPage_52 (by decide) ?_
          refine zsub [0, 1, 2, 3] rfl ?_
          exact J85 h141 x107 x108 x142 hf
  refine zsub [3, 4, 2, 1, 0] rfl ?_
  exact L24 n (h60, (0 : Int32), (0 : Int32), (1 : Int32)) hf
theorem dX11_fault_0 : decode cX11_fault 0 = .ok (.iload_n 1, 1) := by decide +kernel
theorem dX11_fault_1 : decode cX11_fault 1 = .ok (.iconst 0, 1) := by decide +kernel
theorem dX11_fault_2 : decode cX11_fault 2 = .ok (.iconst 2, 1) := by decide +kernel
theorem dX11_fault_3 : decode cX11_fault 3 = .ok (.invokestatic 111, 3) := by decide +kernel
theorem dX11_fault_6 : decode cX11_fault 6 = .ok (.ifCond .ne 6, 3) := by decide +kernel
theorem dX11_fault_9 : decode cX11_fault 9 = .ok (.bipush (-102), 2) := by decide +kernel
theorem dX11_fault_11 : decode cX11_fault 11 = .ok (.ireturn, 1) := by decide +kernel
theorem dX11_fault_12 : decode cX11_fault 12 = .ok (.aload_n 0, 1) := by decide +kernel
theorem dX11_fault_13 : decode cX11_fault 13 = .ok (.iload_n 1, 1) := by decide +kernel
theorem dX11_fault_14 : decode cX11_fault 14 = .ok (.invokevirtual 142, 3) := by decide +kernel
theorem dX11_fault_17 : decode cX11_fault 17 = .ok (.aload_n 0, 1) := by decide +kernel
theorem dX11_fault_18 : decode cX11_fault 18 = .ok (.getfield 135, 3) := by decide +kernel
theorem dX11_fault_21 : decode cX11_fault 21 = .ok (.ireturn, 1) := by decide +kernel
set_option maxHeartbeats 4000000 in
set_option maxRecDepth 100000 in
theorem c_X11_fault (l : Launch) (E : zE) (n : Nat) (h : zH) (a0 : Nat) (p0 : Int32) (res : Int32 × zH) (hf : F_X11_fault n h a0 p0 = some res) : Met l yX11_fault (zw yX11_fault cX11_fault 2 (some .int)) ({ frames := 4, cells := 0, slots := 0, locals := 89 } : Room) (zPc E h [.ref (zB E + a0), .int p0]) (zQc E res.2 (some (.int res.1))) 0 0 (zfr E) := by
  refine zmet (lo := [(0, .ref (zB E + a0)), (1, .int p0)]) (by decide +kernel) (Nat.le_of_ble_eq_true rfl) rfl ?_
  intro p e s m args below meth c C hr hin
  unfold F_X11_fault at hf
  refine zr_iload_n C dX11_fault_0 rfl 1 rfl ?_
  refine zr_iconst (v := 0) C dX11_fault_1 (by decide) ?_
  refine zr_iconst (v := 2) C dX11_fault_2 (by decide) ?_
  refine zr_callSi (As := [.int p0, .int (0 : Int32), .int (2 : Int32)]) (rest := []) C hf (fun x hx => c_X11_within l E n h p0 (0 : Int32) (2 : Int32) x hx) ks_X11_111 rfl rfl (Nat.le_of_ble_eq_true rfl) ⟨rfl, rfl⟩ ⟨Nat.le_of_ble_eq_true rfl, Nat.le_of_ble_eq_true rfl⟩ ⟨Nat.le_of_ble_eq_true rfl, Nat.le_of_ble_eq_true rfl⟩ dX11_fault_3 (fun x2 h1 hf => ?_)
  refine zr_if_ne (tgt := 12) C hf dX11_fault_6 (by decide) (fun hf => ?_) (fun hf => ?_)
  · refine zr_aload_n C dX11_fault_12 rfl 0 rfl ?_
    refine zr_iload_n C dX11_fault_13 rfl 1 rfl ?_
    refine zr_callVv (As := [.int p0]) (rest := []) C hf (fun x hx => c_X11_readPage l E n h1 a0 p0 x hx) kv_X11_142 rfl rfl (Nat.le_of_ble_eq_true rfl) ⟨rfl, rfl⟩ ⟨Nat.le_of_ble_eq_true rfl, Nat.le_of_ble_eq_true rfl⟩ ⟨Nat.le_of_ble_eq_true rfl, Nat.le_of_ble_eq_true rfl⟩ dX11_fault_14 (fun _ h3 hf => ?_)
    refine zr_aload_n C dX11_fault_17 rfl 0 rfl ?_
    refine zr_gi C hf kg_X11_135 (fun _ _ _ => rfl) dX11_fault_18 (fun x4 hf => ?_)
    exact zr_ireturn C hf hr (Nat.le_of_ble_eq_true rfl) (Nat.le_of_ble_eq_true rfl) dX11_fault_21
  · refine zr_bipush (v := -102) C dX11_fault_9 (by decide) ?_
    exact zr_ireturn C hf hr (Nat.le_of_ble_eq_true rfl) (Nat.le_of_ble_eq_true rfl) dX11_fault_11
theorem dX11_cup_0 : decode cX11_cup 0 = .ok (.aload_n 0, 1) := by decide +kernel
theorem dX11_cup_1 : decode cX11_cup 1 = .ok (.iconst 0, 1) := by decide +kernel
theorem dX11_cup_2 : decode cX11_cup 2 = .ok (.invokevirtual 142, 3) := by decide +kernel
theorem dX11_cup_5 : decode cX11_cup 5 = .ok (.aload_n 0, 1) := by decide +kernel
theorem dX11_cup_6 : decode cX11_cup 6 = .ok (.getfield 138, 3) := by decide +kernel
theorem dX11_cup_9 : decode cX11_cup 9 = .ok (.ifCond .ne 6, 3) := by decide +kernel
theorem dX11_cup_12 : decode cX11_cup 12 = .ok (.bipush (-103), 2) := by decide +kernel
theorem dX11_cup_14 : decode cX11_cup 14 = .ok (.ireturn, 1) := by decide +kernel
theorem dX11_cup_15 : decode cX11_cup 15 = .ok (.iconst 0, 1) := by decide +kernel
theorem dX11_cup_16 : decode cX11_cup 16 = .ok (.istore_n 1, 1) := by decide +kernel
theorem dX11_cup_17 : decode cX11_cup 17 = .ok (.iload_n 1, 1) := by decide +kernel
theorem dX11_cup_18 : decode cX11_cup 18 = .ok (.bipush 6, 2) := by decide +kernel
theorem dX11_cup_20 : decode cX11_cup 20 = .ok (.if_icmp .ge 28, 3) := by decide +kernel
theorem dX11_cup_23 : decode cX11_cup 23 = .ok (.aload_n 0, 1) := by decide +kernel
theorem dX11_cup_24 : decode cX11_cup 24 = .ok (.getfield 7, 3) := by decide +kernel
theorem dX11_cup_27 : decode cX11_cup 27 = .ok (.iload_n 1, 1) := by decide +kernel
theorem dX11_cup_28 : decode cX11_cup 28 = .ok (.aload_n 0, 1) := by decide +kernel
theorem dX11_cup_29 : decode cX11_cup 29 = .ok (.getfield 84, 3) := by decide +kernel
theorem dX11_cup_32 : decode cX11_cup 32 = .ok (.iload_n 1, 1) := by decide +kernel
theorem dX11_cup_33 : decode cX11_cup 33 = .ok (.iaload, 1) := by decide +kernel
theorem dX11_cup_34 : decode cX11_cup 34 = .ok (.iastore, 1) := by decide +kernel
theorem dX11_cup_35 : decode cX11_cup 35 = .ok (.aload_n 0, 1) := by decide +kernel
theorem dX11_cup_36 : decode cX11_cup 36 = .ok (.getfield 43, 3) := by decide +kernel
theorem dX11_cup_39 : decode cX11_cup 39 = .ok (.iload_n 1, 1) := by decide +kernel
theorem dX11_cup_40 : decode cX11_cup 40 = .ok (.iconst 0, 1) := by decide +kernel
theorem dX11_cup_41 : decode cX11_cup 41 = .ok (.iastore, 1) := by decide +kernel
theorem dX11_cup_42 : decode cX11_cup 42 = .ok (.iinc 1 1, 3) := by decide +kernel
theorem dX11_cup_45 : decode cX11_cup 45 = .ok (.goto (-28), 3) := by decide +kernel
theorem dX11_cup_48 : decode cX11_cup 48 = .ok (.iconst 0, 1) := by decide +kernel
theorem dX11_cup_49 : decode cX11_cup 49 = .ok (.istore_n 1, 1) := by decide +kernel
theorem dX11_cup_50 : decode cX11_cup 50 = .ok (.iload_n 1, 1) := by decide +kernel
theorem dX11_cup_51 : decode cX11_cup 51 = .ok (.bipush 24, 2) := by decide +kernel
theorem dX11_cup_53 : decode cX11_cup 53 = .ok (.if_icmp .ge 16, 3) := by decide +kernel
theorem dX11_cup_56 : decode cX11_cup 56 = .ok (.aload_n 0, 1) := by decide +kernel
theorem dX11_cup_57 : decode cX11_cup 57 = .ok (.getfield 13, 3) := by decide +kernel
theorem dX11_cup_60 : decode cX11_cup 60 = .ok (.iload_n 1, 1) := by decide +kernel
theorem dX11_cup_61 : decode cX11_cup 61 = .ok (.iconst 0, 1) := by decide +kernel
theorem dX11_cup_62 : decode cX11_cup 62 = .ok (.iastore, 1) := by decide +kernel
theorem dX11_cup_63 : decode cX11_cup 63 = .ok (.iinc 1 1, 3) := by decide +kernel
theorem dX11_cup_66 : decode cX11_cup 66 = .ok (.goto (-16), 3) := by decide +kernel
theorem dX11_cup_69 : decode cX11_cup 69 = .ok (.aload_n 0, 1) := by decide +kernel
theorem dX11_cup_70 : decode cX11_cup 70 = .ok (.iconst 0, 1) := by decide +kernel
theorem dX11_cup_71 : decode cX11_cup 71 = .ok (.putfield 146, 3) := by decide +kernel
theorem dX11_cup_74 : decode cX11_cup 74 = .ok (.aload_n 0, 1) := by decide +kernel
theorem dX11_cup_75 : decode cX11_cup 75 = .ok (.iconst 1, 1) := by decide +kernel
theorem dX11_cup_76 : decode cX11_cup 76 = .ok (.putfield 149, 3) := by decide +kernel
theorem dX11_cup_79 : decode cX11_cup 79 = .ok (.aload_n 0, 1) := by decide +kernel
theorem dX11_cup_80 : decode cX11_cup 80 = .ok (.dup, 1) := by decide +kernel
theorem dX11_cup_81 : decode cX11_cup 81 = .ok (.getfield 152, 3) := by decide +kernel
theorem dX11_cup_84 : decode cX11_cup 84 = .ok (.iconst 1, 1) := by decide +kernel
theorem dX11_cup_85 : decode cX11_cup 85 = .ok (.iadd, 1) := by decide +kernel
theorem dX11_cup_86 : decode cX11_cup 86 = .ok (.putfield 152, 3) := by decide +kernel
theorem dX11_cup_89 : decode cX11_cup 89 = .ok (.aload_n 0, 1) := by decide +kernel
theorem dX11_cup_90 : decode cX11_cup 90 = .ok (.iconst 0, 1) := by decide +kernel
theorem dX11_cup_91 : decode cX11_cup 91 = .ok (.putfield 107, 3) := by decide +kernel
theorem dX11_cup_94 : decode cX11_cup 94 = .ok (.aload_n 0, 1) := by decide +kernel
theorem dX11_cup_95 : decode cX11_cup 95 = .ok (.getfield 7, 3) := by decide +kernel
theorem dX11_cup_98 : decode cX11_cup 98 = .ok (.iconst 0, 1) := by decide +kernel
theorem dX11_cup_99 : decode cX11_cup 99 = .ok (.iaload, 1) := by decide +kernel
theorem dX11_cup_100 : decode cX11_cup 100 = .ok (.ireturn, 1) := by decide +kernel
set_option maxHeartbeats 4000000 in
set_option maxRecDepth 100000 in
theorem c_X11_cup (l : Launch) (E : zE) (n : Nat) (h : zH) (a0 : Nat) (res : Int32 × zH) (hf : F_X11_cup n h a0 = some res) : Met l yX11_cup (zw yX11_cup cX11_cup 2 (some .int)) ({ frames := 4, cells := 0, slots := 0, locals := 89 } : Room) (zPc E h [.ref (zB E + a0)]) (zQc E res.2 (some (.int res.1))) 0 0 (zfr E) := by
  refine zmet (lo := [(0, .ref (zB E + a0))]) (by decide +kernel) (Nat.le_of_ble_eq_true rfl) rfl ?_
  intro p e s m args below meth c C hr hin
  unfold F_X11_cup at hf
  refine zr_aload_n C dX11_cup_0 rfl 0 rfl ?_
  refine zr_iconst (v := 0) C dX11_cup_1 (by decide) ?_
  refine zr_callVv (As := [.int (0 : Int32)]) (rest := []) C hf (fun x hx => c_X11_readPage l E n h a0 (0 : Int32) x hx) kv_X11_142 rfl rfl (Nat.le_of_ble_eq_true rfl) ⟨rfl, rfl⟩ ⟨Nat.le_of_ble_eq_true rfl, Nat.le_of_ble_eq_true rfl⟩ ⟨Nat.le_of_ble_eq_true rfl, Nat.le_of_ble_eq_true rfl⟩ dX11_cup_2 (fun _ h1 hf => ?_)
  refine zr_aload_n C dX11_cup_5 rfl 0 rfl ?_
  refine zr_gi C hf kg_X11_138 (fun _ _ _ => rfl) dX11_cup_6 (fun x2 hf => ?_)
  refine zr_if_ne (tgt := 15) C hf dX11_cup_9 (by decide) (fun hf => ?_) (fun hf => ?_)
  · refine zr_iconst (v := 0) C dX11_cup_15 (by decide) ?_
    refine zr_istore_n (lo2 := [(1, .int (0 : Int32)), (0, .ref (zB E + a0))]) C dX11_cup_16 rfl (by decide) rfl ?_
    have L17 : ∀ (fu : Nat) (x : zH × Int32), zloop (fun kc x => F_X11_cup_B17 n kc x.1 a0 x.2) fu x = some res → zW p l e (headSpec (zw yX11_cup cX11_cup 2 (some .int)) ({ frames := 4, cells := 0, slots := 0, locals := 89 } : Room)).room s m args below meth c E 2 (MQ below (zQc E res.2 (some (.int res.1))) args s 0 0 (zfr E)) 0 0 17 [(0, .ref (zB E + a0)), (1, .int x.2)] [] x.1 := by
      refine z_loop _ ?_
      intro kc17 hk17 x hf
      obtain ⟨h41, x40⟩ := x
      dsimp only at hf ⊢
      unfold F_X11_cup_B17 at hf
      refine zr_iload_n C dX11_cup_17 rfl 1 rfl ?_
      refine zr_bipush (v := 6) C dX11_cup_18 (by decide) ?_
      refine zr_icmp_ge (tgt := 48) C hf dX11_cup_20 (by decide) (fun hf => ?_) (fun hf => ?_)
      · refine zr_iconst (v := 0) C dX11_cup_48 (by decide) ?_
        refine zr_istore_n (lo2 := [(1, .int (0 : Int32)), (0, .ref (zB E + a0))]) C dX11_cup_49 rfl (by decide) rfl ?_
        have L50 : ∀ (fu : Nat) (x : zH × Int32), zloop (fun kc x => F_X11_cup_B50 n kc x.1 a0 x.2) fu x = some res → zW p l e (headSpec (zw yX11_cup cX11_cup 2 (some .int)) ({ frames := 4, cells := 0, slots := 0, locals := 89 } : Room)).room s m args below meth c E 2 (MQ below (zQc E res.2 (some (.int res.1))) args s 0 0 (zfr E)) 0 0 50 [(0, .ref (zB E + a0)), (1, .int x.2)] [] x.1 := by
          refine z_loop _ ?_
          intro kc50 hk50 x hf
          obtain ⟨h43, x42⟩ := x
          dsimp only at hf ⊢
          unfold F_X11_cup_B50 at hf
          refine zr_iload_n C dX11_cup_50 rfl 1 rfl ?_
          refine zr_bipush (v := 24) C dX11_cup_51 (by decide) ?_
          refine zr_icmp_ge (tgt := 69) C hf dX11_cup_53 (by decide) (fun hf => ?_) (fun hf => ?_)
          · refine zr_aload_n C dX11_cup_69 rfl 0 rfl ?_
            refine zr_iconst (v := 0) C dX11_cup_70 (by decide) ?_
            refine zr_si C hf kp_X11_146 (fun _ _ _ => rfl) rfl dX11_cup_71 (fun h44 hf => ?_)
            refine zr_aload_n C dX11_cup_74 rfl 0 rfl ?_
            refine zr_iconst (v := 1) C dX11_cup_75 (by decide) ?_
            refine zr_sb C hf kp_X11_149 (fun _ _ _ => rfl) rfl dX11_cup_76 (fun h45 hf => ?_)
            refine zr_aload_n C dX11_cup_79 rfl 0 rfl ?_
            refine zr_dup C dX11_cup_80 rfl ?_
            refine zr_gi C hf kg_X11_152 (fun _ _ _ => rfl) dX11_cup_81 (fun x46 hf => ?_)
            refine zr_iconst (v := 1) C dX11_cup_84 (by decide) ?_
            refine zr_iadd C hf dX11_cup_85 (fun x47 hf => ?_)
            refine zr_si C hf kp_X11_152 (fun _ _ _ => rfl) rfl dX11_cup_86 (fun h48 hf => ?_)
            refine zr_aload_n C dX11_cup_89 rfl 0 rfl ?_
            refine zr_iconst (v := 0) C dX11_cup_90 (by decide) ?_
            refine zr_si C hf kp_X11_107 (fun _ _ _ => rfl) rfl dX11_cup_91 (fun h49 hf => ?_)
            refine zr_aload_n C dX11_cup_94 rfl 0 rfl ?_
            refine zr_gr C hf kg_X11_7 (fun _ _ _ => rfl) dX11_cup_95 (fun w50 hf => ?_)
            refine zr_iconst (v := 0) C dX11_cup_98 (by decide) ?_
            refine zr_iaload C hf dX11_cup_99 (fun x51 hf => ?_)
            exact zr_ireturn C hf hr (Nat.le_of_ble_eq_true rfl) (Nat.le_of_ble_eq_true rfl) dX11_cup_100
          · refine zr_aload_n C dX11_cup_56 rfl 0 rfl ?_
            refine zr_gr C hf kg_X11_13 (fun _ _ _ => rfl) dX11_cup_57 (fun w52 hf => ?_)
            refine zr_iload_n C dX11_cup_60 rfl 1 rfl ?_
            refine zr_iconst (v := 0) C dX11_cup_61 (by decide) ?_
            refine zr_iastore C hf dX11_cup_62 (fun h53 hf => ?_)
            refine zr_iinc (v0 := 1) (k := 1) (f := fun v => [(1, .int v), (0, .ref (zB E + a0))]) C hf (by decide) dX11_cup_63 rfl (by decide) (fun v => rfl) (fun x54 hf => ?_)
            refine zr_goto (tgt := 50) C dX11_cup_66 (by decide) ?_
            refine zsub [1, 0] rfl ?_
            exact hk50 (h53, x54) hf
        refine zsub [1, 0] rfl ?_
        exact L50 n (h41, (0 : Int32)) hf
      · refine zr_aload_n C dX11_cup_23 rfl 0 rfl ?_
        refine zr_gr C hf kg_X11_7 (fun _ _ _ => rfl) dX11_cup_24 (fun w55 hf => ?_)
        refine zr_iload_n C dX11_cup_27 rfl 1 rfl ?_
        refine zr_aload_n C dX11_cup_28 rfl 0 rfl ?_
        refine zr_gr C hf kg_X11_84 (fun _ _ _ => rfl) dX11_cup_29 (fun w56 hf => ?_)
        refine zr_iload_n C dX11_cup_32 rfl 1 rfl ?_
        refine zr_iaload C hf dX11_cup_33 (fun x57 hf => ?_)
        refine zr_iastore C hf dX11_cup_34 (fun h58 hf => ?_)
        refine zr_aload_n C dX11_cup_35 rfl 0 rfl ?_
        refine zr_gr C hf kg_X11_43 (fun _ _ _ => rfl) dX11_cup_36 (fun w59 hf => ?_)
        refine zr_iload_n C dX11_cup_39 rfl 1 rfl ?_
        refine zr_iconst (v := 0) C dX11_cup_40 (by decide) ?_
        refine zr_iastore C hf dX11_cup_41 (fun h60 hf => ?_)
        refine zr_iinc (v0 := 1) (k := 1) (f := fun v => [(1, .int v), (0, .ref (zB E + a0))]) C hf (by decide) dX11_cup_42 rfl (by decide) (fun v => rfl) (fun x61 hf => ?_)
        refine zr_goto (tgt := 17) C dX11_cup_45 (by decide) ?_
        refine zsub [1, 0] rfl ?_
        exact hk17 (h60, x61) hf
    refine zsub [1, 0] rfl ?_
    exact L17 n (h1, (0 : Int32)) hf
  · refine zr_bipush (v := -103) C dX11_cup_12 (by decide) ?_
    exact zr_ireturn C hf hr (Nat.le_of_ble_eq_true rfl) (Nat.le_of_ble_eq_true rfl) dX11_cup_14
