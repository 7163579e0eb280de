theorem dJ0_charAt_5068e_0 : decode cJ0_charAt_5068e 0 = .ok (.aload_n 0, 1) := by decide +kernel
theorem dJ0_charAt_5068e_1 : decode cJ0_charAt_5068e 1 = .ok (.invokevirtual 492, 3) := by decide +kernel
theorem dJ0_charAt_5068e_4 : decode cJ0_charAt_5068e 4 = .ok (.ifCond .eq 12, 3) := by decide +kernel
theorem dJ0_charAt_5068e_7 : decode cJ0_charAt_5068e 7 = .ok (.aload_n 0, 1) := by decide +kernel
theorem dJ0_charAt_5068e_8 : decode cJ0_charAt_5068e 8 = .ok (.getfield 9, 3) := by decide +kernel
theorem dJ0_charAt_5068e_11 : decode cJ0_charAt_5068e 11 = .ok (.iload_n 1, 1) := by decide +kernel
theorem dJ0_charAt_5068e_12 : decode cJ0_charAt_5068e 12 = .ok (.invokestatic 495, 3) := by decide +kernel
theorem dJ0_charAt_5068e_15 : decode cJ0_charAt_5068e 15 = .ok (.ireturn, 1) := by decide +kernel
theorem dJ0_charAt_5068e_16 : decode cJ0_charAt_5068e 16 = .ok (.aload_n 0, 1) := by decide +kernel
theorem dJ0_charAt_5068e_17 : decode cJ0_charAt_5068e 17 = .ok (.getfield 9, 3) := by decide +kernel
theorem dJ0_charAt_5068e_20 : decode cJ0_charAt_5068e 20 = .ok (.iload_n 1, 1) := by decide +kernel
theorem dJ0_charAt_5068e_21 : decode cJ0_charAt_5068e 21 = .ok (.invokestatic 498, 3) := by decide +kernel
theorem dJ0_charAt_5068e_24 : decode cJ0_charAt_5068e 24 = .ok (.ireturn, 1) := by decide +kernel
theorem dJ0_isLatin1_aae02_0 : decode cJ0_isLatin1_aae02 0 = .ok (.getstatic 38, 3) := by decide +kernel
theorem dJ0_isLatin1_aae02_3 : decode cJ0_isLatin1_aae02 3 = .ok (.ifCond .eq 14, 3) := by decide +kernel
theorem dJ0_isLatin1_aae02_6 : decode cJ0_isLatin1_aae02 6 = .ok (.aload_n 0, 1) := by decide +kernel
theorem dJ0_isLatin1_aae02_7 : decode cJ0_isLatin1_aae02 7 = .ok (.getfield 15, 3) := by decide +kernel
theorem dJ0_isLatin1_aae02_10 : decode cJ0_isLatin1_aae02 10 = .ok (.ifCond .ne 7, 3) := by decide +kernel
theorem dJ0_isLatin1_aae02_13 : decode cJ0_isLatin1_aae02 13 = .ok (.iconst 1, 1) := by decide +kernel
theorem dJ0_isLatin1_aae02_14 : decode cJ0_isLatin1_aae02 14 = .ok (.goto 4, 3) := by decide +kernel
theorem dJ0_isLatin1_aae02_17 : decode cJ0_isLatin1_aae02 17 = .ok (.iconst 0, 1) := by decide +kernel
theorem dJ0_isLatin1_aae02_18 : decode cJ0_isLatin1_aae02 18 = .ok (.ireturn, 1) := by decide +kernel
theorem dJ0_checkIndex_df160_0 : decode cJ0_checkIndex_df160 0 = .ok (.iload_n 0, 1) := by decide +kernel
theorem dJ0_checkIndex_df160_1 : decode cJ0_checkIndex_df160 1 = .ok (.iload_n 1, 1) := by decide +kernel
theorem dJ0_checkIndex_df160_2 : decode cJ0_checkIndex_df160 2 = .ok (.getstatic 1053, 3) := by decide +kernel
theorem dJ0_checkIndex_df160_5 : decode cJ0_checkIndex_df160 5 = .ok (.invokestatic 1059, 3) := by decide +kernel
theorem dJ0_checkIndex_df160_8 : decode cJ0_checkIndex_df160 8 = .ok (.pop, 1) := by decide +kernel
theorem dJ0_checkIndex_df160_9 : decode cJ0_checkIndex_df160 9 = .ok (.return_, 1) := by decide +kernel
theorem dJ1_charAt_3b067_0 : decode cJ1_charAt_3b067 0 = .ok (.iload_n 1, 1) := by decide +kernel
theorem dJ1_charAt_3b067_1 : decode cJ1_charAt_3b067 1 = .ok (.aload_n 0, 1) := by decide +kernel
theorem dJ1_charAt_3b067_2 : decode cJ1_charAt_3b067 2 = .ok (.arraylength, 1) := by decide +kernel
theorem dJ1_charAt_3b067_3 : decode cJ1_charAt_3b067 3 = .ok (.invokestatic 9, 3) := by decide +kernel
theorem dJ1_charAt_3b067_6 : decode cJ1_charAt_3b067 6 = .ok (.aload_n 0, 1) := by decide +kernel
theorem dJ1_charAt_3b067_7 : decode cJ1_charAt_3b067 7 = .ok (.iload_n 1, 1) := by decide +kernel
theorem dJ1_charAt_3b067_8 : decode cJ1_charAt_3b067 8 = .ok (.baload, 1) := by decide +kernel
theorem dJ1_charAt_3b067_9 : decode cJ1_charAt_3b067 9 = .ok (.sipush 255, 3) := by decide +kernel
theorem dJ1_charAt_3b067_12 : decode cJ1_charAt_3b067 12 = .ok (.iand, 1) := by decide +kernel
theorem dJ1_charAt_3b067_13 : decode cJ1_charAt_3b067 13 = .ok (.i2c, 1) := by decide +kernel
theorem dJ1_charAt_3b067_14 : decode cJ1_charAt_3b067 14 = .ok (.ireturn, 1) := by decide +kernel
theorem dJ3_checkIndex_8e157_0 : decode cJ3_checkIndex_8e157 0 = .ok (.iload_n 0, 1) := by decide +kernel
theorem dJ3_checkIndex_8e157_1 : decode cJ3_checkIndex_8e157 1 = .ok (.ifCond .lt 8, 3) := by decide +kernel
theorem dJ3_checkIndex_8e157_4 : decode cJ3_checkIndex_8e157 4 = .ok (.iload_n 0, 1) := by decide +kernel
theorem dJ3_checkIndex_8e157_5 : decode cJ3_checkIndex_8e157 5 = .ok (.iload_n 1, 1) := by decide +kernel
theorem dJ3_checkIndex_8e157_6 : decode cJ3_checkIndex_8e157 6 = .ok (.if_icmp .lt 10, 3) := by decide +kernel
theorem dJ3_checkIndex_8e157_9 : decode cJ3_checkIndex_8e157 9 = .ok (.aload_n 2, 1) := by decide +kernel
theorem dJ3_checkIndex_8e157_10 : decode cJ3_checkIndex_8e157 10 = .ok (.iload_n 0, 1) := by decide +kernel
theorem dJ3_checkIndex_8e157_11 : decode cJ3_checkIndex_8e157 11 = .ok (.iload_n 1, 1) := by decide +kernel
theorem dJ3_checkIndex_8e157_12 : decode cJ3_checkIndex_8e157 12 = .ok (.invokestatic 95, 3) := by decide +kernel
theorem dJ3_checkIndex_8e157_15 : decode cJ3_checkIndex_8e157 15 = .ok (.athrow, 1) := by decide +kernel
theorem dJ3_checkIndex_8e157_16 : decode cJ3_checkIndex_8e157 16 = .ok (.iload_n 0, 1) := by decide +kernel
theorem dJ3_checkIndex_8e157_17 : decode cJ3_checkIndex_8e157 17 = .ok (.ireturn, 1) := by decide +kernel
section ZR13
variable {p : Program} {l : Launch} {e : Env} {R : Room} {s : State} {m : MethodId} {args : Array Value} {below : List Frame} {meth : Method} {c : Code} {E : zE} {nL : Nat} {Q : State → Prop} {cells slots pc : Nat} {lo : List (Nat × Value)} {st : List Value} {h : zH} {cc : ByteArray} {own : String} {β : Type} {res : β}
theorem zkept {H : Heap} (hR : zRep E h H) : ∀ a : Nat, a < E.2.2.1.size → ¬ zold E a → H[a]? = E.2.2.1[a]? := fun a ha _ => hR.2.1 a ha
theorem zr_gz (C : zC p s m args meth c cc nL own E) {index : Nat} {Cn nm ds : String} {v : Value} (hZ : va_Z Cn nm ds v (zold E) s E.2.2.1) (hl : Cond.fieldLink own index Cn nm ds ∈ ztb) (hdg : decode cc pc = .ok (.getstatic index, 3)) (kk : zW p l e R s m args below meth c E nL Q cells slots (pc + 3) lo (v :: st) h) : zW p l e R s m args below meth c E nL Q cells slots pc lo st h := by
  intro H locs ls hRp hL hlo
  obtain ⟨cf, kf, fi, f, a, cell, h1, h2, h3, h4, h5, h6, h7, h8⟩ := hZ
  exact W.gets C.1 C.2.1 C.2.2.2.1 (C.2.2.2.2.1 _ hl) h1 h2 h3 h4 (by rw [hRp.2.1 a (Array.getElem?_eq_some_iff.mp h5).1]; exact h5) (fun q => by rw [q] at h6; cases h6) h7 rfl hdg (kk H locs ls hRp hL hlo)
theorem zr_gof (C : zC p s m args meth c cc nL own E) {index q : Nat} {Cn nm ds : String} {v : Value} (hO : va_OF Cn nm ds v q (zold E) s E.2.2.1) (hl : Cond.fieldLink own index Cn nm ds ∈ ztb) (hdg : decode cc pc = .ok (.getfield index, 3)) (kk : zW p l e R s m args below meth c E nL Q cells slots (pc + 3) lo (v :: st) h) : zW p l e R s m args below meth c E nL Q cells slots pc lo (.ref q :: st) h := by
  intro H locs ls hRp hL hlo
  obtain ⟨cf, k, fi, f, cell, h1, h2, h3, h4, h5, h6⟩ := hO.kept (zkept hRp)
  exact W.getf C.1 C.2.1 C.2.2.2.1 (C.2.2.2.2.1 _ hl) h1 h2 h3 h4 (v := v) h5 rfl rfl hdg (kk H locs ls hRp hL hlo)
theorem zr_least (C : zC p s m args meth c cc nL own E) {index : Nat} (hl : Cond.fieldLink own index "LeavesInCups$Cup" "LEAST" "[I" ∈ ztb) (hdg : decode cc pc = .ok (.getstatic index, 3)) (kk : zW p l e R s m args below meth c E nL Q cells slots (pc + 3) lo (.ref (zad E 0) :: st) h) : zW p l e R s m args below meth c E nL Q cells slots pc lo st h := zr_gz C C.2.2.2.2.2.1.2.2.2.2.2.1.1 hl hdg kk
theorem zr_most (C : zC p s m args meth c cc nL own E) {index : Nat} (hl : Cond.fieldLink own index "LeavesInCups$Cup" "MOST" "[I" ∈ ztb) (hdg : decode cc pc = .ok (.getstatic index, 3)) (kk : zW p l e R s m args below meth c E nL Q cells slots (pc + 3) lo (.ref (zad E 1) :: st) h) : zW p l e R s m args below meth c E nL Q cells slots pc lo st h := zr_gz C C.2.2.2.2.2.1.2.2.2.2.2.1.2.2.1 hl hdg kk
theorem zr_tabi (C : zC p s m args meth c cc nL own E) {f : Nat → Int32} {n q : Nat} {i : Int32} {k : Int32 → Option β} (hf : zst f n i k = some res) (hT : va_T .int q n (fun j => .int (f j)) (zold E) s E.2.2.1) (hdg : decode cc pc = .ok (.iaload, 1)) (kk : ∀ x : Int32, k x = some res → zW p l e R s m args below meth c E nL Q cells slots (pc + 1) lo (.int x :: st) h) : zW p l e R s m args below meth c E nL Q cells slots pc lo (.int i :: .ref q :: st) h := by
  intro H locs ls hRp hL hlo
  obtain ⟨⟨h0, h1⟩, hf⟩ := zif hf
  obtain ⟨cell, g1, g2, g3, g4, g5, g6, g7⟩ := hT.kept (zkept hRp)
  exact W.iald (v := .int (f i.toNatClampNeg)) C.1 C.2.1 g1 g2 g3 (fun z => z.elim h0 (fun z => by omega)) (g6 _ h1) rfl rfl hdg (kk _ hf H locs ls hRp hL hlo)
theorem zr_tab0 (C : zC p s m args meth c cc nL own E) {i : Int32} {k : Int32 → Option β} (hf : zst zLeast 5 i k = some res) (hdg : decode cc pc = .ok (.iaload, 1)) (kk : ∀ x : Int32, k x = some res → zW p l e R s m args below meth c E nL Q cells slots (pc + 1) lo (.int x :: st) h) : zW p l e R s m args below meth c E nL Q cells slots pc lo (.int i :: .ref (zad E 0) :: st) h := zr_tabi C hf C.2.2.2.2.2.1.2.2.2.2.2.1.2.1 hdg kk
theorem zr_tab1 (C : zC p s m args meth c cc nL own E) {i : Int32} {k : Int32 → Option β} (hf : zst zMost 5 i k = some res) (hdg : decode cc pc = .ok (.iaload, 1)) (kk : ∀ x : Int32, k x = some res → zW p l e R s m args below meth c E nL Q cells slots (pc + 1) lo (.int x :: st) h) : zW p l e R s m args below meth c E nL Q cells slots pc lo (.int i :: .ref (zad E 1) :: st) h := zr_tabi C hf C.2.2.2.2.2.1.2.2.2.2.2.1.2.2.2.1 hdg kk
theorem zr_tbald (C : zC p s m args meth c cc nL own E) {f : Nat → Int32} {n q : Nat} {i : Int32} (h0 : ¬ i < 0) (h1 : i.toNatClampNeg < n) (hT : va_T .byte q n (fun j => .int (f j)) (zold E) s E.2.2.1) (hdg : decode cc pc = .ok (.baload, 1)) (kk : zW p l e R s m args below meth c E nL Q cells slots (pc + 1) lo (.int (f i.toNatClampNeg) :: st) h) : zW p l e R s m args below meth c E nL Q cells slots pc lo (.int i :: .ref q :: st) h := by
  intro H locs ls hRp hL hlo
  obtain ⟨cell, g1, g2, g3, g4, g5, g6, g7⟩ := hT.kept (zkept hRp)
  exact W.bald (v := .int (f i.toNatClampNeg)) C.1 C.2.1 g1 g2 g3 (fun z => z.elim h0 (fun z => by omega)) (g6 _ h1) rfl rfl hdg (kk H locs ls hRp hL hlo)
theorem zr_talen (C : zC p s m args meth c cc nL own E) {ty : FieldType} {f : Nat → Value} {n q : Nat} (hT : va_T ty q n f (zold E) s E.2.2.1) (hdg : decode cc pc = .ok (.arraylength, 1)) (kk : zW p l e R s m args below meth c E nL Q cells slots (pc + 1) lo (.int (Int32.ofNat n) :: st) h) : zW p l e R s m args below meth c E nL Q cells slots pc lo (.ref q :: st) h := by
  intro H locs ls hRp hL hlo
  obtain ⟨cell, g1, g2, g3, g4, g5, g6, g7⟩ := hT.kept (zkept hRp)
  exact W.alen C.1 C.2.1 g1 g2 g5 rfl rfl hdg (kk H locs ls hRp hL hlo)
theorem zr_ldcS (C : zC p s m args meth c cc nL RX1 E) (hdg : decode cc pc = .ok (.ldc 17, 2)) (kk : zW p l e R s m args below meth c E nL Q cells slots (pc + 2) lo (.ref (zad E 2) :: st) h) : zW p l e R s m args below meth c E nL Q cells slots pc lo st h := fun H locs ls hRp hL hlo =>
  va_ldcS C.1 C.2.1 C.2.2.2.1 C.2.2.2.2.2.1.2.2.2.2.2.2 hdg (kk H locs ls hRp hL hlo)
end ZR13
section ZR14
variable {p : Program} {l : Launch} {e : Env} {R : Room} {s : State} {m : MethodId} {args : Array Value} {below : List Frame} {meth : Method} {c : Code} {E : zE} {nL : Nat} {cells slots pc mc ms : Nat} {lo : List (Nat × Value)} {h : zH} {cc : ByteArray} {own : String}
theorem zr_creturn (C : zC p s m args meth c cc nL own E) {v : Int32} (hr : meth.sig.returnType = some .char) (hn : narrow .char (.int v) = .int v) (h1 : cells ≤ mc) (h2 : slots ≤ ms) (hdg : decode cc pc = .ok (.ireturn, 1)) : zW p l e R s m args below meth c E nL (MQ below (zQc E h (some (.int v))) args s mc ms (zfr E)) cells slots pc lo [.int v] h :=
  zwiden h1 h2 (fun H locs ls hRp hL hlo => W.zret C.1 C.2.1 hr hn (fun t ht _ => ⟨rfl, by rw [ht]; exact hRp⟩) hL hdg C.2.2.2.2.2.2)
end ZR14

theorem zj_code_J0_charAt_5068e : (Cond.code yJ0_charAt_5068e cJ0_charAt_5068e 2 (some .char) : Cond) ∈ ztb := zmem (i := 393) (by decide +kernel) rfl
theorem zj_code_J0_isLatin1_aae02 : (Cond.code yJ0_isLatin1_aae02 cJ0_isLatin1_aae02 1 (some .boolean) : Cond) ∈ ztb := zmem (i := 397) (by decide +kernel) rfl
theorem zj_code_J0_checkIndex_df160 : (Cond.code yJ0_checkIndex_df160 cJ0_checkIndex_df160 2 none : Cond) ∈ ztb := zmem (i := 405) (by decide +kernel) rfl
theorem zj_code_J1_charAt_3b067 : (Cond.code yJ1_charAt_3b067 cJ1_charAt_3b067 2 (some .char) : Cond) ∈ ztb := zmem (i := 402) (by decide +kernel) rfl
theorem zj_code_J3_checkIndex_8e157 : (Cond.code yJ3_checkIndex_8e157 cJ3_checkIndex_8e157 3 (some .int) : Cond) ∈ ztb := zmem (i := 410) (by decide +kernel) rfl
theorem zj_iS : (Cond.initialized RJ0 : Cond) ∈ ztb := zmem (i := 73) (by decide +kernel) rfl
theorem zj_iL : (Cond.initialized RJ1 : Cond) ∈ ztb := zmem (i := 74) (by decide +kernel) rfl
theorem zj_iP : (Cond.initialized RJ3 : Cond) ∈ ztb := zmem (i := 75) (by decide +kernel) rfl
theorem zj_ml_a : (Cond.methodLink RX1 19 yJ0_charAt_5068e : Cond) ∈ ztb := zmem (i := 390) (by decide +kernel) rfl
theorem zj_ml_b : (Cond.methodLink RJ0 492 yJ0_isLatin1_aae02 : Cond) ∈ ztb := zmem (i := 394) (by decide +kernel) rfl
theorem zj_ml_c : (Cond.methodLink RJ0 495 yJ1_charAt_3b067 : Cond) ∈ ztb := zmem (i := 400) (by decide +kernel) rfl
theorem zj_ml_d : (Cond.methodLink RJ1 9 yJ0_checkIndex_df160 : Cond) ∈ ztb := zmem (i := 403) (by decide +kernel) rfl
theorem zj_ml_e : (Cond.methodLink RJ0 1059 yJ3_checkIndex_8e157 : Cond) ∈ ztb := zmem (i := 408) (by decide +kernel) rfl
theorem zj_in_a : (Cond.instanceMethod yJ0_charAt_5068e : Cond) ∈ ztb := zmem (i := 391) (by decide +kernel) rfl
theorem zj_se_a : (Cond.selects RJ0 yJ0_charAt_5068e yJ0_charAt_5068e : Cond) ∈ ztb := zmem (i := 392) (by decide +kernel) rfl
theorem zj_in_b : (Cond.instanceMethod yJ0_isLatin1_aae02 : Cond) ∈ ztb := zmem (i := 395) (by decide +kernel) rfl
theorem zj_se_b : (Cond.selects RJ0 yJ0_isLatin1_aae02 yJ0_isLatin1_aae02 : Cond) ∈ ztb := zmem (i := 396) (by decide +kernel) rfl
theorem zj_st_c : (Cond.static yJ1_charAt_3b067 : Cond) ∈ ztb := zmem (i := 401) (by decide +kernel) rfl
theorem zj_st_d : (Cond.static yJ0_checkIndex_df160 : Cond) ∈ ztb := zmem (i := 404) (by decide +kernel) rfl
theorem zj_st_e : (Cond.static yJ3_checkIndex_8e157 : Cond) ∈ ztb := zmem (i := 409) (by decide +kernel) rfl
theorem zj_f38 : (Cond.fieldLink RJ0 38 "java/lang/String" "COMPACT_STRINGS" "Z" : Cond) ∈ ztb := zmem (i := 398) (by decide +kernel) rfl
theorem zj_f1053 : (Cond.fieldLink RJ0 1053 "jdk/internal/util/Preconditions" "SIOOBE_FORMATTER" "Ljava/util/function/BiFunction;" : Cond) ∈ ztb := zmem (i := 406) (by decide +kernel) rfl
theorem zj_f15 : (Cond.fieldLink RJ0 15 "java/lang/String" "coder" "B" : Cond) ∈ ztb := zmem (i := 1344) (by decide +kernel) rfl
theorem zj_f9 : (Cond.fieldLink RJ0 9 "java/lang/String" "value" "[B" : Cond) ∈ ztb := zmem (i := 1345) (by decide +kernel) rfl
theorem zj_c : zLt RJ0 495 yJ1_charAt_3b067 cJ1_charAt_3b067 2 (some .char) 2 := ⟨zj_st_c, zj_ml_c, zj_iL, zj_code_J1_charAt_3b067, by decide +kernel, by decide +kernel, by decide +kernel⟩
theorem zj_d : zLt RJ1 9 yJ0_checkIndex_df160 cJ0_checkIndex_df160 2 none 2 := ⟨zj_st_d, zj_ml_d, zj_iS, zj_code_J0_checkIndex_df160, by decide +kernel, by decide +kernel, by decide +kernel⟩
theorem zj_e : zLt RJ0 1059 yJ3_checkIndex_8e157 cJ3_checkIndex_8e157 3 (some .int) 3 := ⟨zj_st_e, zj_ml_e, zj_iP, zj_code_J3_checkIndex_8e157, by decide +kernel, by decide +kernel, by decide +kernel⟩
set_option maxHeartbeats 4000000 in
theorem cj_pre (l : Launch) (E : zE) (h : zH) (i n : Int32) (v : Value) (hv : v = .null ∨ ∃ q, v = .ref q) (h0 : ¬ i < 0) (h1 : i < n) : Met l yJ3_checkIndex_8e157 (zw yJ3_checkIndex_8e157 cJ3_checkIndex_8e157 3 (some .int)) ({ frames := 0, cells := 0, slots := 0, locals := 0 } : Room) (zPc E h [.int i, .int n, v]) (zQc E h (some (.int i))) 0 0 (zfr E) := by
  have hc : (lg_sl [Value.int i, .int n, v]).length ≤ 3 := by rcases hv with rfl | ⟨q, rfl⟩ <;> exact Nat.le_of_ble_eq_true rfl
  have hlo : lv_args 0 [Value.int i, .int n, v] = [(0, .int i), (1, .int n), (2, v)] := by rcases hv with rfl | ⟨q, rfl⟩ <;> rfl
  refine zmet (lo := [(0, .int i), (1, .int n), (2, v)]) (by decide +kernel) hc hlo ?_
  intro p e s m args below meth c C hr hin
  refine zr_iload_n C dJ3_checkIndex_8e157_0 rfl 0 rfl ?_
  refine zr_if_lt (β := Unit) (res := ()) (k1 := none) (k2 := some ()) (tgt := 9) C (if_neg h0) dJ3_checkIndex_8e157_1 (by decide) (fun hf => nomatch hf) (fun _ => ?_)
  refine zr_iload_n C dJ3_checkIndex_8e157_4 rfl 0 rfl ?_
  refine zr_iload_n C dJ3_checkIndex_8e157_5 rfl 1 rfl ?_
  refine zr_icmp_lt (β := Unit) (res := ()) (k1 := some ()) (k2 := none) (tgt := 16) C (if_pos h1) dJ3_checkIndex_8e157_6 (by decide) (fun _ => ?_) (fun hf => nomatch hf)
  refine zr_iload_n C dJ3_checkIndex_8e157_16 rfl 0 rfl ?_
  exact zr_ireturn (res := (i, h)) C rfl hr (Nat.le_of_ble_eq_true rfl) (Nat.le_of_ble_eq_true rfl) dJ3_checkIndex_8e157_17
set_option maxHeartbeats 4000000 in
theorem cj_chk (l : Launch) (E : zE) (h : zH) (i n : Int32) (h0 : ¬ i < 0) (h1 : i < n) : Met l yJ0_checkIndex_df160 (zw yJ0_checkIndex_df160 cJ0_checkIndex_df160 2 none) ({ frames := 1, cells := 0, slots := 0, locals := 22 } : Room) (zPc E h [.int i, .int n]) (zQc E h none) 0 0 (zfr E) := by
  refine zmet (lo := [(0, .int i), (1, .int n)]) (by decide +kernel) (Nat.le_of_ble_eq_true rfl) rfl ?_
  intro p e s m args below meth c C hr hin
  refine zr_iload_n C dJ0_checkIndex_df160_0 rfl 0 rfl ?_
  refine zr_iload_n C dJ0_checkIndex_df160_1 rfl 1 rfl ?_
  rcases C.2.2.2.2.2.1.2.2.2.2.2.1.2.2.2.2.2.2.2.2.2 with hz | ⟨q, hz⟩
  · refine zr_gz C hz zj_f1053 dJ0_checkIndex_df160_2 ?_
    refine zr_callS (β := Unit × zH) (res := ((), h)) (f := some (i, h)) (k := fun _ h' => some ((), h')) (As := [.int i, .int n, .null]) (rest := []) (rv := fun r => some (.int r)) C rfl (fun x hx => by cases hx; exact cj_pre l E h i n _ (Or.inl rfl) h0 h1) zj_e rfl rfl (Nat.le_of_ble_eq_true rfl) ⟨rfl, rfl⟩ ⟨Nat.le_of_ble_eq_true rfl, Nat.le_of_ble_eq_true rfl⟩ ⟨Nat.le_of_ble_eq_true rfl, Nat.le_of_ble_eq_true rfl⟩ dJ0_checkIndex_df160_5 (fun r h' hf => ?_)
    refine zr_pop C dJ0_checkIndex_df160_8 rfl ?_
    exact zr_return (res := ((), h)) C hf hr (Nat.le_of_ble_eq_true rfl) (Nat.le_of_ble_eq_true rfl) dJ0_checkIndex_df160_9
  · refine zr_gz C hz zj_f1053 dJ0_checkIndex_df160_2 ?_
    refine zr_callS (β := Unit × zH) (res := ((), h)) (f := some (i, h)) (k := fun _ h' => some ((), h')) (As := [.int i, .int n, .ref q]) (rest := []) (rv := fun r => some (.int r)) C rfl (fun x hx => by cases hx; exact cj_pre l E h i n _ (Or.inr ⟨_, rfl⟩) h0 h1) zj_e rfl rfl (Nat.le_of_ble_eq_true rfl) ⟨rfl, rfl⟩ ⟨Nat.le_of_ble_eq_true rfl, Nat.le_of_ble_eq_true rfl⟩ ⟨Nat.le_of_ble_eq_true rfl, Nat.le_of_ble_eq_true rfl⟩ dJ0_checkIndex_df160_5 (fun r h' hf => ?_)
    refine zr_pop C dJ0_checkIndex_df160_8 rfl ?_
    exact zr_return (res := ((), h)) C hf hr (Nat.le_of_ble_eq_true rfl) (Nat.le_of_ble_eq_true rfl) dJ0_checkIndex_df160_9
theorem zj_marks : ∀ j, j < 5 → narrow .char (.int (((zMarks j &&& 255).toUInt32 % 65536).toInt32)) = .int (((zMarks j &&& 255).toUInt32 % 65536).toInt32) ∧ ((zMarks j &&& 255).toUInt32 % 65536).toInt32 = zMarks j := by decide +kernel
theorem zj_lt5 {i : Int32} (h0 : ¬ i < 0) (h1 : i.toNatClampNeg < 5) : i < 5 := by
  have a : i.toNatClampNeg = i.toInt.toNat := rfl
  rw [Int32.lt_iff_toInt_lt] at h0 ⊢
  have e0 : (0 : Int32).toInt = 0 := by decide
  have e5 : (5 : Int32).toInt = 5 := by decide
  omega
set_option maxHeartbeats 4000000 in
theorem cj_lat (l : Launch) (E : zE) (h : zH) (i : Int32) (h0 : ¬ i < 0) (h1 : i.toNatClampNeg < 5) : Met l yJ1_charAt_3b067 (zw yJ1_charAt_3b067 cJ1_charAt_3b067 2 (some .char)) ({ frames := 2, cells := 0, slots := 0, locals := 43 } : Room) (zPc E h [.ref (zad E 3), .int i]) (zQc E h (some (.int (zMarks i.toNatClampNeg)))) 0 0 (zfr E) := by
  refine zmet (lo := [(0, .ref (zad E 3)), (1, .int i)]) (by decide +kernel) (Nat.le_of_ble_eq_true rfl) rfl ?_
  intro p e s m args below meth c C hr hin
  have hT := C.2.2.2.2.2.1.2.2.2.2.2.1.2.2.2.2.2.2.2.1
  refine zr_iload_n C dJ1_charAt_3b067_0 rfl 1 rfl ?_
  refine zr_aload_n C dJ1_charAt_3b067_1 rfl 0 rfl ?_
  refine zr_talen C hT dJ1_charAt_3b067_2 ?_
  refine zr_callS (β := Unit × zH) (res := ((), h)) (f := some ((), h)) (k := fun _ h' => some ((), h')) (As := [.int i, .int (Int32.ofNat 5)]) (rest := []) (rv := fun _ => none) C rfl (fun x hx => by cases hx; exact cj_chk l E h i (Int32.ofNat 5) h0 (zj_lt5 h0 h1)) zj_d rfl rfl (Nat.le_of_ble_eq_true rfl) ⟨rfl, rfl⟩ ⟨Nat.le_of_ble_eq_true rfl, Nat.le_of_ble_eq_true rfl⟩ ⟨Nat.le_of_ble_eq_true rfl, Nat.le_of_ble_eq_true rfl⟩ dJ1_charAt_3b067_3 (fun r h' hf => ?_)
  cases hf
  refine zr_aload_n C dJ1_charAt_3b067_6 rfl 0 rfl ?_
  refine zr_iload_n C dJ1_charAt_3b067_7 rfl 1 rfl ?_
  refine zr_tbald C h0 h1 hT dJ1_charAt_3b067_8 ?_
  refine zr_sipush (v := 255) C dJ1_charAt_3b067_9 (by decide) ?_
  refine zr_iand (β := Int32) (k := some) C rfl dJ1_charAt_3b067_12 (fun z hz => ?_)
  refine zr_i2c (β := Int32) (k := some) C rfl dJ1_charAt_3b067_13 (fun w hw => ?_)
  have e1 : zMarks i.toNatClampNeg &&& 255 = z := (Option.some.inj hz).symm
  have e2 : (z.toUInt32 % 65536).toInt32 = w := (Option.some.inj hw).symm
  obtain ⟨g1, g2⟩ := zj_marks _ h1
  rw [e1, e2] at g1 g2
  rw [← g2]
  exact zr_creturn C hr g1 (Nat.le_of_ble_eq_true rfl) (Nat.le_of_ble_eq_true rfl) dJ1_charAt_3b067_14
set_option maxHeartbeats 4000000 in
theorem cj_isl (l : Launch) (E : zE) (h : zH) : Met l yJ0_isLatin1_aae02 (zw yJ0_isLatin1_aae02 cJ0_isLatin1_aae02 1 (some .boolean)) ({ frames := 0, cells := 0, slots := 0, locals := 0 } : Room) (zPc E h [.ref (zad E 2)]) (zQc E h (some (.int 1))) 0 0 (zfr E) := by
  refine zmet (lo := [(0, .ref (zad E 2))]) (by decide +kernel) (Nat.le_of_ble_eq_true rfl) rfl ?_
  intro p e s m args below meth c C hr hin
  have hS := C.2.2.2.2.2.1.2.2.2.2.2.1
  refine zr_gz C hS.2.2.2.2.2.2.2.2.1 zj_f38 dJ0_isLatin1_aae02_0 ?_
  refine zr_if_eq (β := Unit) (res := ()) (k1 := none) (k2 := some ()) (tgt := 17) C (if_neg (by decide)) dJ0_isLatin1_aae02_3 (by decide) (fun hf => nomatch hf) (fun _ => ?_)
  refine zr_aload_n C dJ0_isLatin1_aae02_6 rfl 0 rfl ?_
  refine zr_gof C hS.2.2.2.2.2.1 zj_f15 dJ0_isLatin1_aae02_7 ?_
  refine zr_if_ne (β := Unit) (res := ()) (k1 := some ()) (k2 := none) (tgt := 17) C (if_pos rfl) dJ0_isLatin1_aae02_10 (by decide) (fun hf => nomatch hf) (fun _ => ?_)
  refine zr_iconst (v := 1) C dJ0_isLatin1_aae02_13 (by decide) ?_
  refine zr_goto (tgt := 18) C dJ0_isLatin1_aae02_14 (by decide) ?_
  exact zr_zreturn (res := (1, h)) C rfl hr (Nat.le_of_ble_eq_true rfl) (Nat.le_of_ble_eq_true rfl) dJ0_isLatin1_aae02_18
theorem zstrecv {E : zE} {h : zH} {H : Heap} {s : State} (hR : zRep E h H) (hK : zK E s) : ∃ cellB : Cell, H[zad E 2]? = some cellB ∧ cellB.vm.isStatics = false ∧ s.vm.findClass "java/lang/String" = some cellB.cls := by
  obtain ⟨cell, h1, h2, h3, -⟩ := hK.2.2.2.2.2.1.2.2.2.2.1.kept (zkept hR)
  exact ⟨cell, h1, h2, h3⟩
theorem zj_lb : zLs RJ0 492 yJ0_isLatin1_aae02 cJ0_isLatin1_aae02 1 (some .boolean) 0 := ⟨zj_ml_b, zj_iS, zj_code_J0_isLatin1_aae02, by decide +kernel, by decide +kernel, by decide +kernel⟩
theorem zj_la : zLs RX1 19 yJ0_charAt_5068e cJ0_charAt_5068e 2 (some .char) 1 := ⟨zj_ml_a, zj_iS, zj_code_J0_charAt_5068e, by decide +kernel, by decide +kernel, by decide +kernel⟩
set_option maxHeartbeats 4000000 in
theorem cj_chr (l : Launch) (E : zE) (h : zH) (i : Int32) (h0 : ¬ i < 0) (h1 : i.toNatClampNeg < 5) : Met l yJ0_charAt_5068e (zw yJ0_charAt_5068e cJ0_charAt_5068e 2 (some .char)) ({ frames := 3, cells := 0, slots := 0, locals := 64 } : Room) (zPc E h [.ref (zad E 2), .int i]) (zQc E h (some (.int (zMarks i.toNatClampNeg)))) 0 0 (zfr E) := by
  refine zmet (lo := [(0, .ref (zad E 2)), (1, .int i)]) (by decide +kernel) (Nat.le_of_ble_eq_true rfl) rfl ?_
  intro p e s m args below meth c C hr hin
  have hS := C.2.2.2.2.2.1.2.2.2.2.2.1
  refine zr_aload_n C dJ0_charAt_5068e_0 rfl 0 rfl ?_
  intro H locs ls hRp hL hlo
  have hp := zpre (s := s) (av := [.ref (zad E 2)]) hRp C.2.2.2.2.2.1
  refine zgo (va_runV (As := []) (rest := []) (C := "java/lang/String") (zfix C) (cj_isl l E h) ⟨zcb C.2.2.2.2.1 zj_lb ⟨rfl, rfl⟩ ⟨Nat.le_of_ble_eq_true rfl, Nat.le_of_ble_eq_true rfl⟩, C.2.2.2.2.1 _ zj_in_b, C.2.2.2.2.1 _ zj_se_b⟩ ⟨hp.1, zstrecv hRp C.2.2.2.2.2.1, hp.2⟩ rfl rfl hlo.1 rfl (lv_room (Nat.le_of_ble_eq_true rfl)) dJ0_charAt_5068e_1 ⟨Nat.le_of_ble_eq_true rfl, Nat.le_of_ble_eq_true rfl⟩) hL hlo ?_
  refine zr_if_eq (β := Unit) (res := ()) (k1 := none) (k2 := some ()) (tgt := 16) C (if_neg (by decide)) dJ0_charAt_5068e_4 (by decide) (fun hf => nomatch hf) (fun _ => ?_)
  refine zr_aload_n C dJ0_charAt_5068e_7 rfl 0 rfl ?_
  refine zr_gof C hS.2.2.2.2.2.2.1 zj_f9 dJ0_charAt_5068e_8 ?_
  refine zr_iload_n C dJ0_charAt_5068e_11 rfl 1 rfl ?_
  refine zr_callS (β := Int32 × zH) (res := (zMarks i.toNatClampNeg, h)) (f := some (zMarks i.toNatClampNeg, h)) (k := fun r h' => some (r, h')) (As := [.ref (zad E 3), .int i]) (rest := []) (rv := fun r => some (.int r)) C rfl (fun x hx => by cases hx; exact cj_lat l E h i h0 h1) zj_c rfl rfl (Nat.le_of_ble_eq_true rfl) ⟨rfl, rfl⟩ ⟨Nat.le_of_ble_eq_true rfl, Nat.le_of_ble_eq_true rfl⟩ ⟨Nat.le_of_ble_eq_true rfl, Nat.le_of_ble_eq_true rfl⟩ dJ0_charAt_5068e_12 (fun r h' hf => ?_)
  cases hf
  exact zr_creturn C hr ((by decide +kernel : ∀ j, j < 5 → narrow .char (.int (zMarks j)) = .int (zMarks j)) _ h1) (Nat.le_of_ble_eq_true rfl) (Nat.le_of_ble_eq_true rfl) dJ0_charAt_5068e_15
section ZR15
variable {p : Program} {l : Launch} {e : Env} {R : Room} {s : State} {m : MethodId} {args : Array Value} {below : List Frame} {meth : Method} {c : Code} {E : zE} {nL : Nat} {Q : State → Prop} {cells slots pc : Nat} {lo : List (Nat × Value)} {st : List Value} {h : zH} {cc : ByteArray} {own : String} {β : Type} {res : β}
theorem zr_charAt (C : zC p s m args meth c cc nL RX1 E) {i : Int32} {k : Int32 → Option β} (hf : zst zMarks 5 i k = some res) (hro : (st.map fun v => v.category).sum ≤ 8) (hR : 4 ≤ R.frames ∧ 85 ≤ R.locals) (hfc : cells ≤ R.cells ∧ slots ≤ R.slots) (hdg : decode cc pc = .ok (.invokevirtual 19, 3)) (kk : ∀ x : Int32, k x = some res → zW p l e R s m args below meth c E nL Q cells slots (pc + 3) lo (.int x :: st) h) : zW p l e R s m args below meth c E nL Q cells slots pc lo (.int i :: .ref (zad E 2) :: st) h := by
  obtain ⟨⟨h0, h1⟩, hf⟩ := zif hf
  intro H locs ls hRp hL hlo
  have hp := zpre (s := s) (av := [.ref (zad E 2), .int i]) hRp C.2.2.2.2.2.1
  exact zgo (va_runV (As := [.int i]) (rest := st) (C := "java/lang/String") (zfix C) (cj_chr l E h i h0 h1) ⟨zcb C.2.2.2.2.1 zj_la ⟨rfl, rfl⟩ ⟨hR.1, by show 8 + (2 + 11) + 64 ≤ _; omega⟩, C.2.2.2.2.1 _ zj_in_a, C.2.2.2.2.1 _ zj_se_a⟩ ⟨hp.1, zstrecv hRp C.2.2.2.2.2.1, hp.2⟩ rfl rfl hlo.1 rfl (lv_room hro) hdg ⟨hfc.1, hfc.2⟩) hL hlo (kk _ hf)
end ZR15

