-- ===== PART A: goes FIRST, ahead of the names: the tables' words, and 'selects' of the private methods out of them =====
/-- a private method of a class that the tables say can be made, by its rows of tables_1 -/
def lw_okq (q : MethodName × Nat) : Prop := (q.1.cls ≠ "java/lang/invoke/MethodHandle" ∧ q.1.cls ≠ "java/lang/invoke/VarHandle") ∧ Cond.instantiable q.1.cls q.2 ∈ tables_1 ∧ Cond.privateMethod q.1 ∈ tables_1 ∧ Cond.instanceMethod q.1 ∈ tables_1
theorem lw_p0 : lw_okq (⟨"LeavesInCups$River", "takesFirstDigit", "(I)Z"⟩, 6) := ⟨⟨by decide +kernel, by decide +kernel⟩, List.mem_of_getElem? (i := 77) (by decide +kernel), List.mem_of_getElem? (i := 384) (by decide +kernel), List.mem_of_getElem? (i := 385) (by decide +kernel)⟩
theorem lw_p1 : lw_okq (⟨"LeavesInCups$River", "takesMore", "(I)Z"⟩, 6) := ⟨⟨by decide +kernel, by decide +kernel⟩, List.mem_of_getElem? (i := 77) (by decide +kernel), List.mem_of_getElem? (i := 388) (by decide +kernel), List.mem_of_getElem? (i := 389) (by decide +kernel)⟩
theorem lw_p2 : lw_okq (⟨"LeavesInCups$Row", "takesDoing", "(I)Z"⟩, 4) := ⟨⟨by decide +kernel, by decide +kernel⟩, List.mem_of_getElem? (i := 108) (by decide +kernel), List.mem_of_getElem? (i := 402) (by decide +kernel), List.mem_of_getElem? (i := 403) (by decide +kernel)⟩
theorem lw_p3 : lw_okq (⟨"LeavesInCups$Row", "takesFirstDigit", "(I)Z"⟩, 4) := ⟨⟨by decide +kernel, by decide +kernel⟩, List.mem_of_getElem? (i := 108) (by decide +kernel), List.mem_of_getElem? (i := 406) (by decide +kernel), List.mem_of_getElem? (i := 407) (by decide +kernel)⟩
theorem lw_p4 : lw_okq (⟨"LeavesInCups$Row", "takesMore", "(I)Z"⟩, 4) := ⟨⟨by decide +kernel, by decide +kernel⟩, List.mem_of_getElem? (i := 108) (by decide +kernel), List.mem_of_getElem? (i := 410) (by decide +kernel), List.mem_of_getElem? (i := 411) (by decide +kernel)⟩
theorem lw_p5 : lw_okq (⟨"LeavesInCups", "hasCup", "()Z"⟩, 20) := ⟨⟨by decide +kernel, by decide +kernel⟩, List.mem_of_getElem? (i := 19) (by decide +kernel), List.mem_of_getElem? (i := 466) (by decide +kernel), List.mem_of_getElem? (i := 467) (by decide +kernel)⟩
theorem lw_p6 : lw_okq (⟨"LeavesInCups", "hasDoing", "(I)Z"⟩, 20) := ⟨⟨by decide +kernel, by decide +kernel⟩, List.mem_of_getElem? (i := 19) (by decide +kernel), List.mem_of_getElem? (i := 484) (by decide +kernel), List.mem_of_getElem? (i := 485) (by decide +kernel)⟩
theorem lw_p7 : lw_okq (⟨"LeavesInCups", "doingOrRest", "(I)LLeavesInCups$Doing;"⟩, 20) := ⟨⟨by decide +kernel, by decide +kernel⟩, List.mem_of_getElem? (i := 19) (by decide +kernel), List.mem_of_getElem? (i := 488) (by decide +kernel), List.mem_of_getElem? (i := 489) (by decide +kernel)⟩
theorem lw_p8 : lw_okq (⟨"LeavesInCups$Brew", "move", "(LLeavesInCups$Cup;LLeavesInCups$Doing;)V"⟩, 2) := ⟨⟨by decide +kernel, by decide +kernel⟩, List.mem_of_getElem? (i := 163) (by decide +kernel), List.mem_of_getElem? (i := 541) (by decide +kernel), List.mem_of_getElem? (i := 542) (by decide +kernel)⟩
theorem lw_p9 : lw_okq (⟨"LeavesInCups$Brew", "slow", "(LLeavesInCups$Cup;I)V"⟩, 2) := ⟨⟨by decide +kernel, by decide +kernel⟩, List.mem_of_getElem? (i := 163) (by decide +kernel), List.mem_of_getElem? (i := 560) (by decide +kernel), List.mem_of_getElem? (i := 561) (by decide +kernel)⟩
theorem lw_p10 : lw_okq (⟨"LeavesInCups$Brew", "blend", "(LLeavesInCups$Cup;)V"⟩, 2) := ⟨⟨by decide +kernel, by decide +kernel⟩, List.mem_of_getElem? (i := 163) (by decide +kernel), List.mem_of_getElem? (i := 576) (by decide +kernel), List.mem_of_getElem? (i := 577) (by decide +kernel)⟩
theorem lw_p11 : lw_okq (⟨"LeavesInCups$Brew", "pullAll", "(LLeavesInCups$Cup;LLeavesInCups$Leaves;)V"⟩, 2) := ⟨⟨by decide +kernel, by decide +kernel⟩, List.mem_of_getElem? (i := 163) (by decide +kernel), List.mem_of_getElem? (i := 584) (by decide +kernel), List.mem_of_getElem? (i := 585) (by decide +kernel)⟩
theorem lw_p12 : lw_okq (⟨"LeavesInCups", "hasRow", "(I)Z"⟩, 20) := ⟨⟨by decide +kernel, by decide +kernel⟩, List.mem_of_getElem? (i := 19) (by decide +kernel), List.mem_of_getElem? (i := 615) (by decide +kernel), List.mem_of_getElem? (i := 616) (by decide +kernel)⟩
theorem lw_p13 : lw_okq (⟨"LeavesInCups", "tryRow", "(LLeavesInCups$Row;LLeavesInCups$Leaves;)V"⟩, 20) := ⟨⟨by decide +kernel, by decide +kernel⟩, List.mem_of_getElem? (i := 19) (by decide +kernel), List.mem_of_getElem? (i := 619) (by decide +kernel), List.mem_of_getElem? (i := 620) (by decide +kernel)⟩
theorem lw_p14 : lw_okq (⟨"LeavesInCups", "offInTrial", "()I"⟩, 20) := ⟨⟨by decide +kernel, by decide +kernel⟩, List.mem_of_getElem? (i := 19) (by decide +kernel), List.mem_of_getElem? (i := 639) (by decide +kernel), List.mem_of_getElem? (i := 640) (by decide +kernel)⟩
theorem lw_p15 : lw_okq (⟨"LeavesInCups", "offOfStirring", "(LLeavesInCups$Doing;I)I"⟩, 20) := ⟨⟨by decide +kernel, by decide +kernel⟩, List.mem_of_getElem? (i := 19) (by decide +kernel), List.mem_of_getElem? (i := 655) (by decide +kernel), List.mem_of_getElem? (i := 656) (by decide +kernel)⟩
def lw_privs_1 : List (MethodName × Nat) := [(⟨"LeavesInCups$River", "takesFirstDigit", "(I)Z"⟩, 6), (⟨"LeavesInCups$River", "takesMore", "(I)Z"⟩, 6), (⟨"LeavesInCups$Row", "takesDoing", "(I)Z"⟩, 4), (⟨"LeavesInCups$Row", "takesFirstDigit", "(I)Z"⟩, 4), (⟨"LeavesInCups$Row", "takesMore", "(I)Z"⟩, 4), (⟨"LeavesInCups", "hasCup", "()Z"⟩, 20), (⟨"LeavesInCups", "hasDoing", "(I)Z"⟩, 20), (⟨"LeavesInCups", "doingOrRest", "(I)LLeavesInCups$Doing;"⟩, 20), (⟨"LeavesInCups$Brew", "move", "(LLeavesInCups$Cup;LLeavesInCups$Doing;)V"⟩, 2), (⟨"LeavesInCups$Brew", "slow", "(LLeavesInCups$Cup;I)V"⟩, 2), (⟨"LeavesInCups$Brew", "blend", "(LLeavesInCups$Cup;)V"⟩, 2), (⟨"LeavesInCups$Brew", "pullAll", "(LLeavesInCups$Cup;LLeavesInCups$Leaves;)V"⟩, 2), (⟨"LeavesInCups", "hasRow", "(I)Z"⟩, 20), (⟨"LeavesInCups", "tryRow", "(LLeavesInCups$Row;LLeavesInCups$Leaves;)V"⟩, 20), (⟨"LeavesInCups", "offInTrial", "()I"⟩, 20), (⟨"LeavesInCups", "offOfStirring", "(LLeavesInCups$Doing;I)I"⟩, 20)]
theorem lw_r1 : ∀ q ∈ lw_privs_1, lw_okq q := List.forall_mem_cons.mpr ⟨lw_p0, List.forall_mem_cons.mpr ⟨lw_p1, List.forall_mem_cons.mpr ⟨lw_p2, List.forall_mem_cons.mpr ⟨lw_p3, List.forall_mem_cons.mpr ⟨lw_p4, List.forall_mem_cons.mpr ⟨lw_p5, List.forall_mem_cons.mpr ⟨lw_p6, List.forall_mem_cons.mpr ⟨lw_p7, List.forall_mem_cons.mpr ⟨lw_p8, List.forall_mem_cons.mpr ⟨lw_p9, List.forall_mem_cons.mpr ⟨lw_p10, List.forall_mem_cons.mpr ⟨lw_p11, List.forall_mem_cons.mpr ⟨lw_p12, List.forall_mem_cons.mpr ⟨lw_p13, List.forall_mem_cons.mpr ⟨lw_p14, List.forall_mem_cons.mpr ⟨lw_p15, fun _ h => absurd h List.not_mem_nil⟩⟩⟩⟩⟩⟩⟩⟩⟩⟩⟩⟩⟩⟩⟩⟩
theorem lw_p16 : lw_okq (⟨"LeavesInCups", "isTrialAsSeen", "()Z"⟩, 20) := ⟨⟨by decide +kernel, by decide +kernel⟩, List.mem_of_getElem? (i := 19) (by decide +kernel), List.mem_of_getElem? (i := 667) (by decide +kernel), List.mem_of_getElem? (i := 668) (by decide +kernel)⟩
theorem lw_p17 : lw_okq (⟨"LeavesInCups", "ringsInTrial", "()I"⟩, 20) := ⟨⟨by decide +kernel, by decide +kernel⟩, List.mem_of_getElem? (i := 19) (by decide +kernel), List.mem_of_getElem? (i := 675) (by decide +kernel), List.mem_of_getElem? (i := 676) (by decide +kernel)⟩
theorem lw_p18 : lw_okq (⟨"LeavesInCups$River", "isOverNeck", "(II)Z"⟩, 6) := ⟨⟨by decide +kernel, by decide +kernel⟩, List.mem_of_getElem? (i := 77) (by decide +kernel), List.mem_of_getElem? (i := 741) (by decide +kernel), List.mem_of_getElem? (i := 742) (by decide +kernel)⟩
theorem lw_p19 : lw_okq (⟨"LeavesInCups", "hasRiver", "()Z"⟩, 20) := ⟨⟨by decide +kernel, by decide +kernel⟩, List.mem_of_getElem? (i := 19) (by decide +kernel), List.mem_of_getElem? (i := 749) (by decide +kernel), List.mem_of_getElem? (i := 750) (by decide +kernel)⟩
theorem lw_p20 : lw_okq (⟨"LeavesInCups", "withCup", "(J)J"⟩, 20) := ⟨⟨by decide +kernel, by decide +kernel⟩, List.mem_of_getElem? (i := 19) (by decide +kernel), List.mem_of_getElem? (i := 800) (by decide +kernel), List.mem_of_getElem? (i := 801) (by decide +kernel)⟩
theorem lw_p21 : lw_okq (⟨"LeavesInCups", "withDoings", "(J)J"⟩, 20) := ⟨⟨by decide +kernel, by decide +kernel⟩, List.mem_of_getElem? (i := 19) (by decide +kernel), List.mem_of_getElem? (i := 805) (by decide +kernel), List.mem_of_getElem? (i := 806) (by decide +kernel)⟩
theorem lw_p22 : lw_okq (⟨"LeavesInCups", "withLeaves", "(J)J"⟩, 20) := ⟨⟨by decide +kernel, by decide +kernel⟩, List.mem_of_getElem? (i := 19) (by decide +kernel), List.mem_of_getElem? (i := 809) (by decide +kernel), List.mem_of_getElem? (i := 810) (by decide +kernel)⟩
theorem lw_p23 : lw_okq (⟨"LeavesInCups", "withRows", "(J)J"⟩, 20) := ⟨⟨by decide +kernel, by decide +kernel⟩, List.mem_of_getElem? (i := 19) (by decide +kernel), List.mem_of_getElem? (i := 814) (by decide +kernel), List.mem_of_getElem? (i := 815) (by decide +kernel)⟩
theorem lw_p24 : lw_okq (⟨"LeavesInCups", "withPictures", "(J)J"⟩, 20) := ⟨⟨by decide +kernel, by decide +kernel⟩, List.mem_of_getElem? (i := 19) (by decide +kernel), List.mem_of_getElem? (i := 818) (by decide +kernel), List.mem_of_getElem? (i := 819) (by decide +kernel)⟩
theorem lw_p25 : lw_okq (⟨"LeavesInCups", "withRiver", "(J)J"⟩, 20) := ⟨⟨by decide +kernel, by decide +kernel⟩, List.mem_of_getElem? (i := 19) (by decide +kernel), List.mem_of_getElem? (i := 822) (by decide +kernel), List.mem_of_getElem? (i := 823) (by decide +kernel)⟩
theorem lw_p26 : lw_okq (⟨"LeavesInCupsModel", "readPage", "(I)V"⟩, 51) := ⟨⟨by decide +kernel, by decide +kernel⟩, List.mem_of_getElem? (i := 827) (by decide +kernel), List.mem_of_getElem? (i := 1003) (by decide +kernel), List.mem_of_getElem? (i := 1004) (by decide +kernel)⟩
theorem lw_p27 : lw_okq (⟨"LeavesInCupsModel", "nextCup", "(II)I"⟩, 51) := ⟨⟨by decide +kernel, by decide +kernel⟩, List.mem_of_getElem? (i := 827) (by decide +kernel), List.mem_of_getElem? (i := 1007) (by decide +kernel), List.mem_of_getElem? (i := 1008) (by decide +kernel)⟩
theorem lw_p28 : lw_okq (⟨"LeavesInCupsModel", "nextRow", "(II)I"⟩, 51) := ⟨⟨by decide +kernel, by decide +kernel⟩, List.mem_of_getElem? (i := 827) (by decide +kernel), List.mem_of_getElem? (i := 1011) (by decide +kernel), List.mem_of_getElem? (i := 1012) (by decide +kernel)⟩
theorem lw_p29 : lw_okq (⟨"LeavesInCupsModel", "nextRiver", "(II)I"⟩, 51) := ⟨⟨by decide +kernel, by decide +kernel⟩, List.mem_of_getElem? (i := 827) (by decide +kernel), List.mem_of_getElem? (i := 1018) (by decide +kernel), List.mem_of_getElem? (i := 1019) (by decide +kernel)⟩
theorem lw_p30 : lw_okq (⟨"LeavesInCupsModel", "isDoing", "(I)Z"⟩, 51) := ⟨⟨by decide +kernel, by decide +kernel⟩, List.mem_of_getElem? (i := 827) (by decide +kernel), List.mem_of_getElem? (i := 1046) (by decide +kernel), List.mem_of_getElem? (i := 1047) (by decide +kernel)⟩
theorem lw_p31 : lw_okq (⟨"LeavesInCupsModel", "isRing", "(I)Z"⟩, 51) := ⟨⟨by decide +kernel, by decide +kernel⟩, List.mem_of_getElem? (i := 827) (by decide +kernel), List.mem_of_getElem? (i := 1054) (by decide +kernel), List.mem_of_getElem? (i := 1055) (by decide +kernel)⟩
def lw_privs_2 : List (MethodName × Nat) := [(⟨"LeavesInCups", "isTrialAsSeen", "()Z"⟩, 20), (⟨"LeavesInCups", "ringsInTrial", "()I"⟩, 20), (⟨"LeavesInCups$River", "isOverNeck", "(II)Z"⟩, 6), (⟨"LeavesInCups", "hasRiver", "()Z"⟩, 20), (⟨"LeavesInCups", "withCup", "(J)J"⟩, 20), (⟨"LeavesInCups", "withDoings", "(J)J"⟩, 20), (⟨"LeavesInCups", "withLeaves", "(J)J"⟩, 20), (⟨"LeavesInCups", "withRows", "(J)J"⟩, 20), (⟨"LeavesInCups", "withPictures", "(J)J"⟩, 20), (⟨"LeavesInCups", "withRiver", "(J)J"⟩, 20), (⟨"LeavesInCupsModel", "readPage", "(I)V"⟩, 51), (⟨"LeavesInCupsModel", "nextCup", "(II)I"⟩, 51), (⟨"LeavesInCupsModel", "nextRow", "(II)I"⟩, 51), (⟨"LeavesInCupsModel", "nextRiver", "(II)I"⟩, 51), (⟨"LeavesInCupsModel", "isDoing", "(I)Z"⟩, 51), (⟨"LeavesInCupsModel", "isRing", "(I)Z"⟩, 51)]
theorem lw_r2 : ∀ q ∈ lw_privs_2, lw_okq q := List.forall_mem_cons.mpr ⟨lw_p16, List.forall_mem_cons.mpr ⟨lw_p17, List.forall_mem_cons.mpr ⟨lw_p18, List.forall_mem_cons.mpr ⟨lw_p19, List.forall_mem_cons.mpr ⟨lw_p20, List.forall_mem_cons.mpr ⟨lw_p21, List.forall_mem_cons.mpr ⟨lw_p22, List.forall_mem_cons.mpr ⟨lw_p23, List.forall_mem_cons.mpr ⟨lw_p24, List.forall_mem_cons.mpr ⟨lw_p25, List.forall_mem_cons.mpr ⟨lw_p26, List.forall_mem_cons.mpr ⟨lw_p27, List.forall_mem_cons.mpr ⟨lw_p28, List.forall_mem_cons.mpr ⟨lw_p29, List.forall_mem_cons.mpr ⟨lw_p30, List.forall_mem_cons.mpr ⟨lw_p31, fun _ h => absurd h List.not_mem_nil⟩⟩⟩⟩⟩⟩⟩⟩⟩⟩⟩⟩⟩⟩⟩⟩
theorem lw_p32 : lw_okq (⟨"LeavesInCupsModel", "isLeaf", "(I)Z"⟩, 51) := ⟨⟨by decide +kernel, by decide +kernel⟩, List.mem_of_getElem? (i := 827) (by decide +kernel), List.mem_of_getElem? (i := 1062) (by decide +kernel), List.mem_of_getElem? (i := 1063) (by decide +kernel)⟩
theorem lw_p33 : lw_okq (⟨"LeavesInCupsModel", "leafTold", "(II)I"⟩, 51) := ⟨⟨by decide +kernel, by decide +kernel⟩, List.mem_of_getElem? (i := 827) (by decide +kernel), List.mem_of_getElem? (i := 1066) (by decide +kernel), List.mem_of_getElem? (i := 1067) (by decide +kernel)⟩
theorem lw_p34 : lw_okq (⟨"LeavesInCupsModel", "loadLive", "()V"⟩, 51) := ⟨⟨by decide +kernel, by decide +kernel⟩, List.mem_of_getElem? (i := 827) (by decide +kernel), List.mem_of_getElem? (i := 1070) (by decide +kernel), List.mem_of_getElem? (i := 1071) (by decide +kernel)⟩
theorem lw_p35 : lw_okq (⟨"LeavesInCupsModel", "pullNow", "(II)I"⟩, 51) := ⟨⟨by decide +kernel, by decide +kernel⟩, List.mem_of_getElem? (i := 827) (by decide +kernel), List.mem_of_getElem? (i := 1074) (by decide +kernel), List.mem_of_getElem? (i := 1075) (by decide +kernel)⟩
theorem lw_p36 : lw_okq (⟨"LeavesInCupsModel", "secondNow", "(I)I"⟩, 51) := ⟨⟨by decide +kernel, by decide +kernel⟩, List.mem_of_getElem? (i := 827) (by decide +kernel), List.mem_of_getElem? (i := 1078) (by decide +kernel), List.mem_of_getElem? (i := 1079) (by decide +kernel)⟩
theorem lw_p37 : lw_okq (⟨"LeavesInCupsModel", "goAll", "(III)V"⟩, 51) := ⟨⟨by decide +kernel, by decide +kernel⟩, List.mem_of_getElem? (i := 827) (by decide +kernel), List.mem_of_getElem? (i := 1086) (by decide +kernel), List.mem_of_getElem? (i := 1087) (by decide +kernel)⟩
theorem lw_p38 : lw_okq (⟨"LeavesInCupsModel", "goTick", "(II)V"⟩, 51) := ⟨⟨by decide +kernel, by decide +kernel⟩, List.mem_of_getElem? (i := 827) (by decide +kernel), List.mem_of_getElem? (i := 1090) (by decide +kernel), List.mem_of_getElem? (i := 1091) (by decide +kernel)⟩
theorem lw_p39 : lw_okq (⟨"LeavesInCupsModel", "stir", "(II)V"⟩, 51) := ⟨⟨by decide +kernel, by decide +kernel⟩, List.mem_of_getElem? (i := 827) (by decide +kernel), List.mem_of_getElem? (i := 1094) (by decide +kernel), List.mem_of_getElem? (i := 1095) (by decide +kernel)⟩
theorem lw_p40 : lw_okq (⟨"LeavesInCupsModel", "bounded", "(I)I"⟩, 51) := ⟨⟨by decide +kernel, by decide +kernel⟩, List.mem_of_getElem? (i := 827) (by decide +kernel), List.mem_of_getElem? (i := 1098) (by decide +kernel), List.mem_of_getElem? (i := 1099) (by decide +kernel)⟩
theorem lw_p41 : lw_okq (⟨"LeavesInCupsModel", "dragTo", "(III)V"⟩, 51) := ⟨⟨by decide +kernel, by decide +kernel⟩, List.mem_of_getElem? (i := 827) (by decide +kernel), List.mem_of_getElem? (i := 1102) (by decide +kernel), List.mem_of_getElem? (i := 1103) (by decide +kernel)⟩
theorem lw_p42 : lw_okq (⟨"LeavesInCupsModel", "moved", "(III)I"⟩, 51) := ⟨⟨by decide +kernel, by decide +kernel⟩, List.mem_of_getElem? (i := 827) (by decide +kernel), List.mem_of_getElem? (i := 1106) (by decide +kernel), List.mem_of_getElem? (i := 1107) (by decide +kernel)⟩
theorem lw_p43 : lw_okq (⟨"LeavesInCupsModel", "loadStill", "()V"⟩, 51) := ⟨⟨by decide +kernel, by decide +kernel⟩, List.mem_of_getElem? (i := 827) (by decide +kernel), List.mem_of_getElem? (i := 1126) (by decide +kernel), List.mem_of_getElem? (i := 1127) (by decide +kernel)⟩
theorem lw_p44 : lw_okq (⟨"LeavesInCupsModel", "isRow", "(I)Z"⟩, 51) := ⟨⟨by decide +kernel, by decide +kernel⟩, List.mem_of_getElem? (i := 827) (by decide +kernel), List.mem_of_getElem? (i := 1134) (by decide +kernel), List.mem_of_getElem? (i := 1135) (by decide +kernel)⟩
theorem lw_p45 : lw_okq (⟨"LeavesInCupsModel", "layRow", "(I)V"⟩, 51) := ⟨⟨by decide +kernel, by decide +kernel⟩, List.mem_of_getElem? (i := 827) (by decide +kernel), List.mem_of_getElem? (i := 1138) (by decide +kernel), List.mem_of_getElem? (i := 1139) (by decide +kernel)⟩
theorem lw_p46 : lw_okq (⟨"LeavesInCupsModel", "begin", "()V"⟩, 51) := ⟨⟨by decide +kernel, by decide +kernel⟩, List.mem_of_getElem? (i := 827) (by decide +kernel), List.mem_of_getElem? (i := 1142) (by decide +kernel), List.mem_of_getElem? (i := 1143) (by decide +kernel)⟩
theorem lw_p47 : lw_okq (⟨"LeavesInCupsModel", "itemKind", "(I)I"⟩, 51) := ⟨⟨by decide +kernel, by decide +kernel⟩, List.mem_of_getElem? (i := 827) (by decide +kernel), List.mem_of_getElem? (i := 1146) (by decide +kernel), List.mem_of_getElem? (i := 1147) (by decide +kernel)⟩
def lw_privs_3 : List (MethodName × Nat) := [(⟨"LeavesInCupsModel", "isLeaf", "(I)Z"⟩, 51), (⟨"LeavesInCupsModel", "leafTold", "(II)I"⟩, 51), (⟨"LeavesInCupsModel", "loadLive", "()V"⟩, 51), (⟨"LeavesInCupsModel", "pullNow", "(II)I"⟩, 51), (⟨"LeavesInCupsModel", "secondNow", "(I)I"⟩, 51), (⟨"LeavesInCupsModel", "goAll", "(III)V"⟩, 51), (⟨"LeavesInCupsModel", "goTick", "(II)V"⟩, 51), (⟨"LeavesInCupsModel", "stir", "(II)V"⟩, 51), (⟨"LeavesInCupsModel", "bounded", "(I)I"⟩, 51), (⟨"LeavesInCupsModel", "dragTo", "(III)V"⟩, 51), (⟨"LeavesInCupsModel", "moved", "(III)I"⟩, 51), (⟨"LeavesInCupsModel", "loadStill", "()V"⟩, 51), (⟨"LeavesInCupsModel", "isRow", "(I)Z"⟩, 51), (⟨"LeavesInCupsModel", "layRow", "(I)V"⟩, 51), (⟨"LeavesInCupsModel", "begin", "()V"⟩, 51), (⟨"LeavesInCupsModel", "itemKind", "(I)I"⟩, 51)]
theorem lw_r3 : ∀ q ∈ lw_privs_3, lw_okq q := List.forall_mem_cons.mpr ⟨lw_p32, List.forall_mem_cons.mpr ⟨lw_p33, List.forall_mem_cons.mpr ⟨lw_p34, List.forall_mem_cons.mpr ⟨lw_p35, List.forall_mem_cons.mpr ⟨lw_p36, List.forall_mem_cons.mpr ⟨lw_p37, List.forall_mem_cons.mpr ⟨lw_p38, List.forall_mem_cons.mpr ⟨lw_p39, List.forall_mem_cons.mpr ⟨lw_p40, List.forall_mem_cons.mpr ⟨lw_p41, List.forall_mem_cons.mpr ⟨lw_p42, List.forall_mem_cons.mpr ⟨lw_p43, List.forall_mem_cons.mpr ⟨lw_p44, List.forall_mem_cons.mpr ⟨lw_p45, List.forall_mem_cons.mpr ⟨lw_p46, List.forall_mem_cons.mpr ⟨lw_p47, fun _ h => absurd h List.not_mem_nil⟩⟩⟩⟩⟩⟩⟩⟩⟩⟩⟩⟩⟩⟩⟩⟩
theorem lw_p48 : lw_okq (⟨"LeavesInCupsModel", "itemNumber", "(I)I"⟩, 51) := ⟨⟨by decide +kernel, by decide +kernel⟩, List.mem_of_getElem? (i := 827) (by decide +kernel), List.mem_of_getElem? (i := 1150) (by decide +kernel), List.mem_of_getElem? (i := 1151) (by decide +kernel)⟩
theorem lw_p49 : lw_okq (⟨"LeavesInCupsModel", "oneEnds", "(IIII)I"⟩, 51) := ⟨⟨by decide +kernel, by decide +kernel⟩, List.mem_of_getElem? (i := 827) (by decide +kernel), List.mem_of_getElem? (i := 1163) (by decide +kernel), List.mem_of_getElem? (i := 1164) (by decide +kernel)⟩
theorem lw_p50 : lw_okq (⟨"LeavesInCupsModel", "offNow", "()I"⟩, 51) := ⟨⟨by decide +kernel, by decide +kernel⟩, List.mem_of_getElem? (i := 827) (by decide +kernel), List.mem_of_getElem? (i := 1175) (by decide +kernel), List.mem_of_getElem? (i := 1176) (by decide +kernel)⟩
theorem lw_p51 : lw_okq (⟨"LeavesInCupsModel", "differentNow", "()I"⟩, 51) := ⟨⟨by decide +kernel, by decide +kernel⟩, List.mem_of_getElem? (i := 827) (by decide +kernel), List.mem_of_getElem? (i := 1199) (by decide +kernel), List.mem_of_getElem? (i := 1200) (by decide +kernel)⟩
theorem lw_p52 : lw_okq (⟨"LeavesInCupsModel", "layYears", "(IIII)V"⟩, 51) := ⟨⟨by decide +kernel, by decide +kernel⟩, List.mem_of_getElem? (i := 827) (by decide +kernel), List.mem_of_getElem? (i := 1222) (by decide +kernel), List.mem_of_getElem? (i := 1223) (by decide +kernel)⟩
theorem lw_p53 : lw_okq (⟨"LeavesInCupsModel", "goYear", "(III)V"⟩, 51) := ⟨⟨by decide +kernel, by decide +kernel⟩, List.mem_of_getElem? (i := 827) (by decide +kernel), List.mem_of_getElem? (i := 1226) (by decide +kernel), List.mem_of_getElem? (i := 1227) (by decide +kernel)⟩
theorem lw_p54 : lw_okq (⟨"LeavesInCupsModel", "layBends", "()V"⟩, 51) := ⟨⟨by decide +kernel, by decide +kernel⟩, List.mem_of_getElem? (i := 827) (by decide +kernel), List.mem_of_getElem? (i := 1230) (by decide +kernel), List.mem_of_getElem? (i := 1231) (by decide +kernel)⟩
theorem lw_p55 : lw_okq (⟨"LeavesInCupsModel", "isFree", "(I)Z"⟩, 51) := ⟨⟨by decide +kernel, by decide +kernel⟩, List.mem_of_getElem? (i := 827) (by decide +kernel), List.mem_of_getElem? (i := 1234) (by decide +kernel), List.mem_of_getElem? (i := 1235) (by decide +kernel)⟩
theorem lw_p56 : lw_okq (⟨"LeavesInCupsModel", "howMany", "(I)I"⟩, 51) := ⟨⟨by decide +kernel, by decide +kernel⟩, List.mem_of_getElem? (i := 827) (by decide +kernel), List.mem_of_getElem? (i := 1262) (by decide +kernel), List.mem_of_getElem? (i := 1263) (by decide +kernel)⟩
theorem lw_p57 : lw_okq (⟨"LeavesInCupsModel", "mixCup", "()V"⟩, 51) := ⟨⟨by decide +kernel, by decide +kernel⟩, List.mem_of_getElem? (i := 827) (by decide +kernel), List.mem_of_getElem? (i := 1271) (by decide +kernel), List.mem_of_getElem? (i := 1272) (by decide +kernel)⟩
theorem lw_p58 : lw_okq (⟨"LeavesInCupsModel", "mix", "(J)V"⟩, 51) := ⟨⟨by decide +kernel, by decide +kernel⟩, List.mem_of_getElem? (i := 827) (by decide +kernel), List.mem_of_getElem? (i := 1275) (by decide +kernel), List.mem_of_getElem? (i := 1276) (by decide +kernel)⟩
theorem lw_p59 : lw_okq (⟨"LeavesInCupsModel", "mixRow", "(I)V"⟩, 51) := ⟨⟨by decide +kernel, by decide +kernel⟩, List.mem_of_getElem? (i := 827) (by decide +kernel), List.mem_of_getElem? (i := 1280) (by decide +kernel), List.mem_of_getElem? (i := 1281) (by decide +kernel)⟩
def lw_privs_4 : List (MethodName × Nat) := [(⟨"LeavesInCupsModel", "itemNumber", "(I)I"⟩, 51), (⟨"LeavesInCupsModel", "oneEnds", "(IIII)I"⟩, 51), (⟨"LeavesInCupsModel", "offNow", "()I"⟩, 51), (⟨"LeavesInCupsModel", "differentNow", "()I"⟩, 51), (⟨"LeavesInCupsModel", "layYears", "(IIII)V"⟩, 51), (⟨"LeavesInCupsModel", "goYear", "(III)V"⟩, 51), (⟨"LeavesInCupsModel", "layBends", "()V"⟩, 51), (⟨"LeavesInCupsModel", "isFree", "(I)Z"⟩, 51), (⟨"LeavesInCupsModel", "howMany", "(I)I"⟩, 51), (⟨"LeavesInCupsModel", "mixCup", "()V"⟩, 51), (⟨"LeavesInCupsModel", "mix", "(J)V"⟩, 51), (⟨"LeavesInCupsModel", "mixRow", "(I)V"⟩, 51)]
theorem lw_r4 : ∀ q ∈ lw_privs_4, lw_okq q := List.forall_mem_cons.mpr ⟨lw_p48, List.forall_mem_cons.mpr ⟨lw_p49, List.forall_mem_cons.mpr ⟨lw_p50, List.forall_mem_cons.mpr ⟨lw_p51, List.forall_mem_cons.mpr ⟨lw_p52, List.forall_mem_cons.mpr ⟨lw_p53, List.forall_mem_cons.mpr ⟨lw_p54, List.forall_mem_cons.mpr ⟨lw_p55, List.forall_mem_cons.mpr ⟨lw_p56, List.forall_mem_cons.mpr ⟨lw_p57, List.forall_mem_cons.mpr ⟨lw_p58, List.forall_mem_cons.mpr ⟨lw_p59, fun _ h => absurd h List.not_mem_nil⟩⟩⟩⟩⟩⟩⟩⟩⟩⟩⟩⟩
def lw_privs : List (MethodName × Nat) := lw_privs_1 ++ (lw_privs_2 ++ (lw_privs_3 ++ (lw_privs_4)))
def lw_tbl : List Cond := k2_sels lw_privs ++ tables_1
theorem lw_privs_ok : ∀ q ∈ lw_privs, lw_okq q := by
  show ∀ q ∈ lw_privs_1 ++ (lw_privs_2 ++ (lw_privs_3 ++ (lw_privs_4))), lw_okq q
  exact List.forall_mem_append.mpr ⟨lw_r1, List.forall_mem_append.mpr ⟨lw_r2, List.forall_mem_append.mpr ⟨lw_r3, lw_r4⟩⟩⟩

def RX0 : String := "LeavesInCups$Brew"
def TX0 : u_T := fun k => match k with
  | 0 => ("LeavesInCups$Brew", "rounds", "[[I", true)
  | _ => ("LeavesInCups$Brew", "lying", "[I", true)
def tyX0 : Nat → FieldType := fun k => match k with
  | 0 => .array (.array .int)
  | _ => .array .int
theorem nmX0 : ∀ a, a < 2 → ∀ b, b < 2 → a ≠ b → (TX0 a).2.1 ≠ (TX0 b).2.1 := by decide +kernel
theorem tyX0_ok : ∀ k, k < 2 → parseFieldDescriptor (TX0 k).2.2.1 = some (tyX0 k) := by decide +kernel
abbrev cX0_init : ByteArray := prog_2_method_1_code
def yX0_init : MethodName := ⟨RX0, "<init>", "()V"⟩
abbrev cX0_calm : ByteArray := prog_2_method_2_code
def yX0_calm : MethodName := ⟨RX0, "calm", "(LLeavesInCups$Leaves;)V"⟩
abbrev cX0_copyFrom : ByteArray := prog_2_method_3_code
def yX0_copyFrom : MethodName := ⟨RX0, "copyFrom", "(LLeavesInCups$Brew;I)V"⟩
abbrev cX0_doTicks : ByteArray := prog_2_method_4_code
def yX0_doTicks : MethodName := ⟨RX0, "doTicks", "(LLeavesInCups$Cup;LLeavesInCups$Leaves;LLeavesInCups$Doing;I)V"⟩
abbrev cX0_move : ByteArray := prog_2_method_5_code
def yX0_move : MethodName := ⟨RX0, "move", "(LLeavesInCups$Cup;LLeavesInCups$Doing;)V"⟩
abbrev cX0_slow : ByteArray := prog_2_method_6_code
def yX0_slow : MethodName := ⟨RX0, "slow", "(LLeavesInCups$Cup;I)V"⟩
abbrev cX0_left : ByteArray := prog_2_method_7_code
def yX0_left : MethodName := ⟨RX0, "left", "(II)I"⟩
abbrev cX0_blend : ByteArray := prog_2_method_8_code
def yX0_blend : MethodName := ⟨RX0, "blend", "(LLeavesInCups$Cup;)V"⟩
abbrev cX0_pullAll : ByteArray := prog_2_method_9_code
def yX0_pullAll : MethodName := ⟨RX0, "pullAll", "(LLeavesInCups$Cup;LLeavesInCups$Leaves;)V"⟩
abbrev cX0_pullOf : ByteArray := prog_2_method_10_code
def yX0_pullOf : MethodName := ⟨RX0, "pullOf", "(LLeavesInCups$Cup;LLeavesInCups$Leaves;I)I"⟩
abbrev cX0_secondTurning : ByteArray := prog_2_method_11_code
def yX0_secondTurning : MethodName := ⟨RX0, "secondTurning", "(II)I"⟩
abbrev cX0_lyingIn : ByteArray := prog_2_method_12_code
def yX0_lyingIn : MethodName := ⟨RX0, "lyingIn", "(ILLeavesInCups$Leaves;)I"⟩
def RX1 : String := "LeavesInCups$Cup"
def TX1 : u_T := fun k => match k with
  | 0 => ("LeavesInCups$Cup", "told", "[I", true)
  | _ => ("LeavesInCups$Cup", "taken", "I", false)
def tyX1 : Nat → FieldType := fun k => match k with
  | 0 => .array .int
  | _ => .int
theorem nmX1 : ∀ a, a < 2 → ∀ b, b < 2 → a ≠ b → (TX1 a).2.1 ≠ (TX1 b).2.1 := by decide +kernel
theorem tyX1_ok : ∀ k, k < 2 → parseFieldDescriptor (TX1 k).2.2.1 = some (tyX1 k) := by decide +kernel
abbrev cX1_init : ByteArray := prog_3_method_1_code
def yX1_init : MethodName := ⟨RX1, "<init>", "()V"⟩
abbrev cX1_begin : ByteArray := prog_3_method_2_code
def yX1_begin : MethodName := ⟨RX1, "begin", "()V"⟩
abbrev cX1_takes : ByteArray := prog_3_method_3_code
def yX1_takes : MethodName := ⟨RX1, "takes", "(I)Z"⟩
abbrev cX1_isWhole : ByteArray := prog_3_method_4_code
def yX1_isWhole : MethodName := ⟨RX1, "isWhole", "()Z"⟩
abbrev cX1_rings : ByteArray := prog_3_method_5_code
def yX1_rings : MethodName := ⟨RX1, "rings", "()I"⟩
abbrev cX1_heights : ByteArray := prog_3_method_6_code
def yX1_heights : MethodName := ⟨RX1, "heights", "()I"⟩
abbrev cX1_floorTenths : ByteArray := prog_3_method_7_code
def yX1_floorTenths : MethodName := ⟨RX1, "floorTenths", "()I"⟩
abbrev cX1_wallTenths : ByteArray := prog_3_method_8_code
def yX1_wallTenths : MethodName := ⟨RX1, "wallTenths", "()I"⟩
abbrev cX1_mixTwentieths : ByteArray := prog_3_method_9_code
def yX1_mixTwentieths : MethodName := ⟨RX1, "mixTwentieths", "()I"⟩
abbrev cX1_hasRing : ByteArray := prog_3_method_10_code
def yX1_hasRing : MethodName := ⟨RX1, "hasRing", "(I)Z"⟩
abbrev cX1_hasHeight : ByteArray := prog_3_method_11_code
def yX1_hasHeight : MethodName := ⟨RX1, "hasHeight", "(I)Z"⟩
def RX2 : String := "LeavesInCups$Doing"
def TX2 : u_T := fun k => match k with
  | 0 => ("LeavesInCups$Doing", "kind", "I", true)
  | _ => ("LeavesInCups$Doing", "n", "I", true)
def tyX2 : Nat → FieldType := fun k => match k with
  | 0 => .int
  | _ => .int
theorem nmX2 : ∀ a, a < 2 → ∀ b, b < 2 → a ≠ b → (TX2 a).2.1 ≠ (TX2 b).2.1 := by decide +kernel
theorem tyX2_ok : ∀ k, k < 2 → parseFieldDescriptor (TX2 k).2.2.1 = some (tyX2 k) := by decide +kernel
abbrev cX2_init : ByteArray := prog_4_method_1_code
def yX2_init : MethodName := ⟨RX2, "<init>", "(II)V"⟩
abbrev cX2_isTold : ByteArray := prog_4_method_2_code
def yX2_isTold : MethodName := ⟨RX2, "isTold", "(II)Z"⟩
abbrev cX2_isA : ByteArray := prog_4_method_3_code
def yX2_isA : MethodName := ⟨RX2, "isA", "(I)Z"⟩
abbrev cX2_push : ByteArray := prog_4_method_4_code
def yX2_push : MethodName := ⟨RX2, "push", "()I"⟩
abbrev cX2_base : ByteArray := prog_4_method_5_code
def yX2_base : MethodName := ⟨RX2, "base", "()I"⟩
def RX3 : String := "LeavesInCups$Image"
def TX3 : u_T := fun k => match k with
  | 0 => ("LeavesInCups$Image", "brew", "LLeavesInCups$Brew;", true)
  | 1 => ("LeavesInCups$Image", "wanted", "[I", true)
  | 2 => ("LeavesInCups$Image", "seen", "[I", true)
  | _ => ("LeavesInCups$Image", "leavesThen", "I", false)
def tyX3 : Nat → FieldType := fun k => match k with
  | 0 => .object "LeavesInCups$Brew"
  | 1 => .array .int
  | 2 => .array .int
  | _ => .int
theorem nmX3 : ∀ a, a < 4 → ∀ b, b < 4 → a ≠ b → (TX3 a).2.1 ≠ (TX3 b).2.1 := by decide +kernel
theorem tyX3_ok : ∀ k, k < 4 → parseFieldDescriptor (TX3 k).2.2.1 = some (tyX3 k) := by decide +kernel
abbrev cX3_init : ByteArray := prog_5_method_1_code
def yX3_init : MethodName := ⟨RX3, "<init>", "()V"⟩
abbrev cX3_isKept : ByteArray := prog_5_method_2_code
def yX3_isKept : MethodName := ⟨RX3, "isKept", "()Z"⟩
abbrev cX3_drop : ByteArray := prog_5_method_3_code
def yX3_drop : MethodName := ⟨RX3, "drop", "()V"⟩
abbrev cX3_keep : ByteArray := prog_5_method_4_code
def yX3_keep : MethodName := ⟨RX3, "keep", "(LLeavesInCups$Brew;[ILLeavesInCups$Leaves;)V"⟩
abbrev cX3_bringBack : ByteArray := prog_5_method_5_code
def yX3_bringBack : MethodName := ⟨RX3, "bringBack", "(LLeavesInCups$Brew;[ILLeavesInCups$Leaves;)V"⟩
def RX4 : String := "LeavesInCups$Leaves"
def TX4 : u_T := fun k => match k with
  | 0 => ("LeavesInCups$Leaves", "told", "[I", true)
  | 1 => ("LeavesInCups$Leaves", "weight", "[I", true)
  | 2 => ("LeavesInCups$Leaves", "stick", "[I", true)
  | 3 => ("LeavesInCups$Leaves", "seen", "[I", true)
  | _ => ("LeavesInCups$Leaves", "many", "I", false)
def tyX4 : Nat → FieldType := fun k => match k with
  | 0 => .array .int
  | 1 => .array .int
  | 2 => .array .int
  | 3 => .array .int
  | _ => .int
theorem nmX4 : ∀ a, a < 5 → ∀ b, b < 5 → a ≠ b → (TX4 a).2.1 ≠ (TX4 b).2.1 := by decide +kernel
theorem tyX4_ok : ∀ k, k < 5 → parseFieldDescriptor (TX4 k).2.2.1 = some (tyX4 k) := by decide +kernel
abbrev cX4_init : ByteArray := prog_6_method_1_code
def yX4_init : MethodName := ⟨RX4, "<init>", "(I)V"⟩
abbrev cX4_has : ByteArray := prog_6_method_2_code
def yX4_has : MethodName := ⟨RX4, "has", "(I)Z"⟩
abbrev cX4_add : ByteArray := prog_6_method_3_code
def yX4_add : MethodName := ⟨RX4, "add", "(III)I"⟩
abbrev cX4_clear : ByteArray := prog_6_method_4_code
def yX4_clear : MethodName := ⟨RX4, "clear", "()V"⟩
def RX5 : String := "LeavesInCups$Page"
def TX5 : u_T := fun k => match k with
  | 0 => ("LeavesInCups$Page", "codes", "[I", true)
  | _ => ("LeavesInCups$Page", "many", "I", false)
def tyX5 : Nat → FieldType := fun k => match k with
  | 0 => .array .int
  | _ => .int
theorem nmX5 : ∀ a, a < 2 → ∀ b, b < 2 → a ≠ b → (TX5 a).2.1 ≠ (TX5 b).2.1 := by decide +kernel
theorem tyX5_ok : ∀ k, k < 2 → parseFieldDescriptor (TX5 k).2.2.1 = some (tyX5 k) := by decide +kernel
abbrev cX5_init : ByteArray := prog_7_method_1_code
def yX5_init : MethodName := ⟨RX5, "<init>", "()V"⟩
abbrev cX5_append : ByteArray := prog_7_method_2_code
def yX5_append : MethodName := ⟨RX5, "append", "(J)I"⟩
abbrev cX5_lettersIn : ByteArray := prog_7_method_3_code
def yX5_lettersIn : MethodName := ⟨RX5, "lettersIn", "(J)I"⟩
abbrev cX5_byteOf : ByteArray := prog_7_method_4_code
def yX5_byteOf : MethodName := ⟨RX5, "byteOf", "(JI)I"⟩
abbrev cX5_clear : ByteArray := prog_7_method_5_code
def yX5_clear : MethodName := ⟨RX5, "clear", "()I"⟩
abbrev cX5_firstWrong : ByteArray := prog_7_method_6_code
def yX5_firstWrong : MethodName := ⟨RX5, "firstWrong", "(LLeavesInCups$Text;)I"⟩
abbrev cX5_reads : ByteArray := prog_7_method_7_code
def yX5_reads : MethodName := ⟨RX5, "reads", "(LLeavesInCups$Text;)Z"⟩
def RX6 : String := "LeavesInCups$Pictures"
def TX6 : u_T := fun k => match k with
  | 0 => ("LeavesInCups$Pictures", "ahead", "[I", true)
  | 1 => ("LeavesInCups$Pictures", "behind", "[I", true)
  | _ => ("LeavesInCups$Pictures", "many", "I", false)
def tyX6 : Nat → FieldType := fun k => match k with
  | 0 => .array .int
  | 1 => .array .int
  | _ => .int
theorem nmX6 : ∀ a, a < 3 → ∀ b, b < 3 → a ≠ b → (TX6 a).2.1 ≠ (TX6 b).2.1 := by decide +kernel
theorem tyX6_ok : ∀ k, k < 3 → parseFieldDescriptor (TX6 k).2.2.1 = some (tyX6 k) := by decide +kernel
abbrev cX6_init : ByteArray := prog_8_method_1_code
def yX6_init : MethodName := ⟨RX6, "<init>", "()V"⟩
abbrev cX6_add : ByteArray := prog_8_method_2_code
def yX6_add : MethodName := ⟨RX6, "add", "(II)I"⟩
abbrev cX6_offBy : ByteArray := prog_8_method_3_code
def yX6_offBy : MethodName := ⟨RX6, "offBy", "(I)I"⟩
abbrev cX6_bestFloor : ByteArray := prog_8_method_4_code
def yX6_bestFloor : MethodName := ⟨RX6, "bestFloor", "()I"⟩
def RX7 : String := "LeavesInCups$River"
def TX7 : u_T := fun k => match k with
  | 0 => ("LeavesInCups$River", "told", "[I", true)
  | 1 => ("LeavesInCups$River", "held", "[Z", true)
  | 2 => ("LeavesInCups$River", "now", "[I", true)
  | 3 => ("LeavesInCups$River", "before", "[I", true)
  | 4 => ("LeavesInCups$River", "points", "I", false)
  | _ => ("LeavesInCups$River", "at", "I", false)
def tyX7 : Nat → FieldType := fun k => match k with
  | 0 => .array .int
  | 1 => .array .boolean
  | 2 => .array .int
  | 3 => .array .int
  | 4 => .int
  | _ => .int
theorem nmX7 : ∀ a, a < 6 → ∀ b, b < 6 → a ≠ b → (TX7 a).2.1 ≠ (TX7 b).2.1 := by decide +kernel
theorem tyX7_ok : ∀ k, k < 6 → parseFieldDescriptor (TX7 k).2.2.1 = some (tyX7 k) := by decide +kernel
abbrev cX7_init : ByteArray := prog_9_method_1_code
def yX7_init : MethodName := ⟨RX7, "<init>", "()V"⟩
abbrev cX7_begin : ByteArray := prog_9_method_2_code
def yX7_begin : MethodName := ⟨RX7, "begin", "()V"⟩
abbrev cX7_takes : ByteArray := prog_9_method_3_code
def yX7_takes : MethodName := ⟨RX7, "takes", "(I)Z"⟩
abbrev cX7_takesFirstDigit : ByteArray := prog_9_method_4_code
def yX7_takesFirstDigit : MethodName := ⟨RX7, "takesFirstDigit", "(I)Z"⟩
abbrev cX7_takesMore : ByteArray := prog_9_method_5_code
def yX7_takesMore : MethodName := ⟨RX7, "takesMore", "(I)Z"⟩
abbrev cX7_isWhole : ByteArray := prog_9_method_6_code
def yX7_isWhole : MethodName := ⟨RX7, "isWhole", "()Z"⟩
abbrev cX7_has : ByteArray := prog_9_method_7_code
def yX7_has : MethodName := ⟨RX7, "has", "(I)Z"⟩
abbrev cX7_isFree : ByteArray := prog_9_method_8_code
def yX7_isFree : MethodName := ⟨RX7, "isFree", "(I)Z"⟩
abbrev cX7_beginYears : ByteArray := prog_9_method_9_code
def yX7_beginYears : MethodName := ⟨RX7, "beginYears", "()V"⟩
abbrev cX7_goYear : ByteArray := prog_9_method_10_code
def yX7_goYear : MethodName := ⟨RX7, "goYear", "(III)I"⟩
abbrev cX7_goYears : ByteArray := prog_9_method_11_code
def yX7_goYears : MethodName := ⟨RX7, "goYears", "(IIII)I"⟩
abbrev cX7_isOverNeck : ByteArray := prog_9_method_12_code
def yX7_isOverNeck : MethodName := ⟨RX7, "isOverNeck", "(II)Z"⟩
abbrev cX7_bendOf : ByteArray := prog_9_method_13_code
def yX7_bendOf : MethodName := ⟨RX7, "bendOf", "([II)I"⟩
abbrev cX7_bendsTogether : ByteArray := prog_9_method_14_code
def yX7_bendsTogether : MethodName := ⟨RX7, "bendsTogether", "()I"⟩
def RX8 : String := "LeavesInCups$Row"
def TX8 : u_T := fun k => match k with
  | 0 => ("LeavesInCups$Row", "doing", "[I", true)
  | 1 => ("LeavesInCups$Row", "ticking", "[I", true)
  | 2 => ("LeavesInCups$Row", "items", "I", false)
  | _ => ("LeavesInCups$Row", "at", "I", false)
def tyX8 : Nat → FieldType := fun k => match k with
  | 0 => .array .int
  | 1 => .array .int
  | 2 => .int
  | _ => .int
theorem nmX8 : ∀ a, a < 4 → ∀ b, b < 4 → a ≠ b → (TX8 a).2.1 ≠ (TX8 b).2.1 := by decide +kernel
theorem tyX8_ok : ∀ k, k < 4 → parseFieldDescriptor (TX8 k).2.2.1 = some (tyX8 k) := by decide +kernel
abbrev cX8_init : ByteArray := prog_10_method_1_code
def yX8_init : MethodName := ⟨RX8, "<init>", "()V"⟩
abbrev cX8_begin : ByteArray := prog_10_method_2_code
def yX8_begin : MethodName := ⟨RX8, "begin", "()V"⟩
abbrev cX8_takes : ByteArray := prog_10_method_3_code
def yX8_takes : MethodName := ⟨RX8, "takes", "(I)Z"⟩
abbrev cX8_takesDoing : ByteArray := prog_10_method_4_code
def yX8_takesDoing : MethodName := ⟨RX8, "takesDoing", "(I)Z"⟩
abbrev cX8_takesFirstDigit : ByteArray := prog_10_method_5_code
def yX8_takesFirstDigit : MethodName := ⟨RX8, "takesFirstDigit", "(I)Z"⟩
abbrev cX8_takesMore : ByteArray := prog_10_method_6_code
def yX8_takesMore : MethodName := ⟨RX8, "takesMore", "(I)Z"⟩
abbrev cX8_isWhole : ByteArray := prog_10_method_7_code
def yX8_isWhole : MethodName := ⟨RX8, "isWhole", "()Z"⟩
def RX9 : String := "LeavesInCups$Text"
def TX9 : u_T := fun k => match k with
  | _ => ("", "", "", false)
def tyX9 : Nat → FieldType := fun k => match k with
  | _ => .int
theorem nmX9 : ∀ a, a < 0 → ∀ b, b < 0 → a ≠ b → (TX9 a).2.1 ≠ (TX9 b).2.1 := by decide +kernel
theorem tyX9_ok : ∀ k, k < 0 → parseFieldDescriptor (TX9 k).2.2.1 = some (tyX9 k) := by decide +kernel
abbrev cX9_init : ByteArray := prog_11_method_1_code
def yX9_init : MethodName := ⟨RX9, "<init>", "()V"⟩
abbrev cX9_digitOf : ByteArray := prog_11_method_5_code
def yX9_digitOf : MethodName := ⟨RX9, "digitOf", "(I)I"⟩
abbrev cX9_longer : ByteArray := prog_11_method_6_code
def yX9_longer : MethodName := ⟨RX9, "longer", "(III)I"⟩
def RX10 : String := "LeavesInCups"
def TX10 : u_T := fun k => match k with
  | 0 => ("LeavesInCups", "page", "LLeavesInCups$Page;", true)
  | 1 => ("LeavesInCups", "resting", "LLeavesInCups$Doing;", true)
  | 2 => ("LeavesInCups", "doings", "[LLeavesInCups$Doing;", true)
  | 3 => ("LeavesInCups", "doingCount", "I", false)
  | 4 => ("LeavesInCups", "theCup", "LLeavesInCups$Cup;", false)
  | 5 => ("LeavesInCups", "triedCup", "LLeavesInCups$Cup;", false)
  | 6 => ("LeavesInCups", "cupsRead", "I", false)
  | 7 => ("LeavesInCups", "theRiver", "LLeavesInCups$River;", false)
  | 8 => ("LeavesInCups", "triedRiver", "LLeavesInCups$River;", false)
  | 9 => ("LeavesInCups", "rows", "[LLeavesInCups$Row;", true)
  | 10 => ("LeavesInCups", "triedRow", "LLeavesInCups$Row;", false)
  | 11 => ("LeavesInCups", "rowCount", "I", false)
  | 12 => ("LeavesInCups", "leaves", "LLeavesInCups$Leaves;", true)
  | 13 => ("LeavesInCups", "weighed", "LLeavesInCups$Leaves;", true)
  | 14 => ("LeavesInCups", "brew", "LLeavesInCups$Brew;", true)
  | 15 => ("LeavesInCups", "trial", "LLeavesInCups$Brew;", true)
  | 16 => ("LeavesInCups", "kept", "LLeavesInCups$Image;", true)
  | 17 => ("LeavesInCups", "wanted", "[I", true)
  | 18 => ("LeavesInCups", "findings", "I", false)
  | _ => ("LeavesInCups", "pictures", "LLeavesInCups$Pictures;", true)
def tyX10 : Nat → FieldType := fun k => match k with
  | 0 => .object "LeavesInCups$Page"
  | 1 => .object "LeavesInCups$Doing"
  | 2 => .array (.object "LeavesInCups$Doing")
  | 3 => .int
  | 4 => .object "LeavesInCups$Cup"
  | 5 => .object "LeavesInCups$Cup"
  | 6 => .int
  | 7 => .object "LeavesInCups$River"
  | 8 => .object "LeavesInCups$River"
  | 9 => .array (.object "LeavesInCups$Row")
  | 10 => .object "LeavesInCups$Row"
  | 11 => .int
  | 12 => .object "LeavesInCups$Leaves"
  | 13 => .object "LeavesInCups$Leaves"
  | 14 => .object "LeavesInCups$Brew"
  | 15 => .object "LeavesInCups$Brew"
  | 16 => .object "LeavesInCups$Image"
  | 17 => .array .int
  | 18 => .int
  | _ => .object "LeavesInCups$Pictures"
theorem nmX10 : ∀ a, a < 20 → ∀ b, b < 20 → a ≠ b → (TX10 a).2.1 ≠ (TX10 b).2.1 := by decide +kernel
theorem tyX10_ok : ∀ k, k < 20 → parseFieldDescriptor (TX10 k).2.2.1 = some (tyX10 k) := by decide +kernel
abbrev cX10_init : ByteArray := prog_1_method_1_code
def yX10_init : MethodName := ⟨RX10, "<init>", "()V"⟩
abbrev cX10_letters : ByteArray := prog_1_method_2_code
def yX10_letters : MethodName := ⟨RX10, "letters", "(J)I"⟩
abbrev cX10_blank : ByteArray := prog_1_method_3_code
def yX10_blank : MethodName := ⟨RX10, "blank", "()I"⟩
abbrev cX10_fault : ByteArray := prog_1_method_4_code
def yX10_fault : MethodName := ⟨RX10, "fault", "(I)I"⟩
abbrev cX10_cup : ByteArray := prog_1_method_5_code
def yX10_cup : MethodName := ⟨RX10, "cup", "()I"⟩
abbrev cX10_row : ByteArray := prog_1_method_6_code
def yX10_row : MethodName := ⟨RX10, "row", "()I"⟩
abbrev cX10_river : ByteArray := prog_1_method_7_code
def yX10_river : MethodName := ⟨RX10, "river", "()I"⟩
abbrev cX10_cupTold : ByteArray := prog_1_method_8_code
def yX10_cupTold : MethodName := ⟨RX10, "cupTold", "(I)I"⟩
abbrev cX10_doing : ByteArray := prog_1_method_9_code
def yX10_doing : MethodName := ⟨RX10, "doing", "(II)I"⟩
abbrev cX10_as : ByteArray := prog_1_method_10_code
def yX10_as : MethodName := ⟨RX10, "as", "(II)I"⟩
abbrev cX10_leaf : ByteArray := prog_1_method_11_code
def yX10_leaf : MethodName := ⟨RX10, "leaf", "(III)I"⟩
abbrev cX10_about : ByteArray := prog_1_method_12_code
def yX10_about : MethodName := ⟨RX10, "about", "(II)I"⟩
abbrev cX10_ticks : ByteArray := prog_1_method_13_code
def yX10_ticks : MethodName := ⟨RX10, "ticks", "(II)I"⟩
abbrev cX10_still : ByteArray := prog_1_method_14_code
def yX10_still : MethodName := ⟨RX10, "still", "()I"⟩
abbrev cX10_round : ByteArray := prog_1_method_15_code
def yX10_round : MethodName := ⟨RX10, "round", "(II)I"⟩
abbrev cX10_second : ByteArray := prog_1_method_16_code
def yX10_second : MethodName := ⟨RX10, "second", "(I)I"⟩
abbrev cX10_would : ByteArray := prog_1_method_17_code
def yX10_would : MethodName := ⟨RX10, "would", "(III)I"⟩
abbrev cX10_ends : ByteArray := prog_1_method_18_code
def yX10_ends : MethodName := ⟨RX10, "ends", "(II)I"⟩
abbrev cX10_lies : ByteArray := prog_1_method_19_code
def yX10_lies : MethodName := ⟨RX10, "lies", "(II)I"⟩
abbrev cX10_line : ByteArray := prog_1_method_20_code
def yX10_line : MethodName := ⟨RX10, "line", "(III)I"⟩
abbrev cX10_want : ByteArray := prog_1_method_21_code
def yX10_want : MethodName := ⟨RX10, "want", "(II)I"⟩
abbrev cX10_off : ByteArray := prog_1_method_22_code
def yX10_off : MethodName := ⟨RX10, "off", "(I)I"⟩
abbrev cX10_found : ByteArray := prog_1_method_23_code
def yX10_found : MethodName := ⟨RX10, "found", "(I)I"⟩
abbrev cX10_seen : ByteArray := prog_1_method_24_code
def yX10_seen : MethodName := ⟨RX10, "seen", "(II)I"⟩
abbrev cX10_read : ByteArray := prog_1_method_25_code
def yX10_read : MethodName := ⟨RX10, "read", "()I"⟩
abbrev cX10_tells : ByteArray := prog_1_method_26_code
def yX10_tells : MethodName := ⟨RX10, "tells", "()I"⟩
abbrev cX10_apart : ByteArray := prog_1_method_27_code
def yX10_apart : MethodName := ⟨RX10, "apart", "(III)I"⟩
abbrev cX10_picture : ByteArray := prog_1_method_28_code
def yX10_picture : MethodName := ⟨RX10, "picture", "(II)I"⟩
abbrev cX10_drag : ByteArray := prog_1_method_29_code
def yX10_drag : MethodName := ⟨RX10, "drag", "()I"⟩
abbrev cX10_point : ByteArray := prog_1_method_30_code
def yX10_point : MethodName := ⟨RX10, "point", "(IIII)I"⟩
abbrev cX10_cuts : ByteArray := prog_1_method_31_code
def yX10_cuts : MethodName := ⟨RX10, "cuts", "(III)I"⟩
abbrev cX10_firstCut : ByteArray := prog_1_method_32_code
def yX10_firstCut : MethodName := ⟨RX10, "firstCut", "(II)I"⟩
abbrev cX10_saves : ByteArray := prog_1_method_33_code
def yX10_saves : MethodName := ⟨RX10, "saves", "(III)I"⟩
abbrev cX10_image : ByteArray := prog_1_method_34_code
def yX10_image : MethodName := ⟨RX10, "image", "()I"⟩
abbrev cX10_restore : ByteArray := prog_1_method_35_code
def yX10_restore : MethodName := ⟨RX10, "restore", "()I"⟩
abbrev cX10_count : ByteArray := prog_1_method_36_code
def yX10_count : MethodName := ⟨RX10, "count", "(I)I"⟩
abbrev cX10_digest : ByteArray := prog_1_method_37_code
def yX10_digest : MethodName := ⟨RX10, "digest", "()J"⟩
abbrev cX10_withCup : ByteArray := prog_1_method_38_code
def yX10_withCup : MethodName := ⟨RX10, "withCup", "(J)J"⟩
abbrev cX10_withDoings : ByteArray := prog_1_method_39_code
def yX10_withDoings : MethodName := ⟨RX10, "withDoings", "(J)J"⟩
abbrev cX10_withLeaves : ByteArray := prog_1_method_40_code
def yX10_withLeaves : MethodName := ⟨RX10, "withLeaves", "(J)J"⟩
abbrev cX10_withRows : ByteArray := prog_1_method_41_code
def yX10_withRows : MethodName := ⟨RX10, "withRows", "(J)J"⟩
abbrev cX10_withPictures : ByteArray := prog_1_method_42_code
def yX10_withPictures : MethodName := ⟨RX10, "withPictures", "(J)J"⟩
abbrev cX10_withRiver : ByteArray := prog_1_method_43_code
def yX10_withRiver : MethodName := ⟨RX10, "withRiver", "(J)J"⟩
abbrev cX10_isWithin : ByteArray := prog_1_method_44_code
def yX10_isWithin : MethodName := ⟨RX10, "isWithin", "(III)Z"⟩
abbrev cX10_isYears : ByteArray := prog_1_method_45_code
def yX10_isYears : MethodName := ⟨RX10, "isYears", "(I)Z"⟩
abbrev cX10_isFlow : ByteArray := prog_1_method_46_code
def yX10_isFlow : MethodName := ⟨RX10, "isFlow", "(II)Z"⟩
abbrev cX10_hasCup : ByteArray := prog_1_method_47_code
def yX10_hasCup : MethodName := ⟨RX10, "hasCup", "()Z"⟩
abbrev cX10_hasRiver : ByteArray := prog_1_method_48_code
def yX10_hasRiver : MethodName := ⟨RX10, "hasRiver", "()Z"⟩
abbrev cX10_hasDoing : ByteArray := prog_1_method_49_code
def yX10_hasDoing : MethodName := ⟨RX10, "hasDoing", "(I)Z"⟩
abbrev cX10_hasRow : ByteArray := prog_1_method_50_code
def yX10_hasRow : MethodName := ⟨RX10, "hasRow", "(I)Z"⟩
abbrev cX10_doingOrRest : ByteArray := prog_1_method_51_code
def yX10_doingOrRest : MethodName := ⟨RX10, "doingOrRest", "(I)LLeavesInCups$Doing;"⟩
abbrev cX10_tryRow : ByteArray := prog_1_method_52_code
def yX10_tryRow : MethodName := ⟨RX10, "tryRow", "(LLeavesInCups$Row;LLeavesInCups$Leaves;)V"⟩
abbrev cX10_offOfStirring : ByteArray := prog_1_method_53_code
def yX10_offOfStirring : MethodName := ⟨RX10, "offOfStirring", "(LLeavesInCups$Doing;I)I"⟩
abbrev cX10_offInTrial : ByteArray := prog_1_method_54_code
def yX10_offInTrial : MethodName := ⟨RX10, "offInTrial", "()I"⟩
abbrev cX10_ringsInTrial : ByteArray := prog_1_method_55_code
def yX10_ringsInTrial : MethodName := ⟨RX10, "ringsInTrial", "()I"⟩
abbrev cX10_isTrialAsSeen : ByteArray := prog_1_method_56_code
def yX10_isTrialAsSeen : MethodName := ⟨RX10, "isTrialAsSeen", "()Z"⟩
def RX11 : String := "LeavesInCupsModel"
def TX11 : u_T := fun k => match k with
  | 0 => ("LeavesInCupsModel", "cup", "[I", true)
  | 1 => ("LeavesInCupsModel", "isCup", "Z", false)
  | 2 => ("LeavesInCupsModel", "cups", "I", false)
  | 3 => ("LeavesInCupsModel", "live", "[I", true)
  | 4 => ("LeavesInCupsModel", "work", "[I", true)
  | 5 => ("LeavesInCupsModel", "doings", "I", false)
  | 6 => ("LeavesInCupsModel", "kindOf", "[I", true)
  | 7 => ("LeavesInCupsModel", "numberOf", "[I", true)
  | 8 => ("LeavesInCupsModel", "leaves", "I", false)
  | 9 => ("LeavesInCupsModel", "ringOf", "[I", true)
  | 10 => ("LeavesInCupsModel", "toldOf", "[I", true)
  | 11 => ("LeavesInCupsModel", "weightOf", "[I", true)
  | 12 => ("LeavesInCupsModel", "stickOf", "[I", true)
  | 13 => ("LeavesInCupsModel", "seenOf", "[I", true)
  | 14 => ("LeavesInCupsModel", "place", "[I", true)
  | 15 => ("LeavesInCupsModel", "wanted", "[I", true)
  | 16 => ("LeavesInCupsModel", "rows", "I", false)
  | 17 => ("LeavesInCupsModel", "itemMany", "[I", true)
  | 18 => ("LeavesInCupsModel", "itemDoing", "[I", true)
  | 19 => ("LeavesInCupsModel", "itemTicks", "[I", true)
  | 20 => ("LeavesInCupsModel", "pictures", "I", false)
  | 21 => ("LeavesInCupsModel", "aheadOf", "[I", true)
  | 22 => ("LeavesInCupsModel", "behindOf", "[I", true)
  | 23 => ("LeavesInCupsModel", "points", "I", false)
  | 24 => ("LeavesInCupsModel", "sideOf", "[I", true)
  | 25 => ("LeavesInCupsModel", "isHeld", "[Z", true)
  | 26 => ("LeavesInCupsModel", "asks", "I", false)
  | 27 => ("LeavesInCupsModel", "pageLength", "I", false)
  | 28 => ("LeavesInCupsModel", "page", "[B", true)
  | 29 => ("LeavesInCupsModel", "isKept", "Z", false)
  | 30 => ("LeavesInCupsModel", "keptCup", "I", false)
  | 31 => ("LeavesInCupsModel", "keptLeaves", "I", false)
  | 32 => ("LeavesInCupsModel", "keptRounds", "[I", true)
  | 33 => ("LeavesInCupsModel", "keptRing", "[I", true)
  | 34 => ("LeavesInCupsModel", "keptSeen", "[I", true)
  | 35 => ("LeavesInCupsModel", "keptWant", "[I", true)
  | 36 => ("LeavesInCupsModel", "faultAt", "I", false)
  | 37 => ("LeavesInCupsModel", "isWhole", "Z", false)
  | 38 => ("LeavesInCupsModel", "newCup", "[I", true)
  | 39 => ("LeavesInCupsModel", "newItems", "I", false)
  | 40 => ("LeavesInCupsModel", "newDoing", "[I", true)
  | 41 => ("LeavesInCupsModel", "newTicks", "[I", true)
  | 42 => ("LeavesInCupsModel", "newPoints", "I", false)
  | 43 => ("LeavesInCupsModel", "newSide", "[I", true)
  | 44 => ("LeavesInCupsModel", "newHeld", "[Z", true)
  | 45 => ("LeavesInCupsModel", "side", "[I", true)
  | 46 => ("LeavesInCupsModel", "bend", "[I", true)
  | 47 => ("LeavesInCupsModel", "held", "I", false)
  | 48 => ("LeavesInCupsModel", "cutMany", "I", false)
  | 49 => ("LeavesInCupsModel", "firstYear", "I", false)
  | _ => ("LeavesInCupsModel", "h", "J", false)
def tyX11 : Nat → FieldType := fun k => match k with
  | 0 => .array .int
  | 1 => .boolean
  | 2 => .int
  | 3 => .array .int
  | 4 => .array .int
  | 5 => .int
  | 6 => .array .int
  | 7 => .array .int
  | 8 => .int
  | 9 => .array .int
  | 10 => .array .int
  | 11 => .array .int
  | 12 => .array .int
  | 13 => .array .int
  | 14 => .array .int
  | 15 => .array .int
  | 16 => .int
  | 17 => .array .int
  | 18 => .array .int
  | 19 => .array .int
  | 20 => .int
  | 21 => .array .int
  | 22 => .array .int
  | 23 => .int
  | 24 => .array .int
  | 25 => .array .boolean
  | 26 => .int
  | 27 => .int
  | 28 => .array .byte
  | 29 => .boolean
  | 30 => .int
  | 31 => .int
  | 32 => .array .int
  | 33 => .array .int
  | 34 => .array .int
  | 35 => .array .int
  | 36 => .int
  | 37 => .boolean
  | 38 => .array .int
  | 39 => .int
  | 40 => .array .int
  | 41 => .array .int
  | 42 => .int
  | 43 => .array .int
  | 44 => .array .boolean
  | 45 => .array .int
  | 46 => .array .int
  | 47 => .int
  | 48 => .int
  | 49 => .int
  | _ => .long
theorem nmX11 : ∀ a, a < 51 → ∀ b, b < 51 → a ≠ b → (TX11 a).2.1 ≠ (TX11 b).2.1 := by decide +kernel
theorem tyX11_ok : ∀ k, k < 51 → parseFieldDescriptor (TX11 k).2.2.1 = some (tyX11 k) := by decide +kernel
abbrev cX11_init : ByteArray := prog_13_method_1_code
def yX11_init : MethodName := ⟨RX11, "<init>", "()V"⟩
abbrev cX11_within : ByteArray := prog_13_method_3_code
def yX11_within : MethodName := ⟨RX11, "within", "(III)Z"⟩
abbrev cX11_size : ByteArray := prog_13_method_4_code
def yX11_size : MethodName := ⟨RX11, "size", "(I)I"⟩
abbrev cX11_letters : ByteArray := prog_13_method_5_code
def yX11_letters : MethodName := ⟨RX11, "letters", "(J)I"⟩
abbrev cX11_blank : ByteArray := prog_13_method_6_code
def yX11_blank : MethodName := ⟨RX11, "blank", "()I"⟩
abbrev cX11_isDigit : ByteArray := prog_13_method_7_code
def yX11_isDigit : MethodName := ⟨RX11, "isDigit", "(I)Z"⟩
abbrev cX11_nextCup : ByteArray := prog_13_method_8_code
def yX11_nextCup : MethodName := ⟨RX11, "nextCup", "(II)I"⟩
abbrev cX11_nextRow : ByteArray := prog_13_method_9_code
def yX11_nextRow : MethodName := ⟨RX11, "nextRow", "(II)I"⟩
abbrev cX11_nextRiver : ByteArray := prog_13_method_10_code
def yX11_nextRiver : MethodName := ⟨RX11, "nextRiver", "(II)I"⟩
abbrev cX11_readPage : ByteArray := prog_13_method_11_code
def yX11_readPage : MethodName := ⟨RX11, "readPage", "(I)V"⟩
abbrev cX11_fault : ByteArray := prog_13_method_12_code
def yX11_fault : MethodName := ⟨RX11, "fault", "(I)I"⟩
abbrev cX11_cup : ByteArray := prog_13_method_13_code
def yX11_cup : MethodName := ⟨RX11, "cup", "()I"⟩
abbrev cX11_row : ByteArray := prog_13_method_14_code
def yX11_row : MethodName := ⟨RX11, "row", "()I"⟩
abbrev cX11_river : ByteArray := prog_13_method_15_code
def yX11_river : MethodName := ⟨RX11, "river", "()I"⟩
abbrev cX11_cupTold : ByteArray := prog_13_method_16_code
def yX11_cupTold : MethodName := ⟨RX11, "cupTold", "(I)I"⟩
abbrev cX11_doing : ByteArray := prog_13_method_17_code
def yX11_doing : MethodName := ⟨RX11, "doing", "(II)I"⟩
abbrev cX11_isDoing : ByteArray := prog_13_method_18_code
def yX11_isDoing : MethodName := ⟨RX11, "isDoing", "(I)Z"⟩
abbrev cX11_as : ByteArray := prog_13_method_19_code
def yX11_as : MethodName := ⟨RX11, "as", "(II)I"⟩
abbrev cX11_isRing : ByteArray := prog_13_method_20_code
def yX11_isRing : MethodName := ⟨RX11, "isRing", "(I)Z"⟩
abbrev cX11_isLeaf : ByteArray := prog_13_method_21_code
def yX11_isLeaf : MethodName := ⟨RX11, "isLeaf", "(I)Z"⟩
abbrev cX11_leaf : ByteArray := prog_13_method_22_code
def yX11_leaf : MethodName := ⟨RX11, "leaf", "(III)I"⟩
abbrev cX11_loadLive : ByteArray := prog_13_method_23_code
def yX11_loadLive : MethodName := ⟨RX11, "loadLive", "()V"⟩
abbrev cX11_loadStill : ByteArray := prog_13_method_24_code
def yX11_loadStill : MethodName := ⟨RX11, "loadStill", "()V"⟩
abbrev cX11_bounded : ByteArray := prog_13_method_25_code
def yX11_bounded : MethodName := ⟨RX11, "bounded", "(I)I"⟩
abbrev cX11_stir : ByteArray := prog_13_method_26_code
def yX11_stir : MethodName := ⟨RX11, "stir", "(II)V"⟩
abbrev cX11_dragTo : ByteArray := prog_13_method_27_code
def yX11_dragTo : MethodName := ⟨RX11, "dragTo", "(III)V"⟩
abbrev cX11_goTick : ByteArray := prog_13_method_28_code
def yX11_goTick : MethodName := ⟨RX11, "goTick", "(II)V"⟩
abbrev cX11_secondNow : ByteArray := prog_13_method_29_code
def yX11_secondNow : MethodName := ⟨RX11, "secondNow", "(I)I"⟩
abbrev cX11_pullNow : ByteArray := prog_13_method_30_code
def yX11_pullNow : MethodName := ⟨RX11, "pullNow", "(II)I"⟩
abbrev cX11_moved : ByteArray := prog_13_method_31_code
def yX11_moved : MethodName := ⟨RX11, "moved", "(III)I"⟩
abbrev cX11_goAll : ByteArray := prog_13_method_32_code
def yX11_goAll : MethodName := ⟨RX11, "goAll", "(III)V"⟩
abbrev cX11_about : ByteArray := prog_13_method_33_code
def yX11_about : MethodName := ⟨RX11, "about", "(II)I"⟩
abbrev cX11_leafTold : ByteArray := prog_13_method_34_code
def yX11_leafTold : MethodName := ⟨RX11, "leafTold", "(II)I"⟩
abbrev cX11_ticks : ByteArray := prog_13_method_35_code
def yX11_ticks : MethodName := ⟨RX11, "ticks", "(II)I"⟩
abbrev cX11_still : ByteArray := prog_13_method_36_code
def yX11_still : MethodName := ⟨RX11, "still", "()I"⟩
abbrev cX11_round : ByteArray := prog_13_method_37_code
def yX11_round : MethodName := ⟨RX11, "round", "(II)I"⟩
abbrev cX11_second : ByteArray := prog_13_method_38_code
def yX11_second : MethodName := ⟨RX11, "second", "(I)I"⟩
abbrev cX11_would : ByteArray := prog_13_method_39_code
def yX11_would : MethodName := ⟨RX11, "would", "(III)I"⟩
abbrev cX11_isRow : ByteArray := prog_13_method_40_code
def yX11_isRow : MethodName := ⟨RX11, "isRow", "(I)Z"⟩
abbrev cX11_begin : ByteArray := prog_13_method_41_code
def yX11_begin : MethodName := ⟨RX11, "begin", "()V"⟩
abbrev cX11_itemKind : ByteArray := prog_13_method_42_code
def yX11_itemKind : MethodName := ⟨RX11, "itemKind", "(I)I"⟩
abbrev cX11_itemNumber : ByteArray := prog_13_method_43_code
def yX11_itemNumber : MethodName := ⟨RX11, "itemNumber", "(I)I"⟩
abbrev cX11_layRow : ByteArray := prog_13_method_44_code
def yX11_layRow : MethodName := ⟨RX11, "layRow", "(I)V"⟩
abbrev cX11_ends : ByteArray := prog_13_method_45_code
def yX11_ends : MethodName := ⟨RX11, "ends", "(II)I"⟩
abbrev cX11_lies : ByteArray := prog_13_method_46_code
def yX11_lies : MethodName := ⟨RX11, "lies", "(II)I"⟩
abbrev cX11_oneEnds : ByteArray := prog_13_method_47_code
def yX11_oneEnds : MethodName := ⟨RX11, "oneEnds", "(IIII)I"⟩
abbrev cX11_line : ByteArray := prog_13_method_48_code
def yX11_line : MethodName := ⟨RX11, "line", "(III)I"⟩
abbrev cX11_want : ByteArray := prog_13_method_49_code
def yX11_want : MethodName := ⟨RX11, "want", "(II)I"⟩
abbrev cX11_offNow : ByteArray := prog_13_method_50_code
def yX11_offNow : MethodName := ⟨RX11, "offNow", "()I"⟩
abbrev cX11_off : ByteArray := prog_13_method_51_code
def yX11_off : MethodName := ⟨RX11, "off", "(I)I"⟩
abbrev cX11_found : ByteArray := prog_13_method_52_code
def yX11_found : MethodName := ⟨RX11, "found", "(I)I"⟩
abbrev cX11_seen : ByteArray := prog_13_method_53_code
def yX11_seen : MethodName := ⟨RX11, "seen", "(II)I"⟩
abbrev cX11_read : ByteArray := prog_13_method_54_code
def yX11_read : MethodName := ⟨RX11, "read", "()I"⟩
abbrev cX11_differentNow : ByteArray := prog_13_method_55_code
def yX11_differentNow : MethodName := ⟨RX11, "differentNow", "()I"⟩
abbrev cX11_tells : ByteArray := prog_13_method_56_code
def yX11_tells : MethodName := ⟨RX11, "tells", "()I"⟩
abbrev cX11_apart : ByteArray := prog_13_method_57_code
def yX11_apart : MethodName := ⟨RX11, "apart", "(III)I"⟩
abbrev cX11_picture : ByteArray := prog_13_method_58_code
def yX11_picture : MethodName := ⟨RX11, "picture", "(II)I"⟩
abbrev cX11_drag : ByteArray := prog_13_method_59_code
def yX11_drag : MethodName := ⟨RX11, "drag", "()I"⟩
abbrev cX11_layBends : ByteArray := prog_13_method_60_code
def yX11_layBends : MethodName := ⟨RX11, "layBends", "()V"⟩
abbrev cX11_isFree : ByteArray := prog_13_method_61_code
def yX11_isFree : MethodName := ⟨RX11, "isFree", "(I)Z"⟩
abbrev cX11_goYear : ByteArray := prog_13_method_62_code
def yX11_goYear : MethodName := ⟨RX11, "goYear", "(III)V"⟩
abbrev cX11_layYears : ByteArray := prog_13_method_63_code
def yX11_layYears : MethodName := ⟨RX11, "layYears", "(IIII)V"⟩
abbrev cX11_areYears : ByteArray := prog_13_method_64_code
def yX11_areYears : MethodName := ⟨RX11, "areYears", "(III)Z"⟩
abbrev cX11_point : ByteArray := prog_13_method_65_code
def yX11_point : MethodName := ⟨RX11, "point", "(IIII)I"⟩
abbrev cX11_cuts : ByteArray := prog_13_method_66_code
def yX11_cuts : MethodName := ⟨RX11, "cuts", "(III)I"⟩
abbrev cX11_firstCut : ByteArray := prog_13_method_67_code
def yX11_firstCut : MethodName := ⟨RX11, "firstCut", "(II)I"⟩
abbrev cX11_saves : ByteArray := prog_13_method_68_code
def yX11_saves : MethodName := ⟨RX11, "saves", "(III)I"⟩
abbrev cX11_image : ByteArray := prog_13_method_69_code
def yX11_image : MethodName := ⟨RX11, "image", "()I"⟩
abbrev cX11_restore : ByteArray := prog_13_method_70_code
def yX11_restore : MethodName := ⟨RX11, "restore", "()I"⟩
abbrev cX11_howMany : ByteArray := prog_13_method_71_code
def yX11_howMany : MethodName := ⟨RX11, "howMany", "(I)I"⟩
abbrev cX11_count : ByteArray := prog_13_method_72_code
def yX11_count : MethodName := ⟨RX11, "count", "(I)I"⟩
abbrev cX11_mix : ByteArray := prog_13_method_73_code
def yX11_mix : MethodName := ⟨RX11, "mix", "(J)V"⟩
abbrev cX11_mixCup : ByteArray := prog_13_method_74_code
def yX11_mixCup : MethodName := ⟨RX11, "mixCup", "()V"⟩
abbrev cX11_mixRow : ByteArray := prog_13_method_75_code
def yX11_mixRow : MethodName := ⟨RX11, "mixRow", "(I)V"⟩
abbrev cX11_digest : ByteArray := prog_13_method_76_code
def yX11_digest : MethodName := ⟨RX11, "digest", "()J"⟩
def RJ9 : String := "java/lang/Math"
abbrev cJ9_abs_0f7a4 : ByteArray := prog_14_method_59_code
def yJ9_abs_0f7a4 : MethodName := ⟨RJ9, "abs", "(I)I"⟩
abbrev cJ9_max_7cf53 : ByteArray := prog_14_method_65_code
def yJ9_max_7cf53 : MethodName := ⟨RJ9, "max", "(II)I"⟩
abbrev cJ9_min_7cf53 : ByteArray := prog_14_method_69_code
def yJ9_min_7cf53 : MethodName := ⟨RJ9, "min", "(II)I"⟩
def RJ0 : String := "java/lang/String"
abbrev cJ0_charAt_5068e : ByteArray := prog_15_method_56_code
def yJ0_charAt_5068e : MethodName := ⟨RJ0, "charAt", "(I)C"⟩
abbrev cJ0_isLatin1_aae02 : ByteArray := prog_15_method_154_code
def yJ0_isLatin1_aae02 : MethodName := ⟨RJ0, "isLatin1", "()Z"⟩
abbrev cJ0_checkIndex_df160 : ByteArray := prog_15_method_155_code
def yJ0_checkIndex_df160 : MethodName := ⟨RJ0, "checkIndex", "(II)V"⟩
def RJ1 : String := "java/lang/StringLatin1"
abbrev cJ1_charAt_3b067 : ByteArray := prog_16_method_2_code
def yJ1_charAt_3b067 : MethodName := ⟨RJ1, "charAt", "([BI)C"⟩
def RJ2 : String := "java/lang/StringUTF16"
abbrev cJ2_getChar_3b067 : ByteArray := prog_17_method_5_code
def yJ2_getChar_3b067 : MethodName := ⟨RJ2, "getChar", "([BI)C"⟩
abbrev cJ2_length_9d52b : ByteArray := prog_17_method_6_code
def yJ2_length_9d52b : MethodName := ⟨RJ2, "length", "([B)I"⟩
abbrev cJ2_charAt_3b067 : ByteArray := prog_17_method_83_code
def yJ2_charAt_3b067 : MethodName := ⟨RJ2, "charAt", "([BI)C"⟩
abbrev cJ2_checkIndex_2214a : ByteArray := prog_17_method_91_code
def yJ2_checkIndex_2214a : MethodName := ⟨RJ2, "checkIndex", "(I[B)V"⟩
def RJ3 : String := "jdk/internal/util/Preconditions"
abbrev cJ3_checkIndex_8e157 : ByteArray := prog_18_method_11_code
def yJ3_checkIndex_8e157 : MethodName := ⟨RJ3, "checkIndex", "(IILjava/util/function/BiFunction;)I"⟩
def RL : String := "LeavesInCupsLaw"
abbrev cL_law : ByteArray := code
def yL_law : MethodName := ⟨RL, "law", "([I)Z"⟩
