theorem zt0 : (Cond.selects RX7 yX7_takesFirstDigit yX7_takesFirstDigit : Cond) ∈ ztb := zmem (i := 0) (by decide +kernel) rfl
theorem zt1 : (Cond.selects RX7 yX7_takesMore yX7_takesMore : Cond) ∈ ztb := zmem (i := 1) (by decide +kernel) rfl
theorem zt2 : (Cond.selects RX8 yX8_takesDoing yX8_takesDoing : Cond) ∈ ztb := zmem (i := 2) (by decide +kernel) rfl
theorem zt3 : (Cond.selects RX8 yX8_takesFirstDigit yX8_takesFirstDigit : Cond) ∈ ztb := zmem (i := 3) (by decide +kernel) rfl
theorem zt4 : (Cond.selects RX8 yX8_takesMore yX8_takesMore : Cond) ∈ ztb := zmem (i := 4) (by decide +kernel) rfl
theorem zt5 : (Cond.selects RX10 yX10_hasCup yX10_hasCup : Cond) ∈ ztb := zmem (i := 5) (by decide +kernel) rfl
theorem zt6 : (Cond.selects RX10 yX10_hasDoing yX10_hasDoing : Cond) ∈ ztb := zmem (i := 6) (by decide +kernel) rfl
theorem zt7 : (Cond.selects RX10 yX10_doingOrRest yX10_doingOrRest : Cond) ∈ ztb := zmem (i := 7) (by decide +kernel) rfl
theorem zt8 : (Cond.selects RX0 yX0_move yX0_move : Cond) ∈ ztb := zmem (i := 8) (by decide +kernel) rfl
theorem zt9 : (Cond.selects RX0 yX0_slow yX0_slow : Cond) ∈ ztb := zmem (i := 9) (by decide +kernel) rfl
theorem zt10 : (Cond.selects RX0 yX0_blend yX0_blend : Cond) ∈ ztb := zmem (i := 10) (by decide +kernel) rfl
theorem zt11 : (Cond.selects RX0 yX0_pullAll yX0_pullAll : Cond) ∈ ztb := zmem (i := 11) (by decide +kernel) rfl
theorem zt12 : (Cond.selects RX10 yX10_hasRow yX10_hasRow : Cond) ∈ ztb := zmem (i := 12) (by decide +kernel) rfl
theorem zt13 : (Cond.selects RX10 yX10_tryRow yX10_tryRow : Cond) ∈ ztb := zmem (i := 13) (by decide +kernel) rfl
theorem zt14 : (Cond.selects RX10 yX10_offInTrial yX10_offInTrial : Cond) ∈ ztb := zmem (i := 14) (by decide +kernel) rfl
theorem zt15 : (Cond.selects RX10 yX10_offOfStirring yX10_offOfStirring : Cond) ∈ ztb := zmem (i := 15) (by decide +kernel) rfl
theorem zt16 : (Cond.selects RX10 yX10_isTrialAsSeen yX10_isTrialAsSeen : Cond) ∈ ztb := zmem (i := 16) (by decide +kernel) rfl
theorem zt17 : (Cond.selects RX10 yX10_ringsInTrial yX10_ringsInTrial : Cond) ∈ ztb := zmem (i := 17) (by decide +kernel) rfl
theorem zt18 : (Cond.selects RX7 yX7_isOverNeck yX7_isOverNeck : Cond) ∈ ztb := zmem (i := 18) (by decide +kernel) rfl
theorem zt19 : (Cond.selects RX10 yX10_hasRiver yX10_hasRiver : Cond) ∈ ztb := zmem (i := 19) (by decide +kernel) rfl
theorem zt20 : (Cond.selects RX10 yX10_withCup yX10_withCup : Cond) ∈ ztb := zmem (i := 20) (by decide +kernel) rfl
theorem zt21 : (Cond.selects RX10 yX10_withDoings yX10_withDoings : Cond) ∈ ztb := zmem (i := 21) (by decide +kernel) rfl
theorem zt22 : (Cond.selects RX10 yX10_withLeaves yX10_withLeaves : Cond) ∈ ztb := zmem (i := 22) (by decide +kernel) rfl
theorem zt23 : (Cond.selects RX10 yX10_withRows yX10_withRows : Cond) ∈ ztb := zmem (i := 23) (by decide +kernel) rfl
theorem zt24 : (Cond.selects RX10 yX10_withPictures yX10_withPictures : Cond) ∈ ztb := zmem (i := 24) (by decide +kernel) rfl
theorem zt25 : (Cond.selects RX10 yX10_withRiver yX10_withRiver : Cond) ∈ ztb := zmem (i := 25) (by decide +kernel) rfl
theorem zt26 : (Cond.selects RX11 yX11_readPage yX11_readPage : Cond) ∈ ztb := zmem (i := 26) (by decide +kernel) rfl
theorem zt27 : (Cond.selects RX11 yX11_nextCup yX11_nextCup : Cond) ∈ ztb := zmem (i := 27) (by decide +kernel) rfl
theorem zt28 : (Cond.selects RX11 yX11_nextRow yX11_nextRow : Cond) ∈ ztb := zmem (i := 28) (by decide +kernel) rfl
theorem zt29 : (Cond.selects RX11 yX11_nextRiver yX11_nextRiver : Cond) ∈ ztb := zmem (i := 29) (by decide +kernel) rfl
theorem zt30 : (Cond.selects RX11 yX11_isDoing yX11_isDoing : Cond) ∈ ztb := zmem (i := 30) (by decide +kernel) rfl
theorem zt31 : (Cond.selects RX11 yX11_isRing yX11_isRing : Cond) ∈ ztb := zmem (i := 31) (by decide +kernel) rfl
theorem zt32 : (Cond.selects RX11 yX11_isLeaf yX11_isLeaf : Cond) ∈ ztb := zmem (i := 32) (by decide +kernel) rfl
theorem zt33 : (Cond.selects RX11 yX11_leafTold yX11_leafTold : Cond) ∈ ztb := zmem (i := 33) (by decide +kernel) rfl
theorem zt34 : (Cond.selects RX11 yX11_loadLive yX11_loadLive : Cond) ∈ ztb := zmem (i := 34) (by decide +kernel) rfl
theorem zt35 : (Cond.selects RX11 yX11_pullNow yX11_pullNow : Cond) ∈ ztb := zmem (i := 35) (by decide +kernel) rfl
theorem zt36 : (Cond.selects RX11 yX11_secondNow yX11_secondNow : Cond) ∈ ztb := zmem (i := 36) (by decide +kernel) rfl
theorem zt37 : (Cond.selects RX11 yX11_goAll yX11_goAll : Cond) ∈ ztb := zmem (i := 37) (by decide +kernel) rfl
theorem zt38 : (Cond.selects RX11 yX11_goTick yX11_goTick : Cond) ∈ ztb := zmem (i := 38) (by decide +kernel) rfl
theorem zt39 : (Cond.selects RX11 yX11_stir yX11_stir : Cond) ∈ ztb := zmem (i := 39) (by decide +kernel) rfl
theorem zt40 : (Cond.selects RX11 yX11_bounded yX11_bounded : Cond) ∈ ztb := zmem (i := 40) (by decide +kernel) rfl
theorem zt41 : (Cond.selects RX11 yX11_dragTo yX11_dragTo : Cond) ∈ ztb := zmem (i := 41) (by decide +kernel) rfl
theorem zt42 : (Cond.selects RX11 yX11_moved yX11_moved : Cond) ∈ ztb := zmem (i := 42) (by decide +kernel) rfl
theorem zt43 : (Cond.selects RX11 yX11_loadStill yX11_loadStill : Cond) ∈ ztb := zmem (i := 43) (by decide +kernel) rfl
theorem zt44 : (Cond.selects RX11 yX11_isRow yX11_isRow : Cond) ∈ ztb := zmem (i := 44) (by decide +kernel) rfl
theorem zt45 : (Cond.selects RX11 yX11_layRow yX11_layRow : Cond) ∈ ztb := zmem (i := 45) (by decide +kernel) rfl
theorem zt46 : (Cond.selects RX11 yX11_begin yX11_begin : Cond) ∈ ztb := zmem (i := 46) (by decide +kernel) rfl
theorem zt47 : (Cond.selects RX11 yX11_itemKind yX11_itemKind : Cond) ∈ ztb := zmem (i := 47) (by decide +kernel) rfl
theorem zt48 : (Cond.selects RX11 yX11_itemNumber yX11_itemNumber : Cond) ∈ ztb := zmem (i := 48) (by decide +kernel) rfl
theorem zt49 : (Cond.selects RX11 yX11_oneEnds yX11_oneEnds : Cond) ∈ ztb := zmem (i := 49) (by decide +kernel) rfl
theorem zt50 : (Cond.selects RX11 yX11_offNow yX11_offNow : Cond) ∈ ztb := zmem (i := 50) (by decide +kernel) rfl
theorem zt51 : (Cond.selects RX11 yX11_differentNow yX11_differentNow : Cond) ∈ ztb := zmem (i := 51) (by decide +kernel) rfl
theorem zt52 : (Cond.selects RX11 yX11_layYears yX11_layYears : Cond) ∈ ztb := zmem (i := 52) (by decide +kernel) rfl
theorem zt53 : (Cond.selects RX11 yX11_goYear yX11_goYear : Cond) ∈ ztb := zmem (i := 53) (by decide +kernel) rfl
theorem zt54 : (Cond.selects RX11 yX11_layBends yX11_layBends : Cond) ∈ ztb := zmem (i := 54) (by decide +kernel) rfl
theorem zt55 : (Cond.selects RX11 yX11_isFree yX11_isFree : Cond) ∈ ztb := zmem (i := 55) (by decide +kernel) rfl
theorem zt56 : (Cond.selects RX11 yX11_howMany yX11_howMany : Cond) ∈ ztb := zmem (i := 56) (by decide +kernel) rfl
theorem zt57 : (Cond.selects RX11 yX11_mixCup yX11_mixCup : Cond) ∈ ztb := zmem (i := 57) (by decide +kernel) rfl
theorem zt58 : (Cond.selects RX11 yX11_mix yX11_mix : Cond) ∈ ztb := zmem (i := 58) (by decide +kernel) rfl
theorem zt59 : (Cond.selects RX11 yX11_mixRow yX11_mixRow : Cond) ∈ ztb := zmem (i := 59) (by decide +kernel) rfl
theorem zt61 : (Cond.initialized RX10 : Cond) ∈ ztb := zmem (i := 61) (by decide +kernel) rfl
theorem zt62 : (Cond.initialized RX5 : Cond) ∈ ztb := zmem (i := 62) (by decide +kernel) rfl
theorem zt63 : (Cond.initialized RX2 : Cond) ∈ ztb := zmem (i := 63) (by decide +kernel) rfl
theorem zt64 : (Cond.initialized RX9 : Cond) ∈ ztb := zmem (i := 64) (by decide +kernel) rfl
theorem zt65 : (Cond.initialized RX1 : Cond) ∈ ztb := zmem (i := 65) (by decide +kernel) rfl
theorem zt66 : (Cond.initialized RX7 : Cond) ∈ ztb := zmem (i := 66) (by decide +kernel) rfl
theorem zt67 : (Cond.initialized RX8 : Cond) ∈ ztb := zmem (i := 67) (by decide +kernel) rfl
theorem zt68 : (Cond.initialized RX4 : Cond) ∈ ztb := zmem (i := 68) (by decide +kernel) rfl
theorem zt69 : (Cond.initialized RX0 : Cond) ∈ ztb := zmem (i := 69) (by decide +kernel) rfl
theorem zt70 : (Cond.initialized RX3 : Cond) ∈ ztb := zmem (i := 70) (by decide +kernel) rfl
theorem zt71 : (Cond.initialized RX6 : Cond) ∈ ztb := zmem (i := 71) (by decide +kernel) rfl
theorem zt72 : (Cond.initialized RX11 : Cond) ∈ ztb := zmem (i := 72) (by decide +kernel) rfl
theorem zt77 : (Cond.initialized "java/lang/Math" : Cond) ∈ ztb := zmem (i := 77) (by decide +kernel) rfl
theorem zt83 : (Cond.methodLink RX10 1 objectInit : Cond) ∈ ztb := zmem (i := 83) (by decide +kernel) rfl
theorem zt84 : (Cond.instanceMethod objectInit : Cond) ∈ ztb := zmem (i := 84) (by decide +kernel) rfl
theorem zt85 : (Cond.code objectInit ⟨#[0xb1]⟩ 1 none : Cond) ∈ ztb := zmem (i := 85) (by decide +kernel) rfl
theorem zt86 : (Cond.classLink RX10 7 RX5 : Cond) ∈ ztb := zmem (i := 86) (by decide +kernel) rfl
theorem zt87 : (Cond.instantiable RX5 2 : Cond) ∈ ztb := zmem (i := 87) (by decide +kernel) rfl
theorem zt88 : (Cond.methodLinkNest RX10 9 yX5_init "LeavesInCups" : Cond) ∈ lw_tbl := List.mem_of_getElem? (i := 88) (by decide +kernel)
theorem zt89 : (Cond.instanceMethod yX5_init : Cond) ∈ ztb := zmem (i := 89) (by decide +kernel) rfl
theorem zt90 : (Cond.code yX5_init cX5_init 1 none : Cond) ∈ ztb := zmem (i := 90) (by decide +kernel) rfl
theorem zt91 : (Cond.methodLink RX5 3 objectInit : Cond) ∈ ztb := zmem (i := 91) (by decide +kernel) rfl
theorem zt92 : (Cond.fieldLink RX5 9 "LeavesInCups$Page" "codes" "[I" : Cond) ∈ ztb := zmem (i := 92) (by decide +kernel) rfl
theorem zt93 : (Cond.fieldLinkNest RX10 318 "LeavesInCups$Page" "codes" "[I" "LeavesInCups" : Cond) ∈ lw_tbl := List.mem_of_getElem? (i := 93) (by decide +kernel)
theorem zt94 : (Cond.fieldLink RX5 15 "LeavesInCups$Page" "many" "I" : Cond) ∈ ztb := zmem (i := 94) (by decide +kernel) rfl
theorem zt95 : (Cond.fieldLinkNest RX10 294 "LeavesInCups$Page" "many" "I" "LeavesInCups" : Cond) ∈ lw_tbl := List.mem_of_getElem? (i := 95) (by decide +kernel)
theorem zt101 : (Cond.arrayClass .int : Cond) ∈ ztb := zmem (i := 101) (by decide +kernel) rfl
theorem zt102 : (Cond.classLink RX10 16 RX2 : Cond) ∈ ztb := zmem (i := 102) (by decide +kernel) rfl
theorem zt103 : (Cond.instantiable RX2 2 : Cond) ∈ ztb := zmem (i := 103) (by decide +kernel) rfl
theorem zt104 : (Cond.methodLink RX10 18 yX2_init : Cond) ∈ ztb := zmem (i := 104) (by decide +kernel) rfl
theorem zt105 : (Cond.instanceMethod yX2_init : Cond) ∈ ztb := zmem (i := 105) (by decide +kernel) rfl
theorem zt106 : (Cond.code yX2_init cX2_init 3 none : Cond) ∈ ztb := zmem (i := 106) (by decide +kernel) rfl
theorem zt107 : (Cond.methodLink RX2 3 objectInit : Cond) ∈ ztb := zmem (i := 107) (by decide +kernel) rfl
theorem zt108 : (Cond.fieldLink RX2 9 "LeavesInCups$Doing" "kind" "I" : Cond) ∈ ztb := zmem (i := 108) (by decide +kernel) rfl
theorem zt109 : (Cond.fieldLinkNest RX0 71 "LeavesInCups$Doing" "kind" "I" "LeavesInCups" : Cond) ∈ lw_tbl := List.mem_of_getElem? (i := 109) (by decide +kernel)
theorem zt110 : (Cond.fieldLinkNest RX10 324 "LeavesInCups$Doing" "kind" "I" "LeavesInCups" : Cond) ∈ lw_tbl := List.mem_of_getElem? (i := 110) (by decide +kernel)
theorem zt111 : (Cond.fieldLink RX2 15 "LeavesInCups$Doing" "n" "I" : Cond) ∈ ztb := zmem (i := 111) (by decide +kernel) rfl
theorem zt112 : (Cond.fieldLinkNest RX10 327 "LeavesInCups$Doing" "n" "I" "LeavesInCups" : Cond) ∈ lw_tbl := List.mem_of_getElem? (i := 112) (by decide +kernel)
theorem zt119 : (Cond.classLink RX10 33 RX1 : Cond) ∈ ztb := zmem (i := 119) (by decide +kernel) rfl
theorem zt120 : (Cond.instantiable RX1 2 : Cond) ∈ ztb := zmem (i := 120) (by decide +kernel) rfl
theorem zt121 : (Cond.methodLinkNest RX10 35 yX1_init "LeavesInCups" : Cond) ∈ lw_tbl := List.mem_of_getElem? (i := 121) (by decide +kernel)
theorem zt122 : (Cond.instanceMethod yX1_init : Cond) ∈ ztb := zmem (i := 122) (by decide +kernel) rfl
theorem zt123 : (Cond.code yX1_init cX1_init 1 none : Cond) ∈ ztb := zmem (i := 123) (by decide +kernel) rfl
theorem zt124 : (Cond.methodLinkNest RX1 3 yX9_init "LeavesInCups" : Cond) ∈ lw_tbl := List.mem_of_getElem? (i := 124) (by decide +kernel)
theorem zt125 : (Cond.instanceMethod yX9_init : Cond) ∈ ztb := zmem (i := 125) (by decide +kernel) rfl
theorem zt126 : (Cond.code yX9_init cX9_init 1 none : Cond) ∈ ztb := zmem (i := 126) (by decide +kernel) rfl
theorem zt127 : (Cond.methodLink RX9 3 objectInit : Cond) ∈ ztb := zmem (i := 127) (by decide +kernel) rfl
theorem zt128 : (Cond.fieldLink RX1 9 "LeavesInCups$Cup" "told" "[I" : Cond) ∈ ztb := zmem (i := 128) (by decide +kernel) rfl
theorem zt129 : (Cond.fieldLinkNest RX10 152 "LeavesInCups$Cup" "told" "[I" "LeavesInCups" : Cond) ∈ lw_tbl := List.mem_of_getElem? (i := 129) (by decide +kernel)
theorem zt130 : (Cond.fieldLink RX1 13 "LeavesInCups$Cup" "taken" "I" : Cond) ∈ ztb := zmem (i := 130) (by decide +kernel) rfl
theorem zt136 : (Cond.classLink RX10 46 RX7 : Cond) ∈ ztb := zmem (i := 136) (by decide +kernel) rfl
theorem zt137 : (Cond.instantiable RX7 6 : Cond) ∈ ztb := zmem (i := 137) (by decide +kernel) rfl
theorem zt138 : (Cond.methodLinkNest RX10 48 yX7_init "LeavesInCups" : Cond) ∈ lw_tbl := List.mem_of_getElem? (i := 138) (by decide +kernel)
theorem zt139 : (Cond.instanceMethod yX7_init : Cond) ∈ ztb := zmem (i := 139) (by decide +kernel) rfl
theorem zt140 : (Cond.code yX7_init cX7_init 1 none : Cond) ∈ ztb := zmem (i := 140) (by decide +kernel) rfl
theorem zt141 : (Cond.methodLinkNest RX7 3 yX9_init "LeavesInCups" : Cond) ∈ lw_tbl := List.mem_of_getElem? (i := 141) (by decide +kernel)
theorem zt142 : (Cond.fieldLink RX7 9 "LeavesInCups$Rive\x72" "told" "[I" : Cond) ∈ ztb := zmem (i := 142) (by decide +kernel) rfl
theorem zt143 : (Cond.fieldLinkNest RX10 348 "LeavesInCups$Rive\x72" "told" "[I" "LeavesInCups" : Cond) ∈ lw_tbl := List.mem_of_getElem? (i := 143) (by decide +kernel)
theorem zt144 : (Cond.fieldLink RX7 15 "LeavesInCups$Rive\x72" "held" "[Z" : Cond) ∈ ztb := zmem (i := 144) (by decide +kernel) rfl
theorem zt145 : (Cond.fieldLinkNest RX10 349 "LeavesInCups$Rive\x72" "held" "[Z" "LeavesInCups" : Cond) ∈ lw_tbl := List.mem_of_getElem? (i := 145) (by decide +kernel)
theorem zt146 : (Cond.fieldLink RX7 19 "LeavesInCups$Rive\x72" "now" "[I" : Cond) ∈ ztb := zmem (i := 146) (by decide +kernel) rfl
theorem zt147 : (Cond.fieldLinkNest RX10 265 "LeavesInCups$Rive\x72" "now" "[I" "LeavesInCups" : Cond) ∈ lw_tbl := List.mem_of_getElem? (i := 147) (by decide +kernel)
theorem zt148 : (Cond.fieldLink RX7 22 "LeavesInCups$Rive\x72" "before" "[I" : Cond) ∈ ztb := zmem (i := 148) (by decide +kernel) rfl
theorem zt149 : (Cond.fieldLink RX7 25 "LeavesInCups$Rive\x72" "points" "I" : Cond) ∈ ztb := zmem (i := 149) (by decide +kernel) rfl
theorem zt150 : (Cond.fieldLinkNest RX10 141 "LeavesInCups$Rive\x72" "points" "I" "LeavesInCups" : Cond) ∈ lw_tbl := List.mem_of_getElem? (i := 150) (by decide +kernel)
theorem zt151 : (Cond.fieldLink RX7 29 "LeavesInCups$Rive\x72" "at" "I" : Cond) ∈ ztb := zmem (i := 151) (by decide +kernel) rfl
theorem zt165 : (Cond.arrayClass .boolean : Cond) ∈ ztb := zmem (i := 165) (by decide +kernel) rfl
theorem zt166 : (Cond.classLink RX10 56 RX8 : Cond) ∈ ztb := zmem (i := 166) (by decide +kernel) rfl
theorem zt168 : (Cond.instantiable RX8 4 : Cond) ∈ ztb := zmem (i := 168) (by decide +kernel) rfl
theorem zt169 : (Cond.methodLinkNest RX10 62 yX8_init "LeavesInCups" : Cond) ∈ lw_tbl := List.mem_of_getElem? (i := 169) (by decide +kernel)
theorem zt170 : (Cond.instanceMethod yX8_init : Cond) ∈ ztb := zmem (i := 170) (by decide +kernel) rfl
theorem zt171 : (Cond.code yX8_init cX8_init 1 none : Cond) ∈ ztb := zmem (i := 171) (by decide +kernel) rfl
theorem zt172 : (Cond.methodLinkNest RX8 3 yX9_init "LeavesInCups" : Cond) ∈ lw_tbl := List.mem_of_getElem? (i := 172) (by decide +kernel)
theorem zt173 : (Cond.fieldLink RX8 9 "LeavesInCups$Row" "doing" "[I" : Cond) ∈ ztb := zmem (i := 173) (by decide +kernel) rfl
theorem zt174 : (Cond.fieldLinkNest RX10 336 "LeavesInCups$Row" "doing" "[I" "LeavesInCups" : Cond) ∈ lw_tbl := List.mem_of_getElem? (i := 174) (by decide +kernel)
theorem zt175 : (Cond.fieldLink RX8 15 "LeavesInCups$Row" "ticking" "[I" : Cond) ∈ ztb := zmem (i := 175) (by decide +kernel) rfl
theorem zt176 : (Cond.fieldLinkNest RX10 339 "LeavesInCups$Row" "ticking" "[I" "LeavesInCups" : Cond) ∈ lw_tbl := List.mem_of_getElem? (i := 176) (by decide +kernel)
theorem zt177 : (Cond.fieldLink RX8 18 "LeavesInCups$Row" "items" "I" : Cond) ∈ ztb := zmem (i := 177) (by decide +kernel) rfl
theorem zt178 : (Cond.fieldLinkNest RX10 333 "LeavesInCups$Row" "items" "I" "LeavesInCups" : Cond) ∈ lw_tbl := List.mem_of_getElem? (i := 178) (by decide +kernel)
theorem zt179 : (Cond.fieldLink RX8 22 "LeavesInCups$Row" "at" "I" : Cond) ∈ ztb := zmem (i := 179) (by decide +kernel) rfl
theorem zt189 : (Cond.classLink RX10 70 RX4 : Cond) ∈ ztb := zmem (i := 189) (by decide +kernel) rfl
theorem zt190 : (Cond.instantiable RX4 5 : Cond) ∈ ztb := zmem (i := 190) (by decide +kernel) rfl
theorem zt191 : (Cond.methodLink RX10 72 yX4_init : Cond) ∈ ztb := zmem (i := 191) (by decide +kernel) rfl
theorem zt192 : (Cond.instanceMethod yX4_init : Cond) ∈ ztb := zmem (i := 192) (by decide +kernel) rfl
theorem zt193 : (Cond.code yX4_init cX4_init 2 none : Cond) ∈ ztb := zmem (i := 193) (by decide +kernel) rfl
theorem zt194 : (Cond.methodLink RX4 3 objectInit : Cond) ∈ ztb := zmem (i := 194) (by decide +kernel) rfl
theorem zt195 : (Cond.fieldLink RX4 15 "LeavesInCups$Leaves" "told" "[I" : Cond) ∈ ztb := zmem (i := 195) (by decide +kernel) rfl
theorem zt196 : (Cond.fieldLinkNest RX0 26 "LeavesInCups$Leaves" "told" "[I" "LeavesInCups" : Cond) ∈ lw_tbl := List.mem_of_getElem? (i := 196) (by decide +kernel)
theorem zt197 : (Cond.fieldLinkNest RX10 183 "LeavesInCups$Leaves" "told" "[I" "LeavesInCups" : Cond) ∈ lw_tbl := List.mem_of_getElem? (i := 197) (by decide +kernel)
theorem zt198 : (Cond.fieldLink RX4 19 "LeavesInCups$Leaves" "weight" "[I" : Cond) ∈ ztb := zmem (i := 198) (by decide +kernel) rfl
theorem zt199 : (Cond.fieldLinkNest RX0 100 "LeavesInCups$Leaves" "weight" "[I" "LeavesInCups" : Cond) ∈ lw_tbl := List.mem_of_getElem? (i := 199) (by decide +kernel)
theorem zt200 : (Cond.fieldLinkNest RX10 184 "LeavesInCups$Leaves" "weight" "[I" "LeavesInCups" : Cond) ∈ lw_tbl := List.mem_of_getElem? (i := 200) (by decide +kernel)
theorem zt201 : (Cond.fieldLink RX4 22 "LeavesInCups$Leaves" "stick" "[I" : Cond) ∈ ztb := zmem (i := 201) (by decide +kernel) rfl
theorem zt202 : (Cond.fieldLinkNest RX0 90 "LeavesInCups$Leaves" "stick" "[I" "LeavesInCups" : Cond) ∈ lw_tbl := List.mem_of_getElem? (i := 202) (by decide +kernel)
theorem zt203 : (Cond.fieldLinkNest RX10 187 "LeavesInCups$Leaves" "stick" "[I" "LeavesInCups" : Cond) ∈ lw_tbl := List.mem_of_getElem? (i := 203) (by decide +kernel)
theorem zt204 : (Cond.fieldLink RX4 25 "LeavesInCups$Leaves" "seen" "[I" : Cond) ∈ ztb := zmem (i := 204) (by decide +kernel) rfl
theorem zt205 : (Cond.fieldLinkNest RX3 44 "LeavesInCups$Leaves" "seen" "[I" "LeavesInCups" : Cond) ∈ lw_tbl := List.mem_of_getElem? (i := 205) (by decide +kernel)
theorem zt206 : (Cond.fieldLinkNest RX10 194 "LeavesInCups$Leaves" "seen" "[I" "LeavesInCups" : Cond) ∈ lw_tbl := List.mem_of_getElem? (i := 206) (by decide +kernel)
theorem zt207 : (Cond.fieldLink RX4 9 "LeavesInCups$Leaves" "many" "I" : Cond) ∈ ztb := zmem (i := 207) (by decide +kernel) rfl
theorem zt208 : (Cond.fieldLinkNest RX0 20 "LeavesInCups$Leaves" "many" "I" "LeavesInCups" : Cond) ∈ lw_tbl := List.mem_of_getElem? (i := 208) (by decide +kernel)
theorem zt209 : (Cond.fieldLinkNest RX3 29 "LeavesInCups$Leaves" "many" "I" "LeavesInCups" : Cond) ∈ lw_tbl := List.mem_of_getElem? (i := 209) (by decide +kernel)
theorem zt210 : (Cond.fieldLinkNest RX10 197 "LeavesInCups$Leaves" "many" "I" "LeavesInCups" : Cond) ∈ lw_tbl := List.mem_of_getElem? (i := 210) (by decide +kernel)
theorem zt222 : (Cond.classLink RX10 82 RX0 : Cond) ∈ ztb := zmem (i := 222) (by decide +kernel) rfl
theorem zt223 : (Cond.instantiable RX0 2 : Cond) ∈ ztb := zmem (i := 223) (by decide +kernel) rfl
theorem zt224 : (Cond.methodLinkNest RX10 84 yX0_init "LeavesInCups" : Cond) ∈ lw_tbl := List.mem_of_getElem? (i := 224) (by decide +kernel)
theorem zt225 : (Cond.instanceMethod yX0_init : Cond) ∈ ztb := zmem (i := 225) (by decide +kernel) rfl
theorem zt226 : (Cond.code yX0_init cX0_init 1 none : Cond) ∈ ztb := zmem (i := 226) (by decide +kernel) rfl
theorem zt227 : (Cond.methodLink RX0 3 objectInit : Cond) ∈ ztb := zmem (i := 227) (by decide +kernel) rfl
theorem zt228 : (Cond.classLink RX0 9 "[[I" : Cond) ∈ ztb := zmem (i := 228) (by decide +kernel) rfl
theorem zt230 : (Cond.fieldLink RX0 11 "LeavesInCups$Brew" "rounds" "[[I" : Cond) ∈ ztb := zmem (i := 230) (by decide +kernel) rfl
theorem zt231 : (Cond.fieldLinkNest RX10 211 "LeavesInCups$Brew" "rounds" "[[I" "LeavesInCups" : Cond) ∈ lw_tbl := List.mem_of_getElem? (i := 231) (by decide +kernel)
theorem zt232 : (Cond.fieldLink RX0 16 "LeavesInCups$Brew" "lying" "[I" : Cond) ∈ ztb := zmem (i := 232) (by decide +kernel) rfl
theorem zt233 : (Cond.fieldLinkNest RX10 180 "LeavesInCups$Brew" "lying" "[I" "LeavesInCups" : Cond) ∈ lw_tbl := List.mem_of_getElem? (i := 233) (by decide +kernel)
theorem zt239 : (Cond.classLink RX10 92 RX3 : Cond) ∈ ztb := zmem (i := 239) (by decide +kernel) rfl
theorem zt240 : (Cond.instantiable RX3 4 : Cond) ∈ ztb := zmem (i := 240) (by decide +kernel) rfl
theorem zt241 : (Cond.methodLinkNest RX10 94 yX3_init "LeavesInCups" : Cond) ∈ lw_tbl := List.mem_of_getElem? (i := 241) (by decide +kernel)
theorem zt242 : (Cond.instanceMethod yX3_init : Cond) ∈ ztb := zmem (i := 242) (by decide +kernel) rfl
theorem zt243 : (Cond.code yX3_init cX3_init 1 none : Cond) ∈ ztb := zmem (i := 243) (by decide +kernel) rfl
theorem zt244 : (Cond.methodLink RX3 3 objectInit : Cond) ∈ ztb := zmem (i := 244) (by decide +kernel) rfl
theorem zt245 : (Cond.classLink RX3 9 RX0 : Cond) ∈ ztb := zmem (i := 245) (by decide +kernel) rfl
theorem zt246 : (Cond.methodLinkNest RX3 11 yX0_init "LeavesInCups" : Cond) ∈ lw_tbl := List.mem_of_getElem? (i := 246) (by decide +kernel)
theorem zt247 : (Cond.fieldLink RX3 12 "LeavesInCups$Image" "brew" "LLeavesInCups$Brew;" : Cond) ∈ ztb := zmem (i := 247) (by decide +kernel) rfl
theorem zt248 : (Cond.fieldLink RX3 18 "LeavesInCups$Image" "wanted" "[I" : Cond) ∈ ztb := zmem (i := 248) (by decide +kernel) rfl
theorem zt249 : (Cond.fieldLink RX3 22 "LeavesInCups$Image" "seen" "[I" : Cond) ∈ ztb := zmem (i := 249) (by decide +kernel) rfl
theorem zt250 : (Cond.fieldLink RX3 25 "LeavesInCups$Image" "leavesThen" "I" : Cond) ∈ ztb := zmem (i := 250) (by decide +kernel) rfl
theorem zt260 : (Cond.classLink RX10 106 RX6 : Cond) ∈ ztb := zmem (i := 260) (by decide +kernel) rfl
theorem zt261 : (Cond.instantiable RX6 3 : Cond) ∈ ztb := zmem (i := 261) (by decide +kernel) rfl
theorem zt262 : (Cond.methodLinkNest RX10 108 yX6_init "LeavesInCups" : Cond) ∈ lw_tbl := List.mem_of_getElem? (i := 262) (by decide +kernel)
theorem zt263 : (Cond.instanceMethod yX6_init : Cond) ∈ ztb := zmem (i := 263) (by decide +kernel) rfl
theorem zt264 : (Cond.code yX6_init cX6_init 1 none : Cond) ∈ ztb := zmem (i := 264) (by decide +kernel) rfl
theorem zt265 : (Cond.methodLink RX6 3 objectInit : Cond) ∈ ztb := zmem (i := 265) (by decide +kernel) rfl
theorem zt266 : (Cond.fieldLink RX6 9 "LeavesInCups$Pictures" "ahead" "[I" : Cond) ∈ ztb := zmem (i := 266) (by decide +kernel) rfl
theorem zt267 : (Cond.fieldLinkNest RX10 342 "LeavesInCups$Pictures" "ahead" "[I" "LeavesInCups" : Cond) ∈ lw_tbl := List.mem_of_getElem? (i := 267) (by decide +kernel)
theorem zt268 : (Cond.fieldLink RX6 15 "LeavesInCups$Pictures" "behind" "[I" : Cond) ∈ ztb := zmem (i := 268) (by decide +kernel) rfl
theorem zt269 : (Cond.fieldLinkNest RX10 345 "LeavesInCups$Pictures" "behind" "[I" "LeavesInCups" : Cond) ∈ lw_tbl := List.mem_of_getElem? (i := 269) (by decide +kernel)
theorem zt270 : (Cond.fieldLink RX6 18 "LeavesInCups$Pictures" "many" "I" : Cond) ∈ ztb := zmem (i := 270) (by decide +kernel) rfl
theorem zt271 : (Cond.fieldLinkNest RX10 293 "LeavesInCups$Pictures" "many" "I" "LeavesInCups" : Cond) ∈ lw_tbl := List.mem_of_getElem? (i := 271) (by decide +kernel)
theorem zt279 : (Cond.fieldLink RX10 10 "LeavesInCups" "page" "LLeavesInCups$Page;" : Cond) ∈ ztb := zmem (i := 279) (by decide +kernel) rfl
theorem zt280 : (Cond.fieldLink RX10 21 "LeavesInCups" "resting" "LLeavesInCups$Doing;" : Cond) ∈ ztb := zmem (i := 280) (by decide +kernel) rfl
theorem zt281 : (Cond.fieldLink RX10 25 "LeavesInCups" "doings" "[LLeavesInCups$Doing;" : Cond) ∈ ztb := zmem (i := 281) (by decide +kernel) rfl
theorem zt282 : (Cond.fieldLink RX10 29 "LeavesInCups" "doingCount" "I" : Cond) ∈ ztb := zmem (i := 282) (by decide +kernel) rfl
theorem zt283 : (Cond.fieldLink RX10 36 "LeavesInCups" "theCup" "LLeavesInCups$Cup;" : Cond) ∈ ztb := zmem (i := 283) (by decide +kernel) rfl
theorem zt284 : (Cond.fieldLink RX10 40 "LeavesInCups" "triedCup" "LLeavesInCups$Cup;" : Cond) ∈ ztb := zmem (i := 284) (by decide +kernel) rfl
theorem zt285 : (Cond.fieldLink RX10 43 "LeavesInCups" "cupsRead" "I" : Cond) ∈ ztb := zmem (i := 285) (by decide +kernel) rfl
theorem zt286 : (Cond.fieldLink RX10 49 "LeavesInCups" "theRive\x72" "LLeavesInCups$River;" : Cond) ∈ ztb := zmem (i := 286) (by decide +kernel) rfl
theorem zt287 : (Cond.fieldLink RX10 53 "LeavesInCups" "triedRive\x72" "LLeavesInCups$River;" : Cond) ∈ ztb := zmem (i := 287) (by decide +kernel) rfl
theorem zt288 : (Cond.fieldLink RX10 58 "LeavesInCups" "rows" "[LLeavesInCups$Row;" : Cond) ∈ ztb := zmem (i := 288) (by decide +kernel) rfl
theorem zt289 : (Cond.fieldLink RX10 63 "LeavesInCups" "triedRow" "LLeavesInCups$Row;" : Cond) ∈ ztb := zmem (i := 289) (by decide +kernel) rfl
theorem zt290 : (Cond.fieldLink RX10 67 "LeavesInCups" "rowCount" "I" : Cond) ∈ ztb := zmem (i := 290) (by decide +kernel) rfl
theorem zt291 : (Cond.fieldLink RX10 75 "LeavesInCups" "leaves" "LLeavesInCups$Leaves;" : Cond) ∈ ztb := zmem (i := 291) (by decide +kernel) rfl
theorem zt292 : (Cond.fieldLink RX10 79 "LeavesInCups" "weighed" "LLeavesInCups$Leaves;" : Cond) ∈ ztb := zmem (i := 292) (by decide +kernel) rfl
theorem zt293 : (Cond.fieldLink RX10 85 "LeavesInCups" "brew" "LLeavesInCups$Brew;" : Cond) ∈ ztb := zmem (i := 293) (by decide +kernel) rfl
theorem zt294 : (Cond.fieldLink RX10 89 "LeavesInCups" "trial" "LLeavesInCups$Brew;" : Cond) ∈ ztb := zmem (i := 294) (by decide +kernel) rfl
theorem zt295 : (Cond.fieldLink RX10 95 "LeavesInCups" "kept" "LLeavesInCups$Image;" : Cond) ∈ ztb := zmem (i := 295) (by decide +kernel) rfl
theorem zt296 : (Cond.fieldLink RX10 99 "LeavesInCups" "wanted" "[I" : Cond) ∈ ztb := zmem (i := 296) (by decide +kernel) rfl
theorem zt297 : (Cond.fieldLink RX10 103 "LeavesInCups" "findings" "I" : Cond) ∈ ztb := zmem (i := 297) (by decide +kernel) rfl
theorem zt298 : (Cond.fieldLink RX10 109 "LeavesInCups" "pictures" "LLeavesInCups$Pictures;" : Cond) ∈ ztb := zmem (i := 298) (by decide +kernel) rfl
theorem zt344 : (Cond.methodLink RX10 113 yX5_append : Cond) ∈ ztb := zmem (i := 344) (by decide +kernel) rfl
theorem zt345 : (Cond.instanceMethod yX5_append : Cond) ∈ ztb := zmem (i := 345) (by decide +kernel) rfl
theorem zt346 : (Cond.selects RX5 yX5_append yX5_append : Cond) ∈ ztb := zmem (i := 346) (by decide +kernel) rfl
theorem zt347 : (Cond.code yX5_append cX5_append 5 (some .int) : Cond) ∈ ztb := zmem (i := 347) (by decide +kernel) rfl
theorem zt348 : (Cond.methodLink RX5 19 yX5_lettersIn : Cond) ∈ ztb := zmem (i := 348) (by decide +kernel) rfl
theorem zt349 : (Cond.static yX5_lettersIn : Cond) ∈ ztb := zmem (i := 349) (by decide +kernel) rfl
theorem zt350 : (Cond.code yX5_lettersIn cX5_lettersIn 5 (some .int) : Cond) ∈ ztb := zmem (i := 350) (by decide +kernel) rfl
theorem zt351 : (Cond.methodLink RX5 23 yX5_byteOf : Cond) ∈ ztb := zmem (i := 351) (by decide +kernel) rfl
theorem zt352 : (Cond.static yX5_byteOf : Cond) ∈ ztb := zmem (i := 352) (by decide +kernel) rfl
theorem zt353 : (Cond.code yX5_byteOf cX5_byteOf 3 (some .int) : Cond) ∈ ztb := zmem (i := 353) (by decide +kernel) rfl
theorem zt354 : (Cond.constantLong RX5 27 255 : Cond) ∈ ztb := zmem (i := 354) (by decide +kernel) rfl
theorem zt359 : (Cond.methodLink RX10 117 yX5_clear : Cond) ∈ ztb := zmem (i := 359) (by decide +kernel) rfl
theorem zt360 : (Cond.instanceMethod yX5_clear : Cond) ∈ ztb := zmem (i := 360) (by decide +kernel) rfl
theorem zt361 : (Cond.selects RX5 yX5_clear yX5_clear : Cond) ∈ ztb := zmem (i := 361) (by decide +kernel) rfl
theorem zt362 : (Cond.code yX5_clear cX5_clear 2 (some .int) : Cond) ∈ ztb := zmem (i := 362) (by decide +kernel) rfl
theorem zt367 : (Cond.methodLink RX10 121 yX5_firstWrong : Cond) ∈ ztb := zmem (i := 367) (by decide +kernel) rfl
theorem zt368 : (Cond.instanceMethod yX5_firstWrong : Cond) ∈ ztb := zmem (i := 368) (by decide +kernel) rfl
theorem zt369 : (Cond.selects RX5 yX5_firstWrong yX5_firstWrong : Cond) ∈ ztb := zmem (i := 369) (by decide +kernel) rfl
theorem zt370 : (Cond.code yX5_firstWrong cX5_firstWrong 3 (some .int) : Cond) ∈ ztb := zmem (i := 370) (by decide +kernel) rfl
theorem zt371 : (Cond.methodLink RX5 29 ⟨RX9, "begin", "()V"⟩ : Cond) ∈ ztb := zmem (i := 371) (by decide +kernel) rfl
theorem zt372 : (Cond.declares ⟨RX9, "begin", "()V"⟩ : Cond) ∈ lw_tbl := List.mem_of_getElem? (i := 372) (by decide +kernel)
theorem zt373 : (Cond.sameMethod RX9 RX9 "begin" "()V" : Cond) ∈ ztb := zmem (i := 373) (by decide +kernel) rfl
theorem zt374 : (Cond.selects RX1 ⟨RX9, "begin", "()V"⟩ yX1_begin : Cond) ∈ ztb := zmem (i := 374) (by decide +kernel) rfl
theorem zt375 : (Cond.instanceMethod yX1_begin : Cond) ∈ ztb := zmem (i := 375) (by decide +kernel) rfl
theorem zt376 : (Cond.code yX1_begin cX1_begin 2 none : Cond) ∈ ztb := zmem (i := 376) (by decide +kernel) rfl
theorem zt377 : (Cond.selects RX7 ⟨RX9, "begin", "()V"⟩ yX7_begin : Cond) ∈ ztb := zmem (i := 377) (by decide +kernel) rfl
theorem zt378 : (Cond.instanceMethod yX7_begin : Cond) ∈ ztb := zmem (i := 378) (by decide +kernel) rfl
theorem zt379 : (Cond.code yX7_begin cX7_begin 1 none : Cond) ∈ ztb := zmem (i := 379) (by decide +kernel) rfl
theorem zt380 : (Cond.selects RX8 ⟨RX9, "begin", "()V"⟩ yX8_begin : Cond) ∈ ztb := zmem (i := 380) (by decide +kernel) rfl
theorem zt381 : (Cond.instanceMethod yX8_begin : Cond) ∈ ztb := zmem (i := 381) (by decide +kernel) rfl
theorem zt382 : (Cond.code yX8_begin cX8_begin 1 none : Cond) ∈ ztb := zmem (i := 382) (by decide +kernel) rfl
theorem zt383 : (Cond.methodLink RX5 34 ⟨RX9, "takes", "(I)Z"⟩ : Cond) ∈ ztb := zmem (i := 383) (by decide +kernel) rfl
theorem zt384 : (Cond.declares ⟨RX9, "takes", "(I)Z"⟩ : Cond) ∈ lw_tbl := List.mem_of_getElem? (i := 384) (by decide +kernel)
theorem zt385 : (Cond.sameMethod RX9 RX9 "takes" "(I)Z" : Cond) ∈ ztb := zmem (i := 385) (by decide +kernel) rfl
theorem zt386 : (Cond.selects RX1 ⟨RX9, "takes", "(I)Z"⟩ yX1_takes : Cond) ∈ ztb := zmem (i := 386) (by decide +kernel) rfl
theorem zt387 : (Cond.instanceMethod yX1_takes : Cond) ∈ ztb := zmem (i := 387) (by decide +kernel) rfl
theorem zt388 : (Cond.code yX1_takes cX1_takes 5 (some .boolean) : Cond) ∈ ztb := zmem (i := 388) (by decide +kernel) rfl
theorem zt430 : (Cond.methodLink RX1 25 ⟨RX1, "digitOf", "(I)I"⟩ : Cond) ∈ ztb := zmem (i := 430) (by decide +kernel) rfl
theorem zt431 : (Cond.sameMethod RX1 RX9 "digitOf" "(I)I" : Cond) ∈ ztb := zmem (i := 431) (by decide +kernel) rfl
theorem zt432 : (Cond.static yX9_digitOf : Cond) ∈ ztb := zmem (i := 432) (by decide +kernel) rfl
theorem zt433 : (Cond.code yX9_digitOf cX9_digitOf 1 (some .int) : Cond) ∈ ztb := zmem (i := 433) (by decide +kernel) rfl
theorem zt434 : (Cond.fieldLink RX1 29 "LeavesInCups$Cup" "LEAST" "[I" : Cond) ∈ ztb := zmem (i := 434) (by decide +kernel) rfl
theorem zt436 : (Cond.fieldLink RX1 32 "LeavesInCups$Cup" "MOST" "[I" : Cond) ∈ ztb := zmem (i := 436) (by decide +kernel) rfl
theorem zt438 : (Cond.selects RX7 ⟨RX9, "takes", "(I)Z"⟩ yX7_takes : Cond) ∈ ztb := zmem (i := 438) (by decide +kernel) rfl
theorem zt439 : (Cond.instanceMethod yX7_takes : Cond) ∈ ztb := zmem (i := 439) (by decide +kernel) rfl
theorem zt440 : (Cond.code yX7_takes cX7_takes 2 (some .boolean) : Cond) ∈ ztb := zmem (i := 440) (by decide +kernel) rfl
theorem zt441 : (Cond.methodLink RX7 32 ⟨RX7, "digitOf", "(I)I"⟩ : Cond) ∈ ztb := zmem (i := 441) (by decide +kernel) rfl
theorem zt442 : (Cond.sameMethod RX7 RX9 "digitOf" "(I)I" : Cond) ∈ ztb := zmem (i := 442) (by decide +kernel) rfl
theorem zt443 : (Cond.methodLink RX7 36 yX7_takesFirstDigit : Cond) ∈ ztb := zmem (i := 443) (by decide +kernel) rfl
theorem zt445 : (Cond.instanceMethod yX7_takesFirstDigit : Cond) ∈ ztb := zmem (i := 445) (by decide +kernel) rfl
theorem zt446 : (Cond.code yX7_takesFirstDigit cX7_takesFirstDigit 2 (some .boolean) : Cond) ∈ ztb := zmem (i := 446) (by decide +kernel) rfl
theorem zt447 : (Cond.methodLink RX7 40 yX7_takesMore : Cond) ∈ ztb := zmem (i := 447) (by decide +kernel) rfl
theorem zt449 : (Cond.instanceMethod yX7_takesMore : Cond) ∈ ztb := zmem (i := 449) (by decide +kernel) rfl
theorem zt450 : (Cond.code yX7_takesMore cX7_takesMore 3 (some .boolean) : Cond) ∈ ztb := zmem (i := 450) (by decide +kernel) rfl
theorem zt451 : (Cond.methodLink RX7 43 ⟨RX7, "longe\x72", "(III)I"⟩ : Cond) ∈ ztb := zmem (i := 451) (by decide +kernel) rfl
theorem zt452 : (Cond.sameMethod RX7 RX9 "longe\x72" "(III)I" : Cond) ∈ ztb := zmem (i := 452) (by decide +kernel) rfl
theorem zt453 : (Cond.static yX9_longer : Cond) ∈ ztb := zmem (i := 453) (by decide +kernel) rfl
theorem zt454 : (Cond.code yX9_longer cX9_longer 4 (some .int) : Cond) ∈ ztb := zmem (i := 454) (by decide +kernel) rfl
theorem zt455 : (Cond.methodLink RX9 9 yX9_digitOf : Cond) ∈ ztb := zmem (i := 455) (by decide +kernel) rfl
theorem zt456 : (Cond.selects RX8 ⟨RX9, "takes", "(I)Z"⟩ yX8_takes : Cond) ∈ ztb := zmem (i := 456) (by decide +kernel) rfl
theorem zt457 : (Cond.instanceMethod yX8_takes : Cond) ∈ ztb := zmem (i := 457) (by decide +kernel) rfl
theorem zt458 : (Cond.code yX8_takes cX8_takes 2 (some .boolean) : Cond) ∈ ztb := zmem (i := 458) (by decide +kernel) rfl
theorem zt459 : (Cond.methodLink RX8 25 ⟨RX8, "digitOf", "(I)I"⟩ : Cond) ∈ ztb := zmem (i := 459) (by decide +kernel) rfl
theorem zt460 : (Cond.sameMethod RX8 RX9 "digitOf" "(I)I" : Cond) ∈ ztb := zmem (i := 460) (by decide +kernel) rfl
theorem zt461 : (Cond.methodLink RX8 29 yX8_takesDoing : Cond) ∈ ztb := zmem (i := 461) (by decide +kernel) rfl
theorem zt463 : (Cond.instanceMethod yX8_takesDoing : Cond) ∈ ztb := zmem (i := 463) (by decide +kernel) rfl
theorem zt464 : (Cond.code yX8_takesDoing cX8_takesDoing 2 (some .boolean) : Cond) ∈ ztb := zmem (i := 464) (by decide +kernel) rfl
theorem zt465 : (Cond.methodLink RX8 33 yX8_takesFirstDigit : Cond) ∈ ztb := zmem (i := 465) (by decide +kernel) rfl
theorem zt467 : (Cond.instanceMethod yX8_takesFirstDigit : Cond) ∈ ztb := zmem (i := 467) (by decide +kernel) rfl
theorem zt468 : (Cond.code yX8_takesFirstDigit cX8_takesFirstDigit 2 (some .boolean) : Cond) ∈ ztb := zmem (i := 468) (by decide +kernel) rfl
theorem zt469 : (Cond.methodLink RX8 36 yX8_takesMore : Cond) ∈ ztb := zmem (i := 469) (by decide +kernel) rfl
theorem zt471 : (Cond.instanceMethod yX8_takesMore : Cond) ∈ ztb := zmem (i := 471) (by decide +kernel) rfl
theorem zt472 : (Cond.code yX8_takesMore cX8_takesMore 3 (some .boolean) : Cond) ∈ ztb := zmem (i := 472) (by decide +kernel) rfl
theorem zt473 : (Cond.methodLink RX8 39 ⟨RX8, "longe\x72", "(III)I"⟩ : Cond) ∈ ztb := zmem (i := 473) (by decide +kernel) rfl
theorem zt474 : (Cond.sameMethod RX8 RX9 "longe\x72" "(III)I" : Cond) ∈ ztb := zmem (i := 474) (by decide +kernel) rfl
theorem zt475 : (Cond.arrayClass .byte : Cond) ∈ ztb := zmem (i := 475) (by decide +kernel) rfl
theorem zt480 : (Cond.methodLink RX10 125 yX5_reads : Cond) ∈ ztb := zmem (i := 480) (by decide +kernel) rfl
theorem zt481 : (Cond.instanceMethod yX5_reads : Cond) ∈ ztb := zmem (i := 481) (by decide +kernel) rfl
theorem zt482 : (Cond.selects RX5 yX5_reads yX5_reads : Cond) ∈ ztb := zmem (i := 482) (by decide +kernel) rfl
theorem zt483 : (Cond.code yX5_reads cX5_reads 2 (some .boolean) : Cond) ∈ ztb := zmem (i := 483) (by decide +kernel) rfl
theorem zt484 : (Cond.methodLink RX5 38 yX5_firstWrong : Cond) ∈ ztb := zmem (i := 484) (by decide +kernel) rfl
theorem zt485 : (Cond.methodLink RX5 42 ⟨RX9, "isWhole", "()Z"⟩ : Cond) ∈ ztb := zmem (i := 485) (by decide +kernel) rfl
theorem zt486 : (Cond.declares ⟨RX9, "isWhole", "()Z"⟩ : Cond) ∈ lw_tbl := List.mem_of_getElem? (i := 486) (by decide +kernel)
theorem zt487 : (Cond.sameMethod RX9 RX9 "isWhole" "()Z" : Cond) ∈ ztb := zmem (i := 487) (by decide +kernel) rfl
theorem zt488 : (Cond.selects RX1 ⟨RX9, "isWhole", "()Z"⟩ yX1_isWhole : Cond) ∈ ztb := zmem (i := 488) (by decide +kernel) rfl
theorem zt489 : (Cond.instanceMethod yX1_isWhole : Cond) ∈ ztb := zmem (i := 489) (by decide +kernel) rfl
theorem zt490 : (Cond.code yX1_isWhole cX1_isWhole 1 (some .boolean) : Cond) ∈ ztb := zmem (i := 490) (by decide +kernel) rfl
theorem zt491 : (Cond.selects RX7 ⟨RX9, "isWhole", "()Z"⟩ yX7_isWhole : Cond) ∈ ztb := zmem (i := 491) (by decide +kernel) rfl
theorem zt492 : (Cond.instanceMethod yX7_isWhole : Cond) ∈ ztb := zmem (i := 492) (by decide +kernel) rfl
theorem zt493 : (Cond.code yX7_isWhole cX7_isWhole 1 (some .boolean) : Cond) ∈ ztb := zmem (i := 493) (by decide +kernel) rfl
theorem zt494 : (Cond.selects RX8 ⟨RX9, "isWhole", "()Z"⟩ yX8_isWhole : Cond) ∈ ztb := zmem (i := 494) (by decide +kernel) rfl
theorem zt495 : (Cond.instanceMethod yX8_isWhole : Cond) ∈ ztb := zmem (i := 495) (by decide +kernel) rfl
theorem zt496 : (Cond.code yX8_isWhole cX8_isWhole 1 (some .boolean) : Cond) ∈ ztb := zmem (i := 496) (by decide +kernel) rfl
theorem zt497 : (Cond.methodLink RX10 129 yX4_clear : Cond) ∈ ztb := zmem (i := 497) (by decide +kernel) rfl
theorem zt498 : (Cond.instanceMethod yX4_clear : Cond) ∈ ztb := zmem (i := 498) (by decide +kernel) rfl
theorem zt499 : (Cond.selects RX4 yX4_clear yX4_clear : Cond) ∈ ztb := zmem (i := 499) (by decide +kernel) rfl
theorem zt500 : (Cond.code yX4_clear cX4_clear 1 none : Cond) ∈ ztb := zmem (i := 500) (by decide +kernel) rfl
theorem zt501 : (Cond.methodLink RX10 131 yX0_calm : Cond) ∈ ztb := zmem (i := 501) (by decide +kernel) rfl
theorem zt502 : (Cond.instanceMethod yX0_calm : Cond) ∈ ztb := zmem (i := 502) (by decide +kernel) rfl
theorem zt503 : (Cond.selects RX0 yX0_calm yX0_calm : Cond) ∈ ztb := zmem (i := 503) (by decide +kernel) rfl
theorem zt504 : (Cond.code yX0_calm cX0_calm 4 none : Cond) ∈ ztb := zmem (i := 504) (by decide +kernel) rfl
theorem zt505 : (Cond.methodLink RX10 135 yX3_drop : Cond) ∈ ztb := zmem (i := 505) (by decide +kernel) rfl
theorem zt506 : (Cond.instanceMethod yX3_drop : Cond) ∈ ztb := zmem (i := 506) (by decide +kernel) rfl
theorem zt507 : (Cond.selects RX3 yX3_drop yX3_drop : Cond) ∈ ztb := zmem (i := 507) (by decide +kernel) rfl
theorem zt508 : (Cond.code yX3_drop cX3_drop 1 none : Cond) ∈ ztb := zmem (i := 508) (by decide +kernel) rfl
theorem zt509 : (Cond.methodLink RX10 138 yX1_rings : Cond) ∈ ztb := zmem (i := 509) (by decide +kernel) rfl
theorem zt510 : (Cond.instanceMethod yX1_rings : Cond) ∈ ztb := zmem (i := 510) (by decide +kernel) rfl
theorem zt511 : (Cond.selects RX1 yX1_rings yX1_rings : Cond) ∈ ztb := zmem (i := 511) (by decide +kernel) rfl
theorem zt512 : (Cond.code yX1_rings cX1_rings 1 (some .int) : Cond) ∈ ztb := zmem (i := 512) (by decide +kernel) rfl
theorem zt525 : (Cond.methodLink RX10 144 yX10_hasCup : Cond) ∈ ztb := zmem (i := 525) (by decide +kernel) rfl
theorem zt527 : (Cond.instanceMethod yX10_hasCup : Cond) ∈ ztb := zmem (i := 527) (by decide +kernel) rfl
theorem zt528 : (Cond.code yX10_hasCup cX10_hasCup 1 (some .boolean) : Cond) ∈ ztb := zmem (i := 528) (by decide +kernel) rfl
theorem zt529 : (Cond.methodLink RX10 148 yX10_isWithin : Cond) ∈ ztb := zmem (i := 529) (by decide +kernel) rfl
theorem zt530 : (Cond.static yX10_isWithin : Cond) ∈ ztb := zmem (i := 530) (by decide +kernel) rfl
theorem zt531 : (Cond.code yX10_isWithin cX10_isWithin 3 (some .boolean) : Cond) ∈ ztb := zmem (i := 531) (by decide +kernel) rfl
theorem zt536 : (Cond.methodLink RX10 155 yX2_isTold : Cond) ∈ ztb := zmem (i := 536) (by decide +kernel) rfl
theorem zt537 : (Cond.static yX2_isTold : Cond) ∈ ztb := zmem (i := 537) (by decide +kernel) rfl
theorem zt538 : (Cond.code yX2_isTold cX2_isTold 2 (some .boolean) : Cond) ∈ ztb := zmem (i := 538) (by decide +kernel) rfl
theorem zt543 : (Cond.methodLink RX10 159 yX10_hasDoing : Cond) ∈ ztb := zmem (i := 543) (by decide +kernel) rfl
theorem zt545 : (Cond.instanceMethod yX10_hasDoing : Cond) ∈ ztb := zmem (i := 545) (by decide +kernel) rfl
theorem zt546 : (Cond.code yX10_hasDoing cX10_hasDoing 2 (some .boolean) : Cond) ∈ ztb := zmem (i := 546) (by decide +kernel) rfl
theorem zt547 : (Cond.methodLink RX10 163 yX10_doingOrRest : Cond) ∈ ztb := zmem (i := 547) (by decide +kernel) rfl
theorem zt549 : (Cond.instanceMethod yX10_doingOrRest : Cond) ∈ ztb := zmem (i := 549) (by decide +kernel) rfl
theorem zt550 : (Cond.code yX10_doingOrRest cX10_doingOrRest 2 (some (.object RX2)) : Cond) ∈ ztb := zmem (i := 550) (by decide +kernel) rfl
theorem zt551 : (Cond.methodLink RX10 167 yX2_isA : Cond) ∈ ztb := zmem (i := 551) (by decide +kernel) rfl
theorem zt552 : (Cond.instanceMethod yX2_isA : Cond) ∈ ztb := zmem (i := 552) (by decide +kernel) rfl
theorem zt553 : (Cond.selects RX2 yX2_isA yX2_isA : Cond) ∈ ztb := zmem (i := 553) (by decide +kernel) rfl
theorem zt554 : (Cond.code yX2_isA cX2_isA 2 (some .boolean) : Cond) ∈ ztb := zmem (i := 554) (by decide +kernel) rfl
theorem zt559 : (Cond.methodLink RX10 170 yX1_hasRing : Cond) ∈ ztb := zmem (i := 559) (by decide +kernel) rfl
theorem zt560 : (Cond.instanceMethod yX1_hasRing : Cond) ∈ ztb := zmem (i := 560) (by decide +kernel) rfl
theorem zt561 : (Cond.selects RX1 yX1_hasRing yX1_hasRing : Cond) ∈ ztb := zmem (i := 561) (by decide +kernel) rfl
theorem zt562 : (Cond.code yX1_hasRing cX1_hasRing 2 (some .boolean) : Cond) ∈ ztb := zmem (i := 562) (by decide +kernel) rfl
theorem zt563 : (Cond.methodLink RX10 173 yX4_add : Cond) ∈ ztb := zmem (i := 563) (by decide +kernel) rfl
theorem zt564 : (Cond.instanceMethod yX4_add : Cond) ∈ ztb := zmem (i := 564) (by decide +kernel) rfl
theorem zt565 : (Cond.selects RX4 yX4_add yX4_add : Cond) ∈ ztb := zmem (i := 565) (by decide +kernel) rfl
theorem zt566 : (Cond.code yX4_add cX4_add 4 (some .int) : Cond) ∈ ztb := zmem (i := 566) (by decide +kernel) rfl
theorem zt567 : (Cond.methodLink RX10 177 yX4_has : Cond) ∈ ztb := zmem (i := 567) (by decide +kernel) rfl
theorem zt568 : (Cond.instanceMethod yX4_has : Cond) ∈ ztb := zmem (i := 568) (by decide +kernel) rfl
theorem zt569 : (Cond.selects RX4 yX4_has yX4_has : Cond) ∈ ztb := zmem (i := 569) (by decide +kernel) rfl
theorem zt570 : (Cond.code yX4_has cX4_has 2 (some .boolean) : Cond) ∈ ztb := zmem (i := 570) (by decide +kernel) rfl
theorem zt572 : (Cond.instanceMethod yX10_about : Cond) ∈ ztb := zmem (i := 572) (by decide +kernel) rfl
theorem zt573 : (Cond.selects RX10 yX10_about yX10_about : Cond) ∈ ztb := zmem (i := 573) (by decide +kernel) rfl
theorem zt574 : (Cond.code yX10_about cX10_about 3 (some .int) : Cond) ∈ ztb := zmem (i := 574) (by decide +kernel) rfl
theorem zt575 : (Cond.methodLink RX10 190 yX0_pullOf : Cond) ∈ ztb := zmem (i := 575) (by decide +kernel) rfl
theorem zt576 : (Cond.instanceMethod yX0_pullOf : Cond) ∈ ztb := zmem (i := 576) (by decide +kernel) rfl
theorem zt577 : (Cond.selects RX0 yX0_pullOf yX0_pullOf : Cond) ∈ ztb := zmem (i := 577) (by decide +kernel) rfl
theorem zt578 : (Cond.code yX0_pullOf cX0_pullOf 6 (some .int) : Cond) ∈ ztb := zmem (i := 578) (by decide +kernel) rfl
theorem zt579 : (Cond.methodLink RX0 93 yX1_hasRing : Cond) ∈ ztb := zmem (i := 579) (by decide +kernel) rfl
theorem zt580 : (Cond.methodLink RX0 59 yX1_heights : Cond) ∈ ztb := zmem (i := 580) (by decide +kernel) rfl
theorem zt581 : (Cond.instanceMethod yX1_heights : Cond) ∈ ztb := zmem (i := 581) (by decide +kernel) rfl
theorem zt582 : (Cond.selects RX1 yX1_heights yX1_heights : Cond) ∈ ztb := zmem (i := 582) (by decide +kernel) rfl
theorem zt583 : (Cond.code yX1_heights cX1_heights 1 (some .int) : Cond) ∈ ztb := zmem (i := 583) (by decide +kernel) rfl
theorem zt584 : (Cond.methodLink RX0 97 yX0_secondTurning : Cond) ∈ ztb := zmem (i := 584) (by decide +kernel) rfl
theorem zt585 : (Cond.instanceMethod yX0_secondTurning : Cond) ∈ ztb := zmem (i := 585) (by decide +kernel) rfl
theorem zt586 : (Cond.selects RX0 yX0_secondTurning yX0_secondTurning : Cond) ∈ ztb := zmem (i := 586) (by decide +kernel) rfl
theorem zt587 : (Cond.code yX0_secondTurning cX0_secondTurning 6 (some .int) : Cond) ∈ ztb := zmem (i := 587) (by decide +kernel) rfl
theorem zt592 : (Cond.methodLink RX10 200 yX0_copyFrom : Cond) ∈ ztb := zmem (i := 592) (by decide +kernel) rfl
theorem zt593 : (Cond.instanceMethod yX0_copyFrom : Cond) ∈ ztb := zmem (i := 593) (by decide +kernel) rfl
theorem zt594 : (Cond.selects RX0 yX0_copyFrom yX0_copyFrom : Cond) ∈ ztb := zmem (i := 594) (by decide +kernel) rfl
theorem zt595 : (Cond.code yX0_copyFrom cX0_copyFrom 5 none : Cond) ∈ ztb := zmem (i := 595) (by decide +kernel) rfl
theorem zt596 : (Cond.methodLink RX10 204 yX0_doTicks : Cond) ∈ ztb := zmem (i := 596) (by decide +kernel) rfl
theorem zt597 : (Cond.instanceMethod yX0_doTicks : Cond) ∈ ztb := zmem (i := 597) (by decide +kernel) rfl
theorem zt598 : (Cond.selects RX0 yX0_doTicks yX0_doTicks : Cond) ∈ ztb := zmem (i := 598) (by decide +kernel) rfl
theorem zt599 : (Cond.code yX0_doTicks cX0_doTicks 6 none : Cond) ∈ ztb := zmem (i := 599) (by decide +kernel) rfl
theorem zt600 : (Cond.methodLink RX0 29 yX0_move : Cond) ∈ ztb := zmem (i := 600) (by decide +kernel) rfl
theorem zt602 : (Cond.instanceMethod yX0_move : Cond) ∈ ztb := zmem (i := 602) (by decide +kernel) rfl
theorem zt603 : (Cond.code yX0_move cX0_move 7 none : Cond) ∈ ztb := zmem (i := 603) (by decide +kernel) rfl
theorem zt604 : (Cond.methodLink RX0 51 yX2_push : Cond) ∈ ztb := zmem (i := 604) (by decide +kernel) rfl
theorem zt605 : (Cond.instanceMethod yX2_push : Cond) ∈ ztb := zmem (i := 605) (by decide +kernel) rfl
theorem zt606 : (Cond.selects RX2 yX2_push yX2_push : Cond) ∈ ztb := zmem (i := 606) (by decide +kernel) rfl
theorem zt607 : (Cond.code yX2_push cX2_push 1 (some .int) : Cond) ∈ ztb := zmem (i := 607) (by decide +kernel) rfl
theorem zt608 : (Cond.methodLink RX0 54 yX1_rings : Cond) ∈ ztb := zmem (i := 608) (by decide +kernel) rfl
theorem zt609 : (Cond.methodLink RX0 62 Lib.Math.min.name : Cond) ∈ ztb := zmem (i := 609) (by decide +kernel) rfl
theorem zt610 : (Cond.static Lib.Math.min.name : Cond) ∈ ztb := zmem (i := 610) (by decide +kernel) rfl
theorem zt611 : (Cond.code Lib.Math.min.name Lib.Math.min.code 2 (some .int) : Cond) ∈ ztb := zmem (i := 611) (by decide +kernel) rfl
theorem zt612 : (Cond.methodLink RX0 68 Lib.Math.max.name : Cond) ∈ ztb := zmem (i := 612) (by decide +kernel) rfl
theorem zt613 : (Cond.static Lib.Math.max.name : Cond) ∈ ztb := zmem (i := 613) (by decide +kernel) rfl
theorem zt614 : (Cond.code Lib.Math.max.name Lib.Math.max.code 2 (some .int) : Cond) ∈ ztb := zmem (i := 614) (by decide +kernel) rfl
theorem zt615 : (Cond.methodLink RX0 33 yX2_base : Cond) ∈ ztb := zmem (i := 615) (by decide +kernel) rfl
theorem zt616 : (Cond.instanceMethod yX2_base : Cond) ∈ ztb := zmem (i := 616) (by decide +kernel) rfl
theorem zt617 : (Cond.selects RX2 yX2_base yX2_base : Cond) ∈ ztb := zmem (i := 617) (by decide +kernel) rfl
theorem zt618 : (Cond.code yX2_base cX2_base 1 (some .int) : Cond) ∈ ztb := zmem (i := 618) (by decide +kernel) rfl
theorem zt619 : (Cond.methodLink RX0 39 yX0_slow : Cond) ∈ ztb := zmem (i := 619) (by decide +kernel) rfl
theorem zt621 : (Cond.instanceMethod yX0_slow : Cond) ∈ ztb := zmem (i := 621) (by decide +kernel) rfl
theorem zt622 : (Cond.code yX0_slow cX0_slow 7 none : Cond) ∈ ztb := zmem (i := 622) (by decide +kernel) rfl
theorem zt623 : (Cond.methodLink RX0 74 yX1_floorTenths : Cond) ∈ ztb := zmem (i := 623) (by decide +kernel) rfl
theorem zt624 : (Cond.instanceMethod yX1_floorTenths : Cond) ∈ ztb := zmem (i := 624) (by decide +kernel) rfl
theorem zt625 : (Cond.selects RX1 yX1_floorTenths yX1_floorTenths : Cond) ∈ ztb := zmem (i := 625) (by decide +kernel) rfl
theorem zt626 : (Cond.code yX1_floorTenths cX1_floorTenths 1 (some .int) : Cond) ∈ ztb := zmem (i := 626) (by decide +kernel) rfl
theorem zt627 : (Cond.methodLink RX0 77 yX0_left : Cond) ∈ ztb := zmem (i := 627) (by decide +kernel) rfl
theorem zt628 : (Cond.static yX0_left : Cond) ∈ ztb := zmem (i := 628) (by decide +kernel) rfl
theorem zt629 : (Cond.code yX0_left cX0_left 2 (some .int) : Cond) ∈ ztb := zmem (i := 629) (by decide +kernel) rfl
theorem zt630 : (Cond.methodLink RX0 80 yX1_wallTenths : Cond) ∈ ztb := zmem (i := 630) (by decide +kernel) rfl
theorem zt631 : (Cond.instanceMethod yX1_wallTenths : Cond) ∈ ztb := zmem (i := 631) (by decide +kernel) rfl
theorem zt632 : (Cond.selects RX1 yX1_wallTenths yX1_wallTenths : Cond) ∈ ztb := zmem (i := 632) (by decide +kernel) rfl
theorem zt633 : (Cond.code yX1_wallTenths cX1_wallTenths 1 (some .int) : Cond) ∈ ztb := zmem (i := 633) (by decide +kernel) rfl
theorem zt634 : (Cond.methodLink RX1 35 Lib.Math.min.name : Cond) ∈ ztb := zmem (i := 634) (by decide +kernel) rfl
theorem zt635 : (Cond.methodLink RX0 43 yX0_blend : Cond) ∈ ztb := zmem (i := 635) (by decide +kernel) rfl
theorem zt637 : (Cond.instanceMethod yX0_blend : Cond) ∈ ztb := zmem (i := 637) (by decide +kernel) rfl
theorem zt638 : (Cond.code yX0_blend cX0_blend 8 none : Cond) ∈ ztb := zmem (i := 638) (by decide +kernel) rfl
theorem zt639 : (Cond.methodLink RX0 83 yX1_mixTwentieths : Cond) ∈ ztb := zmem (i := 639) (by decide +kernel) rfl
theorem zt640 : (Cond.instanceMethod yX1_mixTwentieths : Cond) ∈ ztb := zmem (i := 640) (by decide +kernel) rfl
theorem zt641 : (Cond.selects RX1 yX1_mixTwentieths yX1_mixTwentieths : Cond) ∈ ztb := zmem (i := 641) (by decide +kernel) rfl
theorem zt642 : (Cond.code yX1_mixTwentieths cX1_mixTwentieths 1 (some .int) : Cond) ∈ ztb := zmem (i := 642) (by decide +kernel) rfl
theorem zt643 : (Cond.methodLink RX0 47 yX0_pullAll : Cond) ∈ ztb := zmem (i := 643) (by decide +kernel) rfl
theorem zt645 : (Cond.instanceMethod yX0_pullAll : Cond) ∈ ztb := zmem (i := 645) (by decide +kernel) rfl
theorem zt646 : (Cond.code yX0_pullAll cX0_pullAll 5 none : Cond) ∈ ztb := zmem (i := 646) (by decide +kernel) rfl
theorem zt647 : (Cond.methodLink RX0 86 yX0_pullOf : Cond) ∈ ztb := zmem (i := 647) (by decide +kernel) rfl
theorem zt656 : (Cond.methodLink RX10 208 yX1_hasHeight : Cond) ∈ ztb := zmem (i := 656) (by decide +kernel) rfl
theorem zt657 : (Cond.instanceMethod yX1_hasHeight : Cond) ∈ ztb := zmem (i := 657) (by decide +kernel) rfl
theorem zt658 : (Cond.selects RX1 yX1_hasHeight yX1_hasHeight : Cond) ∈ ztb := zmem (i := 658) (by decide +kernel) rfl
theorem zt659 : (Cond.code yX1_hasHeight cX1_hasHeight 2 (some .boolean) : Cond) ∈ ztb := zmem (i := 659) (by decide +kernel) rfl
theorem zt664 : (Cond.methodLink RX10 215 yX1_heights : Cond) ∈ ztb := zmem (i := 664) (by decide +kernel) rfl
theorem zt665 : (Cond.methodLink RX10 218 yX0_secondTurning : Cond) ∈ ztb := zmem (i := 665) (by decide +kernel) rfl
theorem zt674 : (Cond.methodLink RX10 222 yX10_hasRow : Cond) ∈ ztb := zmem (i := 674) (by decide +kernel) rfl
theorem zt676 : (Cond.instanceMethod yX10_hasRow : Cond) ∈ ztb := zmem (i := 676) (by decide +kernel) rfl
theorem zt677 : (Cond.code yX10_hasRow cX10_hasRow 2 (some .boolean) : Cond) ∈ ztb := zmem (i := 677) (by decide +kernel) rfl
theorem zt678 : (Cond.methodLink RX10 225 yX10_tryRow : Cond) ∈ ztb := zmem (i := 678) (by decide +kernel) rfl
theorem zt680 : (Cond.instanceMethod yX10_tryRow : Cond) ∈ ztb := zmem (i := 680) (by decide +kernel) rfl
theorem zt681 : (Cond.code yX10_tryRow cX10_tryRow 4 none : Cond) ∈ ztb := zmem (i := 681) (by decide +kernel) rfl
theorem zt698 : (Cond.methodLink RX10 229 yX10_offInTrial : Cond) ∈ ztb := zmem (i := 698) (by decide +kernel) rfl
theorem zt700 : (Cond.instanceMethod yX10_offInTrial : Cond) ∈ ztb := zmem (i := 700) (by decide +kernel) rfl
theorem zt701 : (Cond.code yX10_offInTrial cX10_offInTrial 3 (some .int) : Cond) ∈ ztb := zmem (i := 701) (by decide +kernel) rfl
theorem zt702 : (Cond.methodLink RX10 353 yX0_lyingIn : Cond) ∈ ztb := zmem (i := 702) (by decide +kernel) rfl
theorem zt703 : (Cond.instanceMethod yX0_lyingIn : Cond) ∈ ztb := zmem (i := 703) (by decide +kernel) rfl
theorem zt704 : (Cond.selects RX0 yX0_lyingIn yX0_lyingIn : Cond) ∈ ztb := zmem (i := 704) (by decide +kernel) rfl
theorem zt705 : (Cond.code yX0_lyingIn cX0_lyingIn 5 (some .int) : Cond) ∈ ztb := zmem (i := 705) (by decide +kernel) rfl
theorem zt706 : (Cond.methodLink RX10 243 Lib.Math.abs.name : Cond) ∈ ztb := zmem (i := 706) (by decide +kernel) rfl
theorem zt707 : (Cond.static Lib.Math.abs.name : Cond) ∈ ztb := zmem (i := 707) (by decide +kernel) rfl
theorem zt708 : (Cond.code Lib.Math.abs.name Lib.Math.abs.code 1 (some .int) : Cond) ∈ ztb := zmem (i := 708) (by decide +kernel) rfl
theorem zt713 : (Cond.constant RX10 232 1000000 : Cond) ∈ ztb := zmem (i := 713) (by decide +kernel) rfl
theorem zt714 : (Cond.methodLink RX10 233 yX10_offOfStirring : Cond) ∈ ztb := zmem (i := 714) (by decide +kernel) rfl
theorem zt716 : (Cond.instanceMethod yX10_offOfStirring : Cond) ∈ ztb := zmem (i := 716) (by decide +kernel) rfl
theorem zt717 : (Cond.code yX10_offOfStirring cX10_offOfStirring 3 (some .int) : Cond) ∈ ztb := zmem (i := 717) (by decide +kernel) rfl
theorem zt726 : (Cond.methodLink RX10 237 yX10_isTrialAsSeen : Cond) ∈ ztb := zmem (i := 726) (by decide +kernel) rfl
theorem zt728 : (Cond.instanceMethod yX10_isTrialAsSeen : Cond) ∈ ztb := zmem (i := 728) (by decide +kernel) rfl
theorem zt729 : (Cond.code yX10_isTrialAsSeen cX10_isTrialAsSeen 2 (some .boolean) : Cond) ∈ ztb := zmem (i := 729) (by decide +kernel) rfl
theorem zt734 : (Cond.methodLink RX10 240 yX10_ringsInTrial : Cond) ∈ ztb := zmem (i := 734) (by decide +kernel) rfl
theorem zt736 : (Cond.instanceMethod yX10_ringsInTrial : Cond) ∈ ztb := zmem (i := 736) (by decide +kernel) rfl
theorem zt737 : (Cond.code yX10_ringsInTrial cX10_ringsInTrial 3 (some .int) : Cond) ∈ ztb := zmem (i := 737) (by decide +kernel) rfl
theorem zt746 : (Cond.methodLink RX10 249 yX6_add : Cond) ∈ ztb := zmem (i := 746) (by decide +kernel) rfl
theorem zt747 : (Cond.instanceMethod yX6_add : Cond) ∈ ztb := zmem (i := 747) (by decide +kernel) rfl
theorem zt748 : (Cond.selects RX6 yX6_add yX6_add : Cond) ∈ ztb := zmem (i := 748) (by decide +kernel) rfl
theorem zt749 : (Cond.code yX6_add cX6_add 3 (some .int) : Cond) ∈ ztb := zmem (i := 749) (by decide +kernel) rfl
theorem zt754 : (Cond.methodLink RX10 251 yX6_bestFloor : Cond) ∈ ztb := zmem (i := 754) (by decide +kernel) rfl
theorem zt755 : (Cond.instanceMethod yX6_bestFloor : Cond) ∈ ztb := zmem (i := 755) (by decide +kernel) rfl
theorem zt756 : (Cond.selects RX6 yX6_bestFloor yX6_bestFloor : Cond) ∈ ztb := zmem (i := 756) (by decide +kernel) rfl
theorem zt757 : (Cond.code yX6_bestFloor cX6_bestFloor 5 (some .int) : Cond) ∈ ztb := zmem (i := 757) (by decide +kernel) rfl
theorem zt758 : (Cond.constant RX6 34 1000000 : Cond) ∈ ztb := zmem (i := 758) (by decide +kernel) rfl
theorem zt759 : (Cond.methodLink RX6 35 yX6_offBy : Cond) ∈ ztb := zmem (i := 759) (by decide +kernel) rfl
theorem zt760 : (Cond.instanceMethod yX6_offBy : Cond) ∈ ztb := zmem (i := 760) (by decide +kernel) rfl
theorem zt761 : (Cond.selects RX6 yX6_offBy yX6_offBy : Cond) ∈ ztb := zmem (i := 761) (by decide +kernel) rfl
theorem zt762 : (Cond.code yX6_offBy cX6_offBy 4 (some .int) : Cond) ∈ ztb := zmem (i := 762) (by decide +kernel) rfl
theorem zt763 : (Cond.methodLink RX6 22 yX0_left : Cond) ∈ ztb := zmem (i := 763) (by decide +kernel) rfl
theorem zt764 : (Cond.methodLink RX6 28 Lib.Math.abs.name : Cond) ∈ ztb := zmem (i := 764) (by decide +kernel) rfl
theorem zt769 : (Cond.methodLink RX10 254 yX7_has : Cond) ∈ ztb := zmem (i := 769) (by decide +kernel) rfl
theorem zt770 : (Cond.instanceMethod yX7_has : Cond) ∈ ztb := zmem (i := 770) (by decide +kernel) rfl
theorem zt771 : (Cond.selects RX7 yX7_has yX7_has : Cond) ∈ ztb := zmem (i := 771) (by decide +kernel) rfl
theorem zt772 : (Cond.code yX7_has cX7_has 2 (some .boolean) : Cond) ∈ ztb := zmem (i := 772) (by decide +kernel) rfl
theorem zt773 : (Cond.methodLink RX10 255 yX10_isYears : Cond) ∈ ztb := zmem (i := 773) (by decide +kernel) rfl
theorem zt774 : (Cond.static yX10_isYears : Cond) ∈ ztb := zmem (i := 774) (by decide +kernel) rfl
theorem zt775 : (Cond.code yX10_isYears cX10_isYears 1 (some .boolean) : Cond) ∈ ztb := zmem (i := 775) (by decide +kernel) rfl
theorem zt776 : (Cond.methodLink RX10 258 yX10_isFlow : Cond) ∈ ztb := zmem (i := 776) (by decide +kernel) rfl
theorem zt777 : (Cond.static yX10_isFlow : Cond) ∈ ztb := zmem (i := 777) (by decide +kernel) rfl
theorem zt778 : (Cond.code yX10_isFlow cX10_isFlow 2 (some .boolean) : Cond) ∈ ztb := zmem (i := 778) (by decide +kernel) rfl
theorem zt779 : (Cond.methodLink RX10 261 yX7_goYears : Cond) ∈ ztb := zmem (i := 779) (by decide +kernel) rfl
theorem zt780 : (Cond.instanceMethod yX7_goYears : Cond) ∈ ztb := zmem (i := 780) (by decide +kernel) rfl
theorem zt781 : (Cond.selects RX7 yX7_goYears yX7_goYears : Cond) ∈ ztb := zmem (i := 781) (by decide +kernel) rfl
theorem zt782 : (Cond.code yX7_goYears cX7_goYears 7 (some .int) : Cond) ∈ ztb := zmem (i := 782) (by decide +kernel) rfl
theorem zt783 : (Cond.methodLink RX7 67 yX7_beginYears : Cond) ∈ ztb := zmem (i := 783) (by decide +kernel) rfl
theorem zt784 : (Cond.instanceMethod yX7_beginYears : Cond) ∈ ztb := zmem (i := 784) (by decide +kernel) rfl
theorem zt785 : (Cond.selects RX7 yX7_beginYears yX7_beginYears : Cond) ∈ ztb := zmem (i := 785) (by decide +kernel) rfl
theorem zt786 : (Cond.code yX7_beginYears cX7_beginYears 2 none : Cond) ∈ ztb := zmem (i := 786) (by decide +kernel) rfl
theorem zt787 : (Cond.methodLink RX7 70 yX7_goYear : Cond) ∈ ztb := zmem (i := 787) (by decide +kernel) rfl
theorem zt788 : (Cond.instanceMethod yX7_goYear : Cond) ∈ ztb := zmem (i := 788) (by decide +kernel) rfl
theorem zt789 : (Cond.selects RX7 yX7_goYear yX7_goYear : Cond) ∈ ztb := zmem (i := 789) (by decide +kernel) rfl
theorem zt790 : (Cond.code yX7_goYear cX7_goYear 6 (some .int) : Cond) ∈ ztb := zmem (i := 790) (by decide +kernel) rfl
theorem zt791 : (Cond.methodLink RX7 47 yX7_isFree : Cond) ∈ ztb := zmem (i := 791) (by decide +kernel) rfl
theorem zt792 : (Cond.instanceMethod yX7_isFree : Cond) ∈ ztb := zmem (i := 792) (by decide +kernel) rfl
theorem zt793 : (Cond.selects RX7 yX7_isFree yX7_isFree : Cond) ∈ ztb := zmem (i := 793) (by decide +kernel) rfl
theorem zt794 : (Cond.code yX7_isFree cX7_isFree 2 (some .boolean) : Cond) ∈ ztb := zmem (i := 794) (by decide +kernel) rfl
theorem zt795 : (Cond.methodLink RX7 50 yX7_bendOf : Cond) ∈ ztb := zmem (i := 795) (by decide +kernel) rfl
theorem zt796 : (Cond.static yX7_bendOf : Cond) ∈ ztb := zmem (i := 796) (by decide +kernel) rfl
theorem zt797 : (Cond.code yX7_bendOf cX7_bendOf 2 (some .int) : Cond) ∈ ztb := zmem (i := 797) (by decide +kernel) rfl
theorem zt798 : (Cond.methodLink RX7 54 Lib.Math.min.name : Cond) ∈ ztb := zmem (i := 798) (by decide +kernel) rfl
theorem zt799 : (Cond.methodLink RX7 60 Lib.Math.max.name : Cond) ∈ ztb := zmem (i := 799) (by decide +kernel) rfl
theorem zt800 : (Cond.methodLink RX7 63 yX7_isOverNeck : Cond) ∈ ztb := zmem (i := 800) (by decide +kernel) rfl
theorem zt802 : (Cond.instanceMethod yX7_isOverNeck : Cond) ∈ ztb := zmem (i := 802) (by decide +kernel) rfl
theorem zt803 : (Cond.code yX7_isOverNeck cX7_isOverNeck 5 (some .boolean) : Cond) ∈ ztb := zmem (i := 803) (by decide +kernel) rfl
theorem zt808 : (Cond.methodLink RX10 268 yX10_hasRiver : Cond) ∈ ztb := zmem (i := 808) (by decide +kernel) rfl
theorem zt810 : (Cond.instanceMethod yX10_hasRiver : Cond) ∈ ztb := zmem (i := 810) (by decide +kernel) rfl
theorem zt811 : (Cond.code yX10_hasRiver cX10_hasRiver 1 (some .boolean) : Cond) ∈ ztb := zmem (i := 811) (by decide +kernel) rfl
theorem zt816 : (Cond.methodLink RX10 271 yX7_beginYears : Cond) ∈ ztb := zmem (i := 816) (by decide +kernel) rfl
theorem zt817 : (Cond.methodLink RX10 274 yX7_goYear : Cond) ∈ ztb := zmem (i := 817) (by decide +kernel) rfl
theorem zt822 : (Cond.methodLink RX10 277 yX7_isFree : Cond) ∈ ztb := zmem (i := 822) (by decide +kernel) rfl
theorem zt823 : (Cond.methodLink RX10 280 yX7_bendsTogether : Cond) ∈ ztb := zmem (i := 823) (by decide +kernel) rfl
theorem zt824 : (Cond.instanceMethod yX7_bendsTogether : Cond) ∈ ztb := zmem (i := 824) (by decide +kernel) rfl
theorem zt825 : (Cond.selects RX7 yX7_bendsTogether yX7_bendsTogether : Cond) ∈ ztb := zmem (i := 825) (by decide +kernel) rfl
theorem zt826 : (Cond.code yX7_bendsTogether cX7_bendsTogether 3 (some .int) : Cond) ∈ ztb := zmem (i := 826) (by decide +kernel) rfl
theorem zt827 : (Cond.methodLink RX7 73 Lib.Math.abs.name : Cond) ∈ ztb := zmem (i := 827) (by decide +kernel) rfl
theorem zt832 : (Cond.methodLink RX10 283 yX3_keep : Cond) ∈ ztb := zmem (i := 832) (by decide +kernel) rfl
theorem zt833 : (Cond.instanceMethod yX3_keep : Cond) ∈ ztb := zmem (i := 833) (by decide +kernel) rfl
theorem zt834 : (Cond.selects RX3 yX3_keep yX3_keep : Cond) ∈ ztb := zmem (i := 834) (by decide +kernel) rfl
theorem zt835 : (Cond.code yX3_keep cX3_keep 5 none : Cond) ∈ ztb := zmem (i := 835) (by decide +kernel) rfl
theorem zt836 : (Cond.methodLink RX3 34 Lib.Math.min.name : Cond) ∈ ztb := zmem (i := 836) (by decide +kernel) rfl
theorem zt837 : (Cond.methodLink RX3 40 yX0_copyFrom : Cond) ∈ ztb := zmem (i := 837) (by decide +kernel) rfl
theorem zt842 : (Cond.methodLink RX10 287 yX3_isKept : Cond) ∈ ztb := zmem (i := 842) (by decide +kernel) rfl
theorem zt843 : (Cond.instanceMethod yX3_isKept : Cond) ∈ ztb := zmem (i := 843) (by decide +kernel) rfl
theorem zt844 : (Cond.selects RX3 yX3_isKept yX3_isKept : Cond) ∈ ztb := zmem (i := 844) (by decide +kernel) rfl
theorem zt845 : (Cond.code yX3_isKept cX3_isKept 1 (some .boolean) : Cond) ∈ ztb := zmem (i := 845) (by decide +kernel) rfl
theorem zt846 : (Cond.methodLink RX10 290 yX3_bringBack : Cond) ∈ ztb := zmem (i := 846) (by decide +kernel) rfl
theorem zt847 : (Cond.instanceMethod yX3_bringBack : Cond) ∈ ztb := zmem (i := 847) (by decide +kernel) rfl
theorem zt848 : (Cond.selects RX3 yX3_bringBack yX3_bringBack : Cond) ∈ ztb := zmem (i := 848) (by decide +kernel) rfl
theorem zt849 : (Cond.code yX3_bringBack cX3_bringBack 5 none : Cond) ∈ ztb := zmem (i := 849) (by decide +kernel) rfl
theorem zt851 : (Cond.instanceMethod yX10_count : Cond) ∈ ztb := zmem (i := 851) (by decide +kernel) rfl
theorem zt852 : (Cond.selects RX10 yX10_count yX10_count : Cond) ∈ ztb := zmem (i := 852) (by decide +kernel) rfl
theorem zt853 : (Cond.code yX10_count cX10_count 2 (some .int) : Cond) ∈ ztb := zmem (i := 853) (by decide +kernel) rfl
theorem zt858 : (Cond.constantLong RX10 295 443 : Cond) ∈ ztb := zmem (i := 858) (by decide +kernel) rfl
theorem zt859 : (Cond.methodLink RX10 297 yX10_withCup : Cond) ∈ ztb := zmem (i := 859) (by decide +kernel) rfl
theorem zt861 : (Cond.instanceMethod yX10_withCup : Cond) ∈ ztb := zmem (i := 861) (by decide +kernel) rfl
theorem zt862 : (Cond.code yX10_withCup cX10_withCup 7 (some .long) : Cond) ∈ ztb := zmem (i := 862) (by decide +kernel) rfl
theorem zt863 : (Cond.constantLong RX10 316 31 : Cond) ∈ ztb := zmem (i := 863) (by decide +kernel) rfl
theorem zt864 : (Cond.methodLink RX10 301 yX10_withDoings : Cond) ∈ ztb := zmem (i := 864) (by decide +kernel) rfl
theorem zt866 : (Cond.instanceMethod yX10_withDoings : Cond) ∈ ztb := zmem (i := 866) (by decide +kernel) rfl
theorem zt867 : (Cond.code yX10_withDoings cX10_withDoings 6 (some .long) : Cond) ∈ ztb := zmem (i := 867) (by decide +kernel) rfl
theorem zt868 : (Cond.methodLink RX10 304 yX10_withLeaves : Cond) ∈ ztb := zmem (i := 868) (by decide +kernel) rfl
theorem zt870 : (Cond.instanceMethod yX10_withLeaves : Cond) ∈ ztb := zmem (i := 870) (by decide +kernel) rfl
theorem zt871 : (Cond.code yX10_withLeaves cX10_withLeaves 7 (some .long) : Cond) ∈ ztb := zmem (i := 871) (by decide +kernel) rfl
theorem zt872 : (Cond.methodLink RX10 330 yX10_about : Cond) ∈ ztb := zmem (i := 872) (by decide +kernel) rfl
theorem zt873 : (Cond.methodLink RX10 307 yX10_withRows : Cond) ∈ ztb := zmem (i := 873) (by decide +kernel) rfl
theorem zt875 : (Cond.instanceMethod yX10_withRows : Cond) ∈ ztb := zmem (i := 875) (by decide +kernel) rfl
theorem zt876 : (Cond.code yX10_withRows cX10_withRows 8 (some .long) : Cond) ∈ ztb := zmem (i := 876) (by decide +kernel) rfl
theorem zt877 : (Cond.methodLink RX10 310 yX10_withPictures : Cond) ∈ ztb := zmem (i := 877) (by decide +kernel) rfl
theorem zt879 : (Cond.instanceMethod yX10_withPictures : Cond) ∈ ztb := zmem (i := 879) (by decide +kernel) rfl
theorem zt880 : (Cond.code yX10_withPictures cX10_withPictures 6 (some .long) : Cond) ∈ ztb := zmem (i := 880) (by decide +kernel) rfl
theorem zt881 : (Cond.methodLink RX10 313 yX10_withRiver : Cond) ∈ ztb := zmem (i := 881) (by decide +kernel) rfl
theorem zt883 : (Cond.instanceMethod yX10_withRiver : Cond) ∈ ztb := zmem (i := 883) (by decide +kernel) rfl
theorem zt884 : (Cond.code yX10_withRiver cX10_withRiver 6 (some .long) : Cond) ∈ ztb := zmem (i := 884) (by decide +kernel) rfl
theorem zt885 : (Cond.methodLink RX10 321 yX10_count : Cond) ∈ ztb := zmem (i := 885) (by decide +kernel) rfl
theorem zt891 : (Cond.methodLink RX11 1 objectInit : Cond) ∈ ztb := zmem (i := 891) (by decide +kernel) rfl
theorem zt892 : (Cond.fieldLink RX11 7 "LeavesInCupsModel" "cup" "[I" : Cond) ∈ ztb := zmem (i := 892) (by decide +kernel) rfl
theorem zt893 : (Cond.fieldLink RX11 149 "LeavesInCupsModel" "isCup" "Z" : Cond) ∈ ztb := zmem (i := 893) (by decide +kernel) rfl
theorem zt894 : (Cond.fieldLink RX11 152 "LeavesInCupsModel" "cups" "I" : Cond) ∈ ztb := zmem (i := 894) (by decide +kernel) rfl
theorem zt895 : (Cond.fieldLink RX11 13 "LeavesInCupsModel" "live" "[I" : Cond) ∈ ztb := zmem (i := 895) (by decide +kernel) rfl
theorem zt896 : (Cond.fieldLink RX11 16 "LeavesInCupsModel" "work" "[I" : Cond) ∈ ztb := zmem (i := 896) (by decide +kernel) rfl
theorem zt897 : (Cond.fieldLink RX11 161 "LeavesInCupsModel" "doings" "I" : Cond) ∈ ztb := zmem (i := 897) (by decide +kernel) rfl
theorem zt898 : (Cond.fieldLink RX11 19 "LeavesInCupsModel" "kindOf" "[I" : Cond) ∈ ztb := zmem (i := 898) (by decide +kernel) rfl
theorem zt899 : (Cond.fieldLink RX11 22 "LeavesInCupsModel" "numberOf" "[I" : Cond) ∈ ztb := zmem (i := 899) (by decide +kernel) rfl
theorem zt900 : (Cond.fieldLink RX11 146 "LeavesInCupsModel" "leaves" "I" : Cond) ∈ ztb := zmem (i := 900) (by decide +kernel) rfl
theorem zt901 : (Cond.fieldLink RX11 25 "LeavesInCupsModel" "ringOf" "[I" : Cond) ∈ ztb := zmem (i := 901) (by decide +kernel) rfl
theorem zt902 : (Cond.fieldLink RX11 28 "LeavesInCupsModel" "toldOf" "[I" : Cond) ∈ ztb := zmem (i := 902) (by decide +kernel) rfl
theorem zt903 : (Cond.fieldLink RX11 31 "LeavesInCupsModel" "weightOf" "[I" : Cond) ∈ ztb := zmem (i := 903) (by decide +kernel) rfl
theorem zt904 : (Cond.fieldLink RX11 34 "LeavesInCupsModel" "stickOf" "[I" : Cond) ∈ ztb := zmem (i := 904) (by decide +kernel) rfl
theorem zt905 : (Cond.fieldLink RX11 37 "LeavesInCupsModel" "seenOf" "[I" : Cond) ∈ ztb := zmem (i := 905) (by decide +kernel) rfl
theorem zt906 : (Cond.fieldLink RX11 40 "LeavesInCupsModel" "place" "[I" : Cond) ∈ ztb := zmem (i := 906) (by decide +kernel) rfl
theorem zt907 : (Cond.fieldLink RX11 43 "LeavesInCupsModel" "wanted" "[I" : Cond) ∈ ztb := zmem (i := 907) (by decide +kernel) rfl
theorem zt908 : (Cond.fieldLink RX11 155 "LeavesInCupsModel" "rows" "I" : Cond) ∈ ztb := zmem (i := 908) (by decide +kernel) rfl
theorem zt909 : (Cond.fieldLink RX11 46 "LeavesInCupsModel" "itemMany" "[I" : Cond) ∈ ztb := zmem (i := 909) (by decide +kernel) rfl
theorem zt910 : (Cond.fieldLink RX11 49 "LeavesInCupsModel" "itemDoing" "[I" : Cond) ∈ ztb := zmem (i := 910) (by decide +kernel) rfl
theorem zt911 : (Cond.fieldLink RX11 52 "LeavesInCupsModel" "itemTicks" "[I" : Cond) ∈ ztb := zmem (i := 911) (by decide +kernel) rfl
theorem zt912 : (Cond.fieldLink RX11 246 "LeavesInCupsModel" "pictures" "I" : Cond) ∈ ztb := zmem (i := 912) (by decide +kernel) rfl
theorem zt913 : (Cond.fieldLink RX11 55 "LeavesInCupsModel" "aheadOf" "[I" : Cond) ∈ ztb := zmem (i := 913) (by decide +kernel) rfl
theorem zt914 : (Cond.fieldLink RX11 58 "LeavesInCupsModel" "behindOf" "[I" : Cond) ∈ ztb := zmem (i := 914) (by decide +kernel) rfl
theorem zt915 : (Cond.fieldLink RX11 158 "LeavesInCupsModel" "points" "I" : Cond) ∈ ztb := zmem (i := 915) (by decide +kernel) rfl
theorem zt916 : (Cond.fieldLink RX11 61 "LeavesInCupsModel" "sideOf" "[I" : Cond) ∈ ztb := zmem (i := 916) (by decide +kernel) rfl
theorem zt917 : (Cond.fieldLink RX11 64 "LeavesInCupsModel" "isHeld" "[Z" : Cond) ∈ ztb := zmem (i := 917) (by decide +kernel) rfl
theorem zt918 : (Cond.fieldLink RX11 239 "LeavesInCupsModel" "asks" "I" : Cond) ∈ ztb := zmem (i := 918) (by decide +kernel) rfl
theorem zt919 : (Cond.fieldLink RX11 107 "LeavesInCupsModel" "pageLength" "I" : Cond) ∈ ztb := zmem (i := 919) (by decide +kernel) rfl
theorem zt920 : (Cond.fieldLink RX11 68 "LeavesInCupsModel" "page" "[B" : Cond) ∈ ztb := zmem (i := 920) (by decide +kernel) rfl
theorem zt921 : (Cond.fieldLink RX11 274 "LeavesInCupsModel" "isKept" "Z" : Cond) ∈ ztb := zmem (i := 921) (by decide +kernel) rfl
theorem zt922 : (Cond.fieldLink RX11 277 "LeavesInCupsModel" "keptCup" "I" : Cond) ∈ ztb := zmem (i := 922) (by decide +kernel) rfl
theorem zt923 : (Cond.fieldLink RX11 280 "LeavesInCupsModel" "keptLeaves" "I" : Cond) ∈ ztb := zmem (i := 923) (by decide +kernel) rfl
theorem zt924 : (Cond.fieldLink RX11 72 "LeavesInCupsModel" "keptRounds" "[I" : Cond) ∈ ztb := zmem (i := 924) (by decide +kernel) rfl
theorem zt925 : (Cond.fieldLink RX11 75 "LeavesInCupsModel" "keptRing" "[I" : Cond) ∈ ztb := zmem (i := 925) (by decide +kernel) rfl
theorem zt926 : (Cond.fieldLink RX11 78 "LeavesInCupsModel" "keptSeen" "[I" : Cond) ∈ ztb := zmem (i := 926) (by decide +kernel) rfl
theorem zt927 : (Cond.fieldLink RX11 81 "LeavesInCupsModel" "keptWant" "[I" : Cond) ∈ ztb := zmem (i := 927) (by decide +kernel) rfl
theorem zt928 : (Cond.fieldLink RX11 135 "LeavesInCupsModel" "faultAt" "I" : Cond) ∈ ztb := zmem (i := 928) (by decide +kernel) rfl
theorem zt929 : (Cond.fieldLink RX11 138 "LeavesInCupsModel" "isWhole" "Z" : Cond) ∈ ztb := zmem (i := 929) (by decide +kernel) rfl
theorem zt930 : (Cond.fieldLink RX11 84 "LeavesInCupsModel" "newCup" "[I" : Cond) ∈ ztb := zmem (i := 930) (by decide +kernel) rfl
theorem zt931 : (Cond.fieldLink RX11 115 "LeavesInCupsModel" "newItems" "I" : Cond) ∈ ztb := zmem (i := 931) (by decide +kernel) rfl
theorem zt932 : (Cond.fieldLink RX11 87 "LeavesInCupsModel" "newDoing" "[I" : Cond) ∈ ztb := zmem (i := 932) (by decide +kernel) rfl
theorem zt933 : (Cond.fieldLink RX11 90 "LeavesInCupsModel" "newTicks" "[I" : Cond) ∈ ztb := zmem (i := 933) (by decide +kernel) rfl
theorem zt934 : (Cond.fieldLink RX11 122 "LeavesInCupsModel" "newPoints" "I" : Cond) ∈ ztb := zmem (i := 934) (by decide +kernel) rfl
theorem zt935 : (Cond.fieldLink RX11 93 "LeavesInCupsModel" "newSide" "[I" : Cond) ∈ ztb := zmem (i := 935) (by decide +kernel) rfl
theorem zt936 : (Cond.fieldLink RX11 96 "LeavesInCupsModel" "newHeld" "[Z" : Cond) ∈ ztb := zmem (i := 936) (by decide +kernel) rfl
theorem zt937 : (Cond.fieldLink RX11 99 "LeavesInCupsModel" "side" "[I" : Cond) ∈ ztb := zmem (i := 937) (by decide +kernel) rfl
theorem zt938 : (Cond.fieldLink RX11 102 "LeavesInCupsModel" "bend" "[I" : Cond) ∈ ztb := zmem (i := 938) (by decide +kernel) rfl
theorem zt939 : (Cond.fieldLink RX11 249 "LeavesInCupsModel" "held" "I" : Cond) ∈ ztb := zmem (i := 939) (by decide +kernel) rfl
theorem zt940 : (Cond.fieldLink RX11 258 "LeavesInCupsModel" "cutMany" "I" : Cond) ∈ ztb := zmem (i := 940) (by decide +kernel) rfl
theorem zt941 : (Cond.fieldLink RX11 261 "LeavesInCupsModel" "firstYea\x72" "I" : Cond) ∈ ztb := zmem (i := 941) (by decide +kernel) rfl
theorem zt942 : (Cond.fieldLink RX11 288 "LeavesInCupsModel" "h" "J" : Cond) ∈ ztb := zmem (i := 942) (by decide +kernel) rfl
theorem zt1050 : (Cond.constantLong RX11 105 255 : Cond) ∈ ztb := zmem (i := 1050) (by decide +kernel) rfl
theorem zt1059 : (Cond.methodLink RX11 111 yX11_within : Cond) ∈ ztb := zmem (i := 1059) (by decide +kernel) rfl
theorem zt1060 : (Cond.static yX11_within : Cond) ∈ ztb := zmem (i := 1060) (by decide +kernel) rfl
theorem zt1061 : (Cond.code yX11_within cX11_within 3 (some .boolean) : Cond) ∈ ztb := zmem (i := 1061) (by decide +kernel) rfl
theorem zt1062 : (Cond.methodLink RX11 142 yX11_readPage : Cond) ∈ ztb := zmem (i := 1062) (by decide +kernel) rfl
theorem zt1064 : (Cond.instanceMethod yX11_readPage : Cond) ∈ ztb := zmem (i := 1064) (by decide +kernel) rfl
theorem zt1065 : (Cond.code yX11_readPage cX11_readPage 6 none : Cond) ∈ ztb := zmem (i := 1065) (by decide +kernel) rfl
theorem zt1066 : (Cond.methodLink RX11 125 yX11_nextCup : Cond) ∈ ztb := zmem (i := 1066) (by decide +kernel) rfl
theorem zt1068 : (Cond.instanceMethod yX11_nextCup : Cond) ∈ ztb := zmem (i := 1068) (by decide +kernel) rfl
theorem zt1069 : (Cond.code yX11_nextCup cX11_nextCup 5 (some .int) : Cond) ∈ ztb := zmem (i := 1069) (by decide +kernel) rfl
theorem zt1070 : (Cond.methodLink RX11 129 yX11_nextRow : Cond) ∈ ztb := zmem (i := 1070) (by decide +kernel) rfl
theorem zt1072 : (Cond.instanceMethod yX11_nextRow : Cond) ∈ ztb := zmem (i := 1072) (by decide +kernel) rfl
theorem zt1073 : (Cond.code yX11_nextRow cX11_nextRow 3 (some .int) : Cond) ∈ ztb := zmem (i := 1073) (by decide +kernel) rfl
theorem zt1074 : (Cond.methodLink RX11 118 yX11_isDigit : Cond) ∈ ztb := zmem (i := 1074) (by decide +kernel) rfl
theorem zt1075 : (Cond.static yX11_isDigit : Cond) ∈ ztb := zmem (i := 1075) (by decide +kernel) rfl
theorem zt1076 : (Cond.code yX11_isDigit cX11_isDigit 1 (some .boolean) : Cond) ∈ ztb := zmem (i := 1076) (by decide +kernel) rfl
theorem zt1077 : (Cond.methodLink RX11 132 yX11_nextRiver : Cond) ∈ ztb := zmem (i := 1077) (by decide +kernel) rfl
theorem zt1079 : (Cond.instanceMethod yX11_nextRiver : Cond) ∈ ztb := zmem (i := 1079) (by decide +kernel) rfl
theorem zt1080 : (Cond.code yX11_nextRiver cX11_nextRiver 3 (some .int) : Cond) ∈ ztb := zmem (i := 1080) (by decide +kernel) rfl
theorem zt1105 : (Cond.methodLink RX11 164 yX11_isDoing : Cond) ∈ ztb := zmem (i := 1105) (by decide +kernel) rfl
theorem zt1107 : (Cond.instanceMethod yX11_isDoing : Cond) ∈ ztb := zmem (i := 1107) (by decide +kernel) rfl
theorem zt1108 : (Cond.code yX11_isDoing cX11_isDoing 2 (some .boolean) : Cond) ∈ ztb := zmem (i := 1108) (by decide +kernel) rfl
theorem zt1113 : (Cond.methodLink RX11 167 yX11_isRing : Cond) ∈ ztb := zmem (i := 1113) (by decide +kernel) rfl
theorem zt1115 : (Cond.instanceMethod yX11_isRing : Cond) ∈ ztb := zmem (i := 1115) (by decide +kernel) rfl
theorem zt1116 : (Cond.code yX11_isRing cX11_isRing 2 (some .boolean) : Cond) ∈ ztb := zmem (i := 1116) (by decide +kernel) rfl
theorem zt1121 : (Cond.methodLink RX11 195 yX11_isLeaf : Cond) ∈ ztb := zmem (i := 1121) (by decide +kernel) rfl
theorem zt1123 : (Cond.instanceMethod yX11_isLeaf : Cond) ∈ ztb := zmem (i := 1123) (by decide +kernel) rfl
theorem zt1124 : (Cond.code yX11_isLeaf cX11_isLeaf 2 (some .boolean) : Cond) ∈ ztb := zmem (i := 1124) (by decide +kernel) rfl
theorem zt1125 : (Cond.methodLink RX11 198 yX11_leafTold : Cond) ∈ ztb := zmem (i := 1125) (by decide +kernel) rfl
theorem zt1127 : (Cond.instanceMethod yX11_leafTold : Cond) ∈ ztb := zmem (i := 1127) (by decide +kernel) rfl
theorem zt1128 : (Cond.code yX11_leafTold cX11_leafTold 3 (some .int) : Cond) ∈ ztb := zmem (i := 1128) (by decide +kernel) rfl
theorem zt1129 : (Cond.methodLink RX11 201 yX11_loadLive : Cond) ∈ ztb := zmem (i := 1129) (by decide +kernel) rfl
theorem zt1131 : (Cond.instanceMethod yX11_loadLive : Cond) ∈ ztb := zmem (i := 1131) (by decide +kernel) rfl
theorem zt1132 : (Cond.code yX11_loadLive cX11_loadLive 2 none : Cond) ∈ ztb := zmem (i := 1132) (by decide +kernel) rfl
theorem zt1133 : (Cond.methodLink RX11 185 yX11_pullNow : Cond) ∈ ztb := zmem (i := 1133) (by decide +kernel) rfl
theorem zt1135 : (Cond.instanceMethod yX11_pullNow : Cond) ∈ ztb := zmem (i := 1135) (by decide +kernel) rfl
theorem zt1136 : (Cond.code yX11_pullNow cX11_pullNow 3 (some .int) : Cond) ∈ ztb := zmem (i := 1136) (by decide +kernel) rfl
theorem zt1137 : (Cond.methodLink RX11 182 yX11_secondNow : Cond) ∈ ztb := zmem (i := 1137) (by decide +kernel) rfl
theorem zt1139 : (Cond.instanceMethod yX11_secondNow : Cond) ∈ ztb := zmem (i := 1139) (by decide +kernel) rfl
theorem zt1140 : (Cond.code yX11_secondNow cX11_secondNow 4 (some .int) : Cond) ∈ ztb := zmem (i := 1140) (by decide +kernel) rfl
theorem zt1145 : (Cond.methodLink RX11 204 yX11_goAll : Cond) ∈ ztb := zmem (i := 1145) (by decide +kernel) rfl
theorem zt1147 : (Cond.instanceMethod yX11_goAll : Cond) ∈ ztb := zmem (i := 1147) (by decide +kernel) rfl
theorem zt1148 : (Cond.code yX11_goAll cX11_goAll 6 none : Cond) ∈ ztb := zmem (i := 1148) (by decide +kernel) rfl
theorem zt1149 : (Cond.methodLink RX11 188 yX11_goTick : Cond) ∈ ztb := zmem (i := 1149) (by decide +kernel) rfl
theorem zt1151 : (Cond.instanceMethod yX11_goTick : Cond) ∈ ztb := zmem (i := 1151) (by decide +kernel) rfl
theorem zt1152 : (Cond.code yX11_goTick cX11_goTick 8 none : Cond) ∈ ztb := zmem (i := 1152) (by decide +kernel) rfl
theorem zt1153 : (Cond.methodLink RX11 174 yX11_stir : Cond) ∈ ztb := zmem (i := 1153) (by decide +kernel) rfl
theorem zt1155 : (Cond.instanceMethod yX11_stir : Cond) ∈ ztb := zmem (i := 1155) (by decide +kernel) rfl
theorem zt1156 : (Cond.code yX11_stir cX11_stir 6 none : Cond) ∈ ztb := zmem (i := 1156) (by decide +kernel) rfl
theorem zt1157 : (Cond.methodLink RX11 170 yX11_bounded : Cond) ∈ ztb := zmem (i := 1157) (by decide +kernel) rfl
theorem zt1159 : (Cond.instanceMethod yX11_bounded : Cond) ∈ ztb := zmem (i := 1159) (by decide +kernel) rfl
theorem zt1160 : (Cond.code yX11_bounded cX11_bounded 2 (some .int) : Cond) ∈ ztb := zmem (i := 1160) (by decide +kernel) rfl
theorem zt1161 : (Cond.methodLink RX11 178 yX11_dragTo : Cond) ∈ ztb := zmem (i := 1161) (by decide +kernel) rfl
theorem zt1163 : (Cond.instanceMethod yX11_dragTo : Cond) ∈ ztb := zmem (i := 1163) (by decide +kernel) rfl
theorem zt1164 : (Cond.code yX11_dragTo cX11_dragTo 4 none : Cond) ∈ ztb := zmem (i := 1164) (by decide +kernel) rfl
theorem zt1165 : (Cond.methodLink RX11 191 yX11_moved : Cond) ∈ ztb := zmem (i := 1165) (by decide +kernel) rfl
theorem zt1167 : (Cond.instanceMethod yX11_moved : Cond) ∈ ztb := zmem (i := 1167) (by decide +kernel) rfl
theorem zt1168 : (Cond.code yX11_moved cX11_moved 5 (some .int) : Cond) ∈ ztb := zmem (i := 1168) (by decide +kernel) rfl
theorem zt1185 : (Cond.methodLink RX11 207 yX11_loadStill : Cond) ∈ ztb := zmem (i := 1185) (by decide +kernel) rfl
theorem zt1187 : (Cond.instanceMethod yX11_loadStill : Cond) ∈ ztb := zmem (i := 1187) (by decide +kernel) rfl
theorem zt1188 : (Cond.code yX11_loadStill cX11_loadStill 2 none : Cond) ∈ ztb := zmem (i := 1188) (by decide +kernel) rfl
theorem zt1190 : (Cond.instanceMethod yX11_ends : Cond) ∈ ztb := zmem (i := 1190) (by decide +kernel) rfl
theorem zt1191 : (Cond.selects RX11 yX11_ends yX11_ends : Cond) ∈ ztb := zmem (i := 1191) (by decide +kernel) rfl
theorem zt1192 : (Cond.code yX11_ends cX11_ends 3 (some .int) : Cond) ∈ ztb := zmem (i := 1192) (by decide +kernel) rfl
theorem zt1193 : (Cond.methodLink RX11 219 yX11_isRow : Cond) ∈ ztb := zmem (i := 1193) (by decide +kernel) rfl
theorem zt1195 : (Cond.instanceMethod yX11_isRow : Cond) ∈ ztb := zmem (i := 1195) (by decide +kernel) rfl
theorem zt1196 : (Cond.code yX11_isRow cX11_isRow 2 (some .boolean) : Cond) ∈ ztb := zmem (i := 1196) (by decide +kernel) rfl
theorem zt1197 : (Cond.methodLink RX11 222 yX11_layRow : Cond) ∈ ztb := zmem (i := 1197) (by decide +kernel) rfl
theorem zt1199 : (Cond.instanceMethod yX11_layRow : Cond) ∈ ztb := zmem (i := 1199) (by decide +kernel) rfl
theorem zt1200 : (Cond.code yX11_layRow cX11_layRow 3 none : Cond) ∈ ztb := zmem (i := 1200) (by decide +kernel) rfl
theorem zt1201 : (Cond.methodLink RX11 210 yX11_begin : Cond) ∈ ztb := zmem (i := 1201) (by decide +kernel) rfl
theorem zt1203 : (Cond.instanceMethod yX11_begin : Cond) ∈ ztb := zmem (i := 1203) (by decide +kernel) rfl
theorem zt1204 : (Cond.code yX11_begin cX11_begin 2 none : Cond) ∈ ztb := zmem (i := 1204) (by decide +kernel) rfl
theorem zt1205 : (Cond.methodLink RX11 213 yX11_itemKind : Cond) ∈ ztb := zmem (i := 1205) (by decide +kernel) rfl
theorem zt1207 : (Cond.instanceMethod yX11_itemKind : Cond) ∈ ztb := zmem (i := 1207) (by decide +kernel) rfl
theorem zt1208 : (Cond.code yX11_itemKind cX11_itemKind 2 (some .int) : Cond) ∈ ztb := zmem (i := 1208) (by decide +kernel) rfl
theorem zt1209 : (Cond.methodLink RX11 216 yX11_itemNumber : Cond) ∈ ztb := zmem (i := 1209) (by decide +kernel) rfl
theorem zt1211 : (Cond.instanceMethod yX11_itemNumber : Cond) ∈ ztb := zmem (i := 1211) (by decide +kernel) rfl
theorem zt1212 : (Cond.code yX11_itemNumber cX11_itemNumber 2 (some .int) : Cond) ∈ ztb := zmem (i := 1212) (by decide +kernel) rfl
theorem zt1217 : (Cond.methodLink RX11 225 yX11_ends : Cond) ∈ ztb := zmem (i := 1217) (by decide +kernel) rfl
theorem zt1222 : (Cond.methodLink RX11 228 yX11_oneEnds : Cond) ∈ ztb := zmem (i := 1222) (by decide +kernel) rfl
theorem zt1224 : (Cond.instanceMethod yX11_oneEnds : Cond) ∈ ztb := zmem (i := 1224) (by decide +kernel) rfl
theorem zt1225 : (Cond.code yX11_oneEnds cX11_oneEnds 12 (some .int) : Cond) ∈ ztb := zmem (i := 1225) (by decide +kernel) rfl
theorem zt1234 : (Cond.methodLink RX11 235 yX11_offNow : Cond) ∈ ztb := zmem (i := 1234) (by decide +kernel) rfl
theorem zt1236 : (Cond.instanceMethod yX11_offNow : Cond) ∈ ztb := zmem (i := 1236) (by decide +kernel) rfl
theorem zt1237 : (Cond.code yX11_offNow cX11_offNow 5 (some .int) : Cond) ∈ ztb := zmem (i := 1237) (by decide +kernel) rfl
theorem zt1238 : (Cond.methodLink RX11 232 yX11_size : Cond) ∈ ztb := zmem (i := 1238) (by decide +kernel) rfl
theorem zt1239 : (Cond.static yX11_size : Cond) ∈ ztb := zmem (i := 1239) (by decide +kernel) rfl
theorem zt1240 : (Cond.code yX11_size cX11_size 1 (some .int) : Cond) ∈ ztb := zmem (i := 1240) (by decide +kernel) rfl
theorem zt1245 : (Cond.constant RX11 242 268435456 : Cond) ∈ ztb := zmem (i := 1245) (by decide +kernel) rfl
theorem zt1258 : (Cond.methodLink RX11 243 yX11_differentNow : Cond) ∈ ztb := zmem (i := 1258) (by decide +kernel) rfl
theorem zt1260 : (Cond.instanceMethod yX11_differentNow : Cond) ∈ ztb := zmem (i := 1260) (by decide +kernel) rfl
theorem zt1261 : (Cond.code yX11_differentNow cX11_differentNow 4 (some .int) : Cond) ∈ ztb := zmem (i := 1261) (by decide +kernel) rfl
theorem zt1278 : (Cond.methodLink RX11 267 yX11_areYears : Cond) ∈ ztb := zmem (i := 1278) (by decide +kernel) rfl
theorem zt1279 : (Cond.static yX11_areYears : Cond) ∈ ztb := zmem (i := 1279) (by decide +kernel) rfl
theorem zt1280 : (Cond.code yX11_areYears cX11_areYears 3 (some .boolean) : Cond) ∈ ztb := zmem (i := 1280) (by decide +kernel) rfl
theorem zt1281 : (Cond.methodLink RX11 270 yX11_layYears : Cond) ∈ ztb := zmem (i := 1281) (by decide +kernel) rfl
theorem zt1283 : (Cond.instanceMethod yX11_layYears : Cond) ∈ ztb := zmem (i := 1283) (by decide +kernel) rfl
theorem zt1284 : (Cond.code yX11_layYears cX11_layYears 6 none : Cond) ∈ ztb := zmem (i := 1284) (by decide +kernel) rfl
theorem zt1285 : (Cond.methodLink RX11 264 yX11_goYear : Cond) ∈ ztb := zmem (i := 1285) (by decide +kernel) rfl
theorem zt1287 : (Cond.instanceMethod yX11_goYear : Cond) ∈ ztb := zmem (i := 1287) (by decide +kernel) rfl
theorem zt1288 : (Cond.code yX11_goYear cX11_goYear 8 none : Cond) ∈ ztb := zmem (i := 1288) (by decide +kernel) rfl
theorem zt1289 : (Cond.methodLink RX11 252 yX11_layBends : Cond) ∈ ztb := zmem (i := 1289) (by decide +kernel) rfl
theorem zt1291 : (Cond.instanceMethod yX11_layBends : Cond) ∈ ztb := zmem (i := 1291) (by decide +kernel) rfl
theorem zt1292 : (Cond.code yX11_layBends cX11_layBends 2 none : Cond) ∈ ztb := zmem (i := 1292) (by decide +kernel) rfl
theorem zt1293 : (Cond.methodLink RX11 255 yX11_isFree : Cond) ∈ ztb := zmem (i := 1293) (by decide +kernel) rfl
theorem zt1295 : (Cond.instanceMethod yX11_isFree : Cond) ∈ ztb := zmem (i := 1295) (by decide +kernel) rfl
theorem zt1296 : (Cond.code yX11_isFree cX11_isFree 2 (some .boolean) : Cond) ∈ ztb := zmem (i := 1296) (by decide +kernel) rfl
theorem zt1321 : (Cond.methodLink RX11 283 yX11_howMany : Cond) ∈ ztb := zmem (i := 1321) (by decide +kernel) rfl
theorem zt1323 : (Cond.instanceMethod yX11_howMany : Cond) ∈ ztb := zmem (i := 1323) (by decide +kernel) rfl
theorem zt1324 : (Cond.code yX11_howMany cX11_howMany 2 (some .int) : Cond) ∈ ztb := zmem (i := 1324) (by decide +kernel) rfl
theorem zt1329 : (Cond.constantLong RX11 296 443 : Cond) ∈ ztb := zmem (i := 1329) (by decide +kernel) rfl
theorem zt1330 : (Cond.methodLink RX11 298 yX11_mixCup : Cond) ∈ ztb := zmem (i := 1330) (by decide +kernel) rfl
theorem zt1332 : (Cond.instanceMethod yX11_mixCup : Cond) ∈ ztb := zmem (i := 1332) (by decide +kernel) rfl
theorem zt1333 : (Cond.code yX11_mixCup cX11_mixCup 3 none : Cond) ∈ ztb := zmem (i := 1333) (by decide +kernel) rfl
theorem zt1334 : (Cond.methodLink RX11 292 yX11_mix : Cond) ∈ ztb := zmem (i := 1334) (by decide +kernel) rfl
theorem zt1336 : (Cond.instanceMethod yX11_mix : Cond) ∈ ztb := zmem (i := 1336) (by decide +kernel) rfl
theorem zt1337 : (Cond.code yX11_mix cX11_mix 3 none : Cond) ∈ ztb := zmem (i := 1337) (by decide +kernel) rfl
theorem zt1338 : (Cond.constantLong RX11 286 31 : Cond) ∈ ztb := zmem (i := 1338) (by decide +kernel) rfl
theorem zt1339 : (Cond.methodLink RX11 301 yX11_mixRow : Cond) ∈ ztb := zmem (i := 1339) (by decide +kernel) rfl
theorem zt1341 : (Cond.instanceMethod yX11_mixRow : Cond) ∈ ztb := zmem (i := 1341) (by decide +kernel) rfl
theorem zt1342 : (Cond.code yX11_mixRow cX11_mixRow 3 none : Cond) ∈ ztb := zmem (i := 1342) (by decide +kernel) rfl
theorem zt234 : (Cond.laysFinal RX0 "LeavesInCups$Brew" "rounds" "[[I" : Cond) ∈ ztb := zmem (i := 234) (by decide +kernel) rfl
theorem zt236 : (Cond.laysFinal RX0 "LeavesInCups$Brew" "lying" "[I" : Cond) ∈ ztb := zmem (i := 236) (by decide +kernel) rfl
theorem zt131 : (Cond.laysFinal RX1 "LeavesInCups$Cup" "told" "[I" : Cond) ∈ ztb := zmem (i := 131) (by decide +kernel) rfl
theorem zt133 : (Cond.lays RX1 "LeavesInCups$Cup" "taken" "I" : Cond) ∈ ztb := zmem (i := 133) (by decide +kernel) rfl
theorem zt113 : (Cond.laysFinal RX2 "LeavesInCups$Doing" "kind" "I" : Cond) ∈ ztb := zmem (i := 113) (by decide +kernel) rfl
theorem zt115 : (Cond.laysFinal RX2 "LeavesInCups$Doing" "n" "I" : Cond) ∈ ztb := zmem (i := 115) (by decide +kernel) rfl
theorem zt251 : (Cond.laysFinal RX3 "LeavesInCups$Image" "brew" "LLeavesInCups$Brew;" : Cond) ∈ ztb := zmem (i := 251) (by decide +kernel) rfl
theorem zt253 : (Cond.laysFinal RX3 "LeavesInCups$Image" "wanted" "[I" : Cond) ∈ ztb := zmem (i := 253) (by decide +kernel) rfl
theorem zt255 : (Cond.laysFinal RX3 "LeavesInCups$Image" "seen" "[I" : Cond) ∈ ztb := zmem (i := 255) (by decide +kernel) rfl
theorem zt257 : (Cond.lays RX3 "LeavesInCups$Image" "leavesThen" "I" : Cond) ∈ ztb := zmem (i := 257) (by decide +kernel) rfl
theorem zt211 : (Cond.laysFinal RX4 "LeavesInCups$Leaves" "told" "[I" : Cond) ∈ ztb := zmem (i := 211) (by decide +kernel) rfl
theorem zt213 : (Cond.laysFinal RX4 "LeavesInCups$Leaves" "weight" "[I" : Cond) ∈ ztb := zmem (i := 213) (by decide +kernel) rfl
theorem zt215 : (Cond.laysFinal RX4 "LeavesInCups$Leaves" "stick" "[I" : Cond) ∈ ztb := zmem (i := 215) (by decide +kernel) rfl
theorem zt217 : (Cond.laysFinal RX4 "LeavesInCups$Leaves" "seen" "[I" : Cond) ∈ ztb := zmem (i := 217) (by decide +kernel) rfl
theorem zt219 : (Cond.lays RX4 "LeavesInCups$Leaves" "many" "I" : Cond) ∈ ztb := zmem (i := 219) (by decide +kernel) rfl
theorem zt96 : (Cond.laysFinal RX5 "LeavesInCups$Page" "codes" "[I" : Cond) ∈ ztb := zmem (i := 96) (by decide +kernel) rfl
theorem zt98 : (Cond.lays RX5 "LeavesInCups$Page" "many" "I" : Cond) ∈ ztb := zmem (i := 98) (by decide +kernel) rfl
theorem zt272 : (Cond.laysFinal RX6 "LeavesInCups$Pictures" "ahead" "[I" : Cond) ∈ ztb := zmem (i := 272) (by decide +kernel) rfl
theorem zt274 : (Cond.laysFinal RX6 "LeavesInCups$Pictures" "behind" "[I" : Cond) ∈ ztb := zmem (i := 274) (by decide +kernel) rfl
theorem zt276 : (Cond.lays RX6 "LeavesInCups$Pictures" "many" "I" : Cond) ∈ ztb := zmem (i := 276) (by decide +kernel) rfl
theorem zt152 : (Cond.laysFinal RX7 "LeavesInCups$Rive\x72" "told" "[I" : Cond) ∈ ztb := zmem (i := 152) (by decide +kernel) rfl
theorem zt154 : (Cond.laysFinal RX7 "LeavesInCups$Rive\x72" "held" "[Z" : Cond) ∈ ztb := zmem (i := 154) (by decide +kernel) rfl
theorem zt156 : (Cond.laysFinal RX7 "LeavesInCups$Rive\x72" "now" "[I" : Cond) ∈ ztb := zmem (i := 156) (by decide +kernel) rfl
theorem zt158 : (Cond.laysFinal RX7 "LeavesInCups$Rive\x72" "before" "[I" : Cond) ∈ ztb := zmem (i := 158) (by decide +kernel) rfl
theorem zt160 : (Cond.lays RX7 "LeavesInCups$Rive\x72" "points" "I" : Cond) ∈ ztb := zmem (i := 160) (by decide +kernel) rfl
theorem zt162 : (Cond.lays RX7 "LeavesInCups$Rive\x72" "at" "I" : Cond) ∈ ztb := zmem (i := 162) (by decide +kernel) rfl
theorem zt180 : (Cond.laysFinal RX8 "LeavesInCups$Row" "doing" "[I" : Cond) ∈ ztb := zmem (i := 180) (by decide +kernel) rfl
theorem zt182 : (Cond.laysFinal RX8 "LeavesInCups$Row" "ticking" "[I" : Cond) ∈ ztb := zmem (i := 182) (by decide +kernel) rfl
theorem zt184 : (Cond.lays RX8 "LeavesInCups$Row" "items" "I" : Cond) ∈ ztb := zmem (i := 184) (by decide +kernel) rfl
theorem zt186 : (Cond.lays RX8 "LeavesInCups$Row" "at" "I" : Cond) ∈ ztb := zmem (i := 186) (by decide +kernel) rfl
theorem zt299 : (Cond.laysFinal RX10 "LeavesInCups" "page" "LLeavesInCups$Page;" : Cond) ∈ ztb := zmem (i := 299) (by decide +kernel) rfl
theorem zt301 : (Cond.laysFinal RX10 "LeavesInCups" "resting" "LLeavesInCups$Doing;" : Cond) ∈ ztb := zmem (i := 301) (by decide +kernel) rfl
theorem zt303 : (Cond.laysFinal RX10 "LeavesInCups" "doings" "[LLeavesInCups$Doing;" : Cond) ∈ ztb := zmem (i := 303) (by decide +kernel) rfl
theorem zt305 : (Cond.lays RX10 "LeavesInCups" "doingCount" "I" : Cond) ∈ ztb := zmem (i := 305) (by decide +kernel) rfl
theorem zt307 : (Cond.lays RX10 "LeavesInCups" "theCup" "LLeavesInCups$Cup;" : Cond) ∈ ztb := zmem (i := 307) (by decide +kernel) rfl
theorem zt309 : (Cond.lays RX10 "LeavesInCups" "triedCup" "LLeavesInCups$Cup;" : Cond) ∈ ztb := zmem (i := 309) (by decide +kernel) rfl
theorem zt311 : (Cond.lays RX10 "LeavesInCups" "cupsRead" "I" : Cond) ∈ ztb := zmem (i := 311) (by decide +kernel) rfl
theorem zt313 : (Cond.lays RX10 "LeavesInCups" "theRive\x72" "LLeavesInCups$River;" : Cond) ∈ ztb := zmem (i := 313) (by decide +kernel) rfl
theorem zt315 : (Cond.lays RX10 "LeavesInCups" "triedRive\x72" "LLeavesInCups$River;" : Cond) ∈ ztb := zmem (i := 315) (by decide +kernel) rfl
theorem zt317 : (Cond.laysFinal RX10 "LeavesInCups" "rows" "[LLeavesInCups$Row;" : Cond) ∈ ztb := zmem (i := 317) (by decide +kernel) rfl
theorem zt319 : (Cond.lays RX10 "LeavesInCups" "triedRow" "LLeavesInCups$Row;" : Cond) ∈ ztb := zmem (i := 319) (by decide +kernel) rfl
theorem zt321 : (Cond.lays RX10 "LeavesInCups" "rowCount" "I" : Cond) ∈ ztb := zmem (i := 321) (by decide +kernel) rfl
theorem zt323 : (Cond.laysFinal RX10 "LeavesInCups" "leaves" "LLeavesInCups$Leaves;" : Cond) ∈ ztb := zmem (i := 323) (by decide +kernel) rfl
theorem zt325 : (Cond.laysFinal RX10 "LeavesInCups" "weighed" "LLeavesInCups$Leaves;" : Cond) ∈ ztb := zmem (i := 325) (by decide +kernel) rfl
theorem zt327 : (Cond.laysFinal RX10 "LeavesInCups" "brew" "LLeavesInCups$Brew;" : Cond) ∈ ztb := zmem (i := 327) (by decide +kernel) rfl
theorem zt329 : (Cond.laysFinal RX10 "LeavesInCups" "trial" "LLeavesInCups$Brew;" : Cond) ∈ ztb := zmem (i := 329) (by decide +kernel) rfl
theorem zt331 : (Cond.laysFinal RX10 "LeavesInCups" "kept" "LLeavesInCups$Image;" : Cond) ∈ ztb := zmem (i := 331) (by decide +kernel) rfl
theorem zt333 : (Cond.laysFinal RX10 "LeavesInCups" "wanted" "[I" : Cond) ∈ ztb := zmem (i := 333) (by decide +kernel) rfl
theorem zt335 : (Cond.lays RX10 "LeavesInCups" "findings" "I" : Cond) ∈ ztb := zmem (i := 335) (by decide +kernel) rfl
theorem zt337 : (Cond.laysFinal RX10 "LeavesInCups" "pictures" "LLeavesInCups$Pictures;" : Cond) ∈ ztb := zmem (i := 337) (by decide +kernel) rfl
theorem zt943 : (Cond.laysFinal RX11 "LeavesInCupsModel" "cup" "[I" : Cond) ∈ ztb := zmem (i := 943) (by decide +kernel) rfl
theorem zt945 : (Cond.lays RX11 "LeavesInCupsModel" "isCup" "Z" : Cond) ∈ ztb := zmem (i := 945) (by decide +kernel) rfl
theorem zt947 : (Cond.lays RX11 "LeavesInCupsModel" "cups" "I" : Cond) ∈ ztb := zmem (i := 947) (by decide +kernel) rfl
theorem zt949 : (Cond.laysFinal RX11 "LeavesInCupsModel" "live" "[I" : Cond) ∈ ztb := zmem (i := 949) (by decide +kernel) rfl
theorem zt951 : (Cond.laysFinal RX11 "LeavesInCupsModel" "work" "[I" : Cond) ∈ ztb := zmem (i := 951) (by decide +kernel) rfl
theorem zt953 : (Cond.lays RX11 "LeavesInCupsModel" "doings" "I" : Cond) ∈ ztb := zmem (i := 953) (by decide +kernel) rfl
theorem zt955 : (Cond.laysFinal RX11 "LeavesInCupsModel" "kindOf" "[I" : Cond) ∈ ztb := zmem (i := 955) (by decide +kernel) rfl
theorem zt957 : (Cond.laysFinal RX11 "LeavesInCupsModel" "numberOf" "[I" : Cond) ∈ ztb := zmem (i := 957) (by decide +kernel) rfl
theorem zt959 : (Cond.lays RX11 "LeavesInCupsModel" "leaves" "I" : Cond) ∈ ztb := zmem (i := 959) (by decide +kernel) rfl
theorem zt961 : (Cond.laysFinal RX11 "LeavesInCupsModel" "ringOf" "[I" : Cond) ∈ ztb := zmem (i := 961) (by decide +kernel) rfl
theorem zt963 : (Cond.laysFinal RX11 "LeavesInCupsModel" "toldOf" "[I" : Cond) ∈ ztb := zmem (i := 963) (by decide +kernel) rfl
theorem zt965 : (Cond.laysFinal RX11 "LeavesInCupsModel" "weightOf" "[I" : Cond) ∈ ztb := zmem (i := 965) (by decide +kernel) rfl
theorem zt967 : (Cond.laysFinal RX11 "LeavesInCupsModel" "stickOf" "[I" : Cond) ∈ ztb := zmem (i := 967) (by decide +kernel) rfl
theorem zt969 : (Cond.laysFinal RX11 "LeavesInCupsModel" "seenOf" "[I" : Cond) ∈ ztb := zmem (i := 969) (by decide +kernel) rfl
theorem zt971 : (Cond.laysFinal RX11 "LeavesInCupsModel" "place" "[I" : Cond) ∈ ztb := zmem (i := 971) (by decide +kernel) rfl
theorem zt973 : (Cond.laysFinal RX11 "LeavesInCupsModel" "wanted" "[I" : Cond) ∈ ztb := zmem (i := 973) (by decide +kernel) rfl
theorem zt975 : (Cond.lays RX11 "LeavesInCupsModel" "rows" "I" : Cond) ∈ ztb := zmem (i := 975) (by decide +kernel) rfl
theorem zt977 : (Cond.laysFinal RX11 "LeavesInCupsModel" "itemMany" "[I" : Cond) ∈ ztb := zmem (i := 977) (by decide +kernel) rfl
theorem zt979 : (Cond.laysFinal RX11 "LeavesInCupsModel" "itemDoing" "[I" : Cond) ∈ ztb := zmem (i := 979) (by decide +kernel) rfl
theorem zt981 : (Cond.laysFinal RX11 "LeavesInCupsModel" "itemTicks" "[I" : Cond) ∈ ztb := zmem (i := 981) (by decide +kernel) rfl
theorem zt983 : (Cond.lays RX11 "LeavesInCupsModel" "pictures" "I" : Cond) ∈ ztb := zmem (i := 983) (by decide +kernel) rfl
theorem zt985 : (Cond.laysFinal RX11 "LeavesInCupsModel" "aheadOf" "[I" : Cond) ∈ ztb := zmem (i := 985) (by decide +kernel) rfl
theorem zt987 : (Cond.laysFinal RX11 "LeavesInCupsModel" "behindOf" "[I" : Cond) ∈ ztb := zmem (i := 987) (by decide +kernel) rfl
theorem zt989 : (Cond.lays RX11 "LeavesInCupsModel" "points" "I" : Cond) ∈ ztb := zmem (i := 989) (by decide +kernel) rfl
theorem zt991 : (Cond.laysFinal RX11 "LeavesInCupsModel" "sideOf" "[I" : Cond) ∈ ztb := zmem (i := 991) (by decide +kernel) rfl
theorem zt993 : (Cond.laysFinal RX11 "LeavesInCupsModel" "isHeld" "[Z" : Cond) ∈ ztb := zmem (i := 993) (by decide +kernel) rfl
theorem zt995 : (Cond.lays RX11 "LeavesInCupsModel" "asks" "I" : Cond) ∈ ztb := zmem (i := 995) (by decide +kernel) rfl
theorem zt997 : (Cond.lays RX11 "LeavesInCupsModel" "pageLength" "I" : Cond) ∈ ztb := zmem (i := 997) (by decide +kernel) rfl
theorem zt999 : (Cond.laysFinal RX11 "LeavesInCupsModel" "page" "[B" : Cond) ∈ ztb := zmem (i := 999) (by decide +kernel) rfl
theorem zt1001 : (Cond.lays RX11 "LeavesInCupsModel" "isKept" "Z" : Cond) ∈ ztb := zmem (i := 1001) (by decide +kernel) rfl
theorem zt1003 : (Cond.lays RX11 "LeavesInCupsModel" "keptCup" "I" : Cond) ∈ ztb := zmem (i := 1003) (by decide +kernel) rfl
theorem zt1005 : (Cond.lays RX11 "LeavesInCupsModel" "keptLeaves" "I" : Cond) ∈ ztb := zmem (i := 1005) (by decide +kernel) rfl
theorem zt1007 : (Cond.laysFinal RX11 "LeavesInCupsModel" "keptRounds" "[I" : Cond) ∈ ztb := zmem (i := 1007) (by decide +kernel) rfl
theorem zt1009 : (Cond.laysFinal RX11 "LeavesInCupsModel" "keptRing" "[I" : Cond) ∈ ztb := zmem (i := 1009) (by decide +kernel) rfl
theorem zt1011 : (Cond.laysFinal RX11 "LeavesInCupsModel" "keptSeen" "[I" : Cond) ∈ ztb := zmem (i := 1011) (by decide +kernel) rfl
theorem zt1013 : (Cond.laysFinal RX11 "LeavesInCupsModel" "keptWant" "[I" : Cond) ∈ ztb := zmem (i := 1013) (by decide +kernel) rfl
theorem zt1015 : (Cond.lays RX11 "LeavesInCupsModel" "faultAt" "I" : Cond) ∈ ztb := zmem (i := 1015) (by decide +kernel) rfl
theorem zt1017 : (Cond.lays RX11 "LeavesInCupsModel" "isWhole" "Z" : Cond) ∈ ztb := zmem (i := 1017) (by decide +kernel) rfl
theorem zt1019 : (Cond.laysFinal RX11 "LeavesInCupsModel" "newCup" "[I" : Cond) ∈ ztb := zmem (i := 1019) (by decide +kernel) rfl
theorem zt1021 : (Cond.lays RX11 "LeavesInCupsModel" "newItems" "I" : Cond) ∈ ztb := zmem (i := 1021) (by decide +kernel) rfl
theorem zt1023 : (Cond.laysFinal RX11 "LeavesInCupsModel" "newDoing" "[I" : Cond) ∈ ztb := zmem (i := 1023) (by decide +kernel) rfl
theorem zt1025 : (Cond.laysFinal RX11 "LeavesInCupsModel" "newTicks" "[I" : Cond) ∈ ztb := zmem (i := 1025) (by decide +kernel) rfl
theorem zt1027 : (Cond.lays RX11 "LeavesInCupsModel" "newPoints" "I" : Cond) ∈ ztb := zmem (i := 1027) (by decide +kernel) rfl
theorem zt1029 : (Cond.laysFinal RX11 "LeavesInCupsModel" "newSide" "[I" : Cond) ∈ ztb := zmem (i := 1029) (by decide +kernel) rfl
theorem zt1031 : (Cond.laysFinal RX11 "LeavesInCupsModel" "newHeld" "[Z" : Cond) ∈ ztb := zmem (i := 1031) (by decide +kernel) rfl
theorem zt1033 : (Cond.laysFinal RX11 "LeavesInCupsModel" "side" "[I" : Cond) ∈ ztb := zmem (i := 1033) (by decide +kernel) rfl
theorem zt1035 : (Cond.laysFinal RX11 "LeavesInCupsModel" "bend" "[I" : Cond) ∈ ztb := zmem (i := 1035) (by decide +kernel) rfl
theorem zt1037 : (Cond.lays RX11 "LeavesInCupsModel" "held" "I" : Cond) ∈ ztb := zmem (i := 1037) (by decide +kernel) rfl
theorem zt1039 : (Cond.lays RX11 "LeavesInCupsModel" "cutMany" "I" : Cond) ∈ ztb := zmem (i := 1039) (by decide +kernel) rfl
theorem zt1041 : (Cond.lays RX11 "LeavesInCupsModel" "firstYea\x72" "I" : Cond) ∈ ztb := zmem (i := 1041) (by decide +kernel) rfl
theorem zt1043 : (Cond.lays RX11 "LeavesInCupsModel" "h" "J" : Cond) ∈ ztb := zmem (i := 1043) (by decide +kernel) rfl
theorem zin_X0 : ∀ w ∈ u_ws RX0 TX0 2, w ∈ ztb := by
  intro w hw
  obtain ⟨k, hk, rfl⟩ := List.mem_map.mp hw
  have hk := List.mem_range.mp hk
  match k, hk with
  | 0, _ => exact zt234
  | 1, _ => exact zt236
  | k + 2, hk => omega
theorem zcl_X0 : zCl 0 RX0 TX0 2 := ⟨rfl, by decide, zin_X0, tyX0_ok, nmX0, by decide +kernel⟩
theorem zin_X1 : ∀ w ∈ u_ws RX1 TX1 2, w ∈ ztb := by
  intro w hw
  obtain ⟨k, hk, rfl⟩ := List.mem_map.mp hw
  have hk := List.mem_range.mp hk
  match k, hk with
  | 0, _ => exact zt131
  | 1, _ => exact zt133
  | k + 2, hk => omega
theorem zcl_X1 : zCl 1 RX1 TX1 2 := ⟨rfl, by decide, zin_X1, tyX1_ok, nmX1, by decide +kernel⟩
theorem zin_X2 : ∀ w ∈ u_ws RX2 TX2 2, w ∈ ztb := by
  intro w hw
  obtain ⟨k, hk, rfl⟩ := List.mem_map.mp hw
  have hk := List.mem_range.mp hk
  match k, hk with
  | 0, _ => exact zt113
  | 1, _ => exact zt115
  | k + 2, hk => omega
theorem zcl_X2 : zCl 2 RX2 TX2 2 := ⟨rfl, by decide, zin_X2, tyX2_ok, nmX2, by decide +kernel⟩
theorem zin_X3 : ∀ w ∈ u_ws RX3 TX3 4, w ∈ ztb := by
  intro w hw
  obtain ⟨k, hk, rfl⟩ := List.mem_map.mp hw
  have hk := List.mem_range.mp hk
  match k, hk with
  | 0, _ => exact zt251
  | 1, _ => exact zt253
  | 2, _ => exact zt255
  | 3, _ => exact zt257
  | k + 4, hk => omega
theorem zcl_X3 : zCl 3 RX3 TX3 4 := ⟨rfl, by decide, zin_X3, tyX3_ok, nmX3, by decide +kernel⟩
theorem zin_X4 : ∀ w ∈ u_ws RX4 TX4 5, w ∈ ztb := by
  intro w hw
  obtain ⟨k, hk, rfl⟩ := List.mem_map.mp hw
  have hk := List.mem_range.mp hk
  match k, hk with
  | 0, _ => exact zt211
  | 1, _ => exact zt213
  | 2, _ => exact zt215
  | 3, _ => exact zt217
  | 4, _ => exact zt219
  | k + 5, hk => omega
theorem zcl_X4 : zCl 4 RX4 TX4 5 := ⟨rfl, by decide, zin_X4, tyX4_ok, nmX4, by decide +kernel⟩
theorem zin_X5 : ∀ w ∈ u_ws RX5 TX5 2, w ∈ ztb := by
  intro w hw
  obtain ⟨k, hk, rfl⟩ := List.mem_map.mp hw
  have hk := List.mem_range.mp hk
  match k, hk with
  | 0, _ => exact zt96
  | 1, _ => exact zt98
  | k + 2, hk => omega
theorem zcl_X5 : zCl 5 RX5 TX5 2 := ⟨rfl, by decide, zin_X5, tyX5_ok, nmX5, by decide +kernel⟩
theorem zin_X6 : ∀ w ∈ u_ws RX6 TX6 3, w ∈ ztb := by
  intro w hw
  obtain ⟨k, hk, rfl⟩ := List.mem_map.mp hw
  have hk := List.mem_range.mp hk
  match k, hk with
  | 0, _ => exact zt272
  | 1, _ => exact zt274
  | 2, _ => exact zt276
  | k + 3, hk => omega
theorem zcl_X6 : zCl 6 RX6 TX6 3 := ⟨rfl, by decide, zin_X6, tyX6_ok, nmX6, by decide +kernel⟩
theorem zin_X7 : ∀ w ∈ u_ws RX7 TX7 6, w ∈ ztb := by
  intro w hw
  obtain ⟨k, hk, rfl⟩ := List.mem_map.mp hw
  have hk := List.mem_range.mp hk
  match k, hk with
  | 0, _ => exact zt152
  | 1, _ => exact zt154
  | 2, _ => exact zt156
  | 3, _ => exact zt158
  | 4, _ => exact zt160
  | 5, _ => exact zt162
  | k + 6, hk => omega
theorem zcl_X7 : zCl 7 RX7 TX7 6 := ⟨rfl, by decide, zin_X7, tyX7_ok, nmX7, by decide +kernel⟩
theorem zin_X8 : ∀ w ∈ u_ws RX8 TX8 4, w ∈ ztb := by
  intro w hw
  obtain ⟨k, hk, rfl⟩ := List.mem_map.mp hw
  have hk := List.mem_range.mp hk
  match k, hk with
  | 0, _ => exact zt180
  | 1, _ => exact zt182
  | 2, _ => exact zt184
  | 3, _ => exact zt186
  | k + 4, hk => omega
theorem zcl_X8 : zCl 8 RX8 TX8 4 := ⟨rfl, by decide, zin_X8, tyX8_ok, nmX8, by decide +kernel⟩
theorem zin_X10 : ∀ w ∈ u_ws RX10 TX10 20, w ∈ ztb := by
  intro w hw
  obtain ⟨k, hk, rfl⟩ := List.mem_map.mp hw
  have hk := List.mem_range.mp hk
  match k, hk with
  | 0, _ => exact zt299
  | 1, _ => exact zt301
  | 2, _ => exact zt303
  | 3, _ => exact zt305
  | 4, _ => exact zt307
  | 5, _ => exact zt309
  | 6, _ => exact zt311
  | 7, _ => exact zt313
  | 8, _ => exact zt315
  | 9, _ => exact zt317
  | 10, _ => exact zt319
  | 11, _ => exact zt321
  | 12, _ => exact zt323
  | 13, _ => exact zt325
  | 14, _ => exact zt327
  | 15, _ => exact zt329
  | 16, _ => exact zt331
  | 17, _ => exact zt333
  | 18, _ => exact zt335
  | 19, _ => exact zt337
  | k + 20, hk => omega
theorem zcl_X10 : zCl 9 RX10 TX10 20 := ⟨rfl, by decide, zin_X10, tyX10_ok, nmX10, by decide +kernel⟩
theorem zin_X11 : ∀ w ∈ u_ws RX11 TX11 51, w ∈ ztb := by
  intro w hw
  obtain ⟨k, hk, rfl⟩ := List.mem_map.mp hw
  have hk := List.mem_range.mp hk
  match k, hk with
  | 0, _ => exact zt943
  | 1, _ => exact zt945
  | 2, _ => exact zt947
  | 3, _ => exact zt949
  | 4, _ => exact zt951
  | 5, _ => exact zt953
  | 6, _ => exact zt955
  | 7, _ => exact zt957
  | 8, _ => exact zt959
  | 9, _ => exact zt961
  | 10, _ => exact zt963
  | 11, _ => exact zt965
  | 12, _ => exact zt967
  | 13, _ => exact zt969
  | 14, _ => exact zt971
  | 15, _ => exact zt973
  | 16, _ => exact zt975
  | 17, _ => exact zt977
  | 18, _ => exact zt979
  | 19, _ => exact zt981
  | 20, _ => exact zt983
  | 21, _ => exact zt985
  | 22, _ => exact zt987
  | 23, _ => exact zt989
  | 24, _ => exact zt991
  | 25, _ => exact zt993
  | 26, _ => exact zt995
  | 27, _ => exact zt997
  | 28, _ => exact zt999
  | 29, _ => exact zt1001
  | 30, _ => exact zt1003
  | 31, _ => exact zt1005
  | 32, _ => exact zt1007
  | 33, _ => exact zt1009
  | 34, _ => exact zt1011
  | 35, _ => exact zt1013
  | 36, _ => exact zt1015
  | 37, _ => exact zt1017
  | 38, _ => exact zt1019
  | 39, _ => exact zt1021
  | 40, _ => exact zt1023
  | 41, _ => exact zt1025
  | 42, _ => exact zt1027
  | 43, _ => exact zt1029
  | 44, _ => exact zt1031
  | 45, _ => exact zt1033
  | 46, _ => exact zt1035
  | 47, _ => exact zt1037
  | 48, _ => exact zt1039
  | 49, _ => exact zt1041
  | 50, _ => exact zt1043
  | k + 51, hk => omega
theorem zcl_X11 : zCl 10 RX11 TX11 51 := ⟨rfl, by decide, zin_X11, tyX11_ok, nmX11, by decide +kernel⟩
