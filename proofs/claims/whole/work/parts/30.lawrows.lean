theorem zt78 : (Cond.classLink RL 7 RX10 : Cond) ∈ ztb := zmem (i := 78) (by decide +kernel) rfl
theorem zt79 : (Cond.instantiable RX10 20 : Cond) ∈ ztb := zmem (i := 79) (by decide +kernel) rfl
theorem zt81 : (Cond.instanceMethod yX10_init : Cond) ∈ ztb := zmem (i := 81) (by decide +kernel) rfl
theorem zt80 : (Cond.methodLink RL 9 yX10_init : Cond) ∈ ztb := zmem (i := 80) (by decide +kernel) rfl
theorem zt82 : (Cond.code yX10_init cX10_init 1 none : Cond) ∈ ztb := zmem (i := 82) (by decide +kernel) rfl
theorem zt896 : (Cond.classLink RL 10 RX11 : Cond) ∈ ztb := zmem (i := 896) (by decide +kernel) rfl
theorem zt897 : (Cond.instantiable RX11 51 : Cond) ∈ ztb := zmem (i := 897) (by decide +kernel) rfl
theorem zt899 : (Cond.instanceMethod yX11_init : Cond) ∈ ztb := zmem (i := 899) (by decide +kernel) rfl
theorem zt898 : (Cond.methodLink RL 12 yX11_init : Cond) ∈ ztb := zmem (i := 898) (by decide +kernel) rfl
theorem zt900 : (Cond.code yX11_init cX11_init 1 none : Cond) ∈ ztb := zmem (i := 900) (by decide +kernel) rfl
theorem zt1353 : (Cond.constantLong RL 13 4294967295 : Cond) ∈ ztb := zmem (i := 1353) (by decide +kernel) rfl
theorem zt341 : (Cond.instanceMethod yX10_letters : Cond) ∈ ztb := zmem (i := 341) (by decide +kernel) rfl
theorem zt342 : (Cond.selects RX10 yX10_letters yX10_letters : Cond) ∈ ztb := zmem (i := 342) (by decide +kernel) rfl
theorem zt340 : (Cond.methodLink RL 15 yX10_letters : Cond) ∈ ztb := zmem (i := 340) (by decide +kernel) rfl
theorem zt343 : (Cond.code yX10_letters cX10_letters 3 (some .int) : Cond) ∈ ztb := zmem (i := 343) (by decide +kernel) rfl
theorem zt1057 : (Cond.instanceMethod yX11_letters : Cond) ∈ ztb := zmem (i := 1057) (by decide +kernel) rfl
theorem zt1058 : (Cond.selects RX11 yX11_letters yX11_letters : Cond) ∈ ztb := zmem (i := 1058) (by decide +kernel) rfl
theorem zt1056 : (Cond.methodLink RL 19 yX11_letters : Cond) ∈ ztb := zmem (i := 1056) (by decide +kernel) rfl
theorem zt1059 : (Cond.code yX11_letters cX11_letters 7 (some .int) : Cond) ∈ ztb := zmem (i := 1059) (by decide +kernel) rfl
theorem zt356 : (Cond.instanceMethod yX10_blank : Cond) ∈ ztb := zmem (i := 356) (by decide +kernel) rfl
theorem zt357 : (Cond.selects RX10 yX10_blank yX10_blank : Cond) ∈ ztb := zmem (i := 357) (by decide +kernel) rfl
theorem zt355 : (Cond.methodLink RL 20 yX10_blank : Cond) ∈ ztb := zmem (i := 355) (by decide +kernel) rfl
theorem zt358 : (Cond.code yX10_blank cX10_blank 1 (some .int) : Cond) ∈ ztb := zmem (i := 358) (by decide +kernel) rfl
theorem zt1062 : (Cond.instanceMethod yX11_blank : Cond) ∈ ztb := zmem (i := 1062) (by decide +kernel) rfl
theorem zt1063 : (Cond.selects RX11 yX11_blank yX11_blank : Cond) ∈ ztb := zmem (i := 1063) (by decide +kernel) rfl
theorem zt1061 : (Cond.methodLink RL 24 yX11_blank : Cond) ∈ ztb := zmem (i := 1061) (by decide +kernel) rfl
theorem zt1064 : (Cond.code yX11_blank cX11_blank 2 (some .int) : Cond) ∈ ztb := zmem (i := 1064) (by decide +kernel) rfl
theorem zt364 : (Cond.instanceMethod yX10_fault : Cond) ∈ ztb := zmem (i := 364) (by decide +kernel) rfl
theorem zt365 : (Cond.selects RX10 yX10_fault yX10_fault : Cond) ∈ ztb := zmem (i := 365) (by decide +kernel) rfl
theorem zt363 : (Cond.methodLink RL 25 yX10_fault : Cond) ∈ ztb := zmem (i := 363) (by decide +kernel) rfl
theorem zt366 : (Cond.code yX10_fault cX10_fault 2 (some .int) : Cond) ∈ ztb := zmem (i := 366) (by decide +kernel) rfl
theorem zt1066 : (Cond.instanceMethod yX11_fault : Cond) ∈ ztb := zmem (i := 1066) (by decide +kernel) rfl
theorem zt1067 : (Cond.selects RX11 yX11_fault yX11_fault : Cond) ∈ ztb := zmem (i := 1067) (by decide +kernel) rfl
theorem zt1065 : (Cond.methodLink RL 29 yX11_fault : Cond) ∈ ztb := zmem (i := 1065) (by decide +kernel) rfl
theorem zt1068 : (Cond.code yX11_fault cX11_fault 2 (some .int) : Cond) ∈ ztb := zmem (i := 1068) (by decide +kernel) rfl
theorem zt477 : (Cond.instanceMethod yX10_cup : Cond) ∈ ztb := zmem (i := 477) (by decide +kernel) rfl
theorem zt478 : (Cond.selects RX10 yX10_cup yX10_cup : Cond) ∈ ztb := zmem (i := 478) (by decide +kernel) rfl
theorem zt476 : (Cond.methodLink RL 30 yX10_cup : Cond) ∈ ztb := zmem (i := 476) (by decide +kernel) rfl
theorem zt479 : (Cond.code yX10_cup cX10_cup 3 (some .int) : Cond) ∈ ztb := zmem (i := 479) (by decide +kernel) rfl
theorem zt1092 : (Cond.instanceMethod yX11_cup : Cond) ∈ ztb := zmem (i := 1092) (by decide +kernel) rfl
theorem zt1093 : (Cond.selects RX11 yX11_cup yX11_cup : Cond) ∈ ztb := zmem (i := 1093) (by decide +kernel) rfl
theorem zt1091 : (Cond.methodLink RL 33 yX11_cup : Cond) ∈ ztb := zmem (i := 1091) (by decide +kernel) rfl
theorem zt1094 : (Cond.code yX11_cup cX11_cup 2 (some .int) : Cond) ∈ ztb := zmem (i := 1094) (by decide +kernel) rfl
theorem zt514 : (Cond.instanceMethod yX10_row : Cond) ∈ ztb := zmem (i := 514) (by decide +kernel) rfl
theorem zt515 : (Cond.selects RX10 yX10_row yX10_row : Cond) ∈ ztb := zmem (i := 515) (by decide +kernel) rfl
theorem zt513 : (Cond.methodLink RL 34 yX10_row : Cond) ∈ ztb := zmem (i := 513) (by decide +kernel) rfl
theorem zt516 : (Cond.code yX10_row cX10_row 1 (some .int) : Cond) ∈ ztb := zmem (i := 516) (by decide +kernel) rfl
theorem zt1096 : (Cond.instanceMethod yX11_row : Cond) ∈ ztb := zmem (i := 1096) (by decide +kernel) rfl
theorem zt1097 : (Cond.selects RX11 yX11_row yX11_row : Cond) ∈ ztb := zmem (i := 1097) (by decide +kernel) rfl
theorem zt1095 : (Cond.methodLink RL 37 yX11_row : Cond) ∈ ztb := zmem (i := 1095) (by decide +kernel) rfl
theorem zt1098 : (Cond.code yX11_row cX11_row 2 (some .int) : Cond) ∈ ztb := zmem (i := 1098) (by decide +kernel) rfl
theorem zt518 : (Cond.instanceMethod yX10_river : Cond) ∈ ztb := zmem (i := 518) (by decide +kernel) rfl
theorem zt519 : (Cond.selects RX10 yX10_river yX10_river : Cond) ∈ ztb := zmem (i := 519) (by decide +kernel) rfl
theorem zt517 : (Cond.methodLink RL 38 yX10_river : Cond) ∈ ztb := zmem (i := 517) (by decide +kernel) rfl
theorem zt520 : (Cond.code yX10_river cX10_river 2 (some .int) : Cond) ∈ ztb := zmem (i := 520) (by decide +kernel) rfl
theorem zt1100 : (Cond.instanceMethod yX11_river : Cond) ∈ ztb := zmem (i := 1100) (by decide +kernel) rfl
theorem zt1101 : (Cond.selects RX11 yX11_river yX11_river : Cond) ∈ ztb := zmem (i := 1101) (by decide +kernel) rfl
theorem zt1099 : (Cond.methodLink RL 41 yX11_river : Cond) ∈ ztb := zmem (i := 1099) (by decide +kernel) rfl
theorem zt1102 : (Cond.code yX11_river cX11_river 2 (some .int) : Cond) ∈ ztb := zmem (i := 1102) (by decide +kernel) rfl
theorem zt522 : (Cond.instanceMethod yX10_cupTold : Cond) ∈ ztb := zmem (i := 522) (by decide +kernel) rfl
theorem zt523 : (Cond.selects RX10 yX10_cupTold yX10_cupTold : Cond) ∈ ztb := zmem (i := 523) (by decide +kernel) rfl
theorem zt521 : (Cond.methodLink RL 42 yX10_cupTold : Cond) ∈ ztb := zmem (i := 521) (by decide +kernel) rfl
theorem zt524 : (Cond.code yX10_cupTold cX10_cupTold 2 (some .int) : Cond) ∈ ztb := zmem (i := 524) (by decide +kernel) rfl
theorem zt1104 : (Cond.instanceMethod yX11_cupTold : Cond) ∈ ztb := zmem (i := 1104) (by decide +kernel) rfl
theorem zt1105 : (Cond.selects RX11 yX11_cupTold yX11_cupTold : Cond) ∈ ztb := zmem (i := 1105) (by decide +kernel) rfl
theorem zt1103 : (Cond.methodLink RL 45 yX11_cupTold : Cond) ∈ ztb := zmem (i := 1103) (by decide +kernel) rfl
theorem zt1106 : (Cond.code yX11_cupTold cX11_cupTold 2 (some .int) : Cond) ∈ ztb := zmem (i := 1106) (by decide +kernel) rfl
theorem zt533 : (Cond.instanceMethod yX10_doing : Cond) ∈ ztb := zmem (i := 533) (by decide +kernel) rfl
theorem zt534 : (Cond.selects RX10 yX10_doing yX10_doing : Cond) ∈ ztb := zmem (i := 534) (by decide +kernel) rfl
theorem zt532 : (Cond.methodLink RL 46 yX10_doing : Cond) ∈ ztb := zmem (i := 532) (by decide +kernel) rfl
theorem zt535 : (Cond.code yX10_doing cX10_doing 3 (some .int) : Cond) ∈ ztb := zmem (i := 535) (by decide +kernel) rfl
theorem zt1108 : (Cond.instanceMethod yX11_doing : Cond) ∈ ztb := zmem (i := 1108) (by decide +kernel) rfl
theorem zt1109 : (Cond.selects RX11 yX11_doing yX11_doing : Cond) ∈ ztb := zmem (i := 1109) (by decide +kernel) rfl
theorem zt1107 : (Cond.methodLink RL 50 yX11_doing : Cond) ∈ ztb := zmem (i := 1107) (by decide +kernel) rfl
theorem zt1110 : (Cond.code yX11_doing cX11_doing 6 (some .int) : Cond) ∈ ztb := zmem (i := 1110) (by decide +kernel) rfl
theorem zt540 : (Cond.instanceMethod yX10_as : Cond) ∈ ztb := zmem (i := 540) (by decide +kernel) rfl
theorem zt541 : (Cond.selects RX10 yX10_as yX10_as : Cond) ∈ ztb := zmem (i := 541) (by decide +kernel) rfl
theorem zt539 : (Cond.methodLink RL 51 yX10_as : Cond) ∈ ztb := zmem (i := 539) (by decide +kernel) rfl
theorem zt542 : (Cond.code yX10_as cX10_as 3 (some .int) : Cond) ∈ ztb := zmem (i := 542) (by decide +kernel) rfl
theorem zt1112 : (Cond.instanceMethod yX11_as : Cond) ∈ ztb := zmem (i := 1112) (by decide +kernel) rfl
theorem zt1113 : (Cond.selects RX11 yX11_as yX11_as : Cond) ∈ ztb := zmem (i := 1113) (by decide +kernel) rfl
theorem zt1111 : (Cond.methodLink RL 54 yX11_as : Cond) ∈ ztb := zmem (i := 1111) (by decide +kernel) rfl
theorem zt1114 : (Cond.code yX11_as cX11_as 4 (some .int) : Cond) ∈ ztb := zmem (i := 1114) (by decide +kernel) rfl
theorem zt556 : (Cond.instanceMethod yX10_leaf : Cond) ∈ ztb := zmem (i := 556) (by decide +kernel) rfl
theorem zt557 : (Cond.selects RX10 yX10_leaf yX10_leaf : Cond) ∈ ztb := zmem (i := 557) (by decide +kernel) rfl
theorem zt555 : (Cond.methodLink RL 55 yX10_leaf : Cond) ∈ ztb := zmem (i := 555) (by decide +kernel) rfl
theorem zt558 : (Cond.code yX10_leaf cX10_leaf 5 (some .int) : Cond) ∈ ztb := zmem (i := 558) (by decide +kernel) rfl
theorem zt1120 : (Cond.instanceMethod yX11_leaf : Cond) ∈ ztb := zmem (i := 1120) (by decide +kernel) rfl
theorem zt1121 : (Cond.selects RX11 yX11_leaf yX11_leaf : Cond) ∈ ztb := zmem (i := 1121) (by decide +kernel) rfl
theorem zt1119 : (Cond.methodLink RL 59 yX11_leaf : Cond) ∈ ztb := zmem (i := 1119) (by decide +kernel) rfl
theorem zt1122 : (Cond.code yX11_leaf cX11_leaf 4 (some .int) : Cond) ∈ ztb := zmem (i := 1122) (by decide +kernel) rfl
theorem zt572 : (Cond.methodLink RL 60 yX10_about : Cond) ∈ ztb := zmem (i := 572) (by decide +kernel) rfl
theorem zt1128 : (Cond.instanceMethod yX11_about : Cond) ∈ ztb := zmem (i := 1128) (by decide +kernel) rfl
theorem zt1129 : (Cond.selects RX11 yX11_about yX11_about : Cond) ∈ ztb := zmem (i := 1129) (by decide +kernel) rfl
theorem zt1127 : (Cond.methodLink RL 63 yX11_about : Cond) ∈ ztb := zmem (i := 1127) (by decide +kernel) rfl
theorem zt1130 : (Cond.code yX11_about cX11_about 3 (some .int) : Cond) ∈ ztb := zmem (i := 1130) (by decide +kernel) rfl
theorem zt594 : (Cond.instanceMethod yX10_ticks : Cond) ∈ ztb := zmem (i := 594) (by decide +kernel) rfl
theorem zt595 : (Cond.selects RX10 yX10_ticks yX10_ticks : Cond) ∈ ztb := zmem (i := 595) (by decide +kernel) rfl
theorem zt593 : (Cond.methodLink RL 64 yX10_ticks : Cond) ∈ ztb := zmem (i := 593) (by decide +kernel) rfl
theorem zt596 : (Cond.code yX10_ticks cX10_ticks 5 (some .int) : Cond) ∈ ztb := zmem (i := 596) (by decide +kernel) rfl
theorem zt1152 : (Cond.instanceMethod yX11_ticks : Cond) ∈ ztb := zmem (i := 1152) (by decide +kernel) rfl
theorem zt1153 : (Cond.selects RX11 yX11_ticks yX11_ticks : Cond) ∈ ztb := zmem (i := 1153) (by decide +kernel) rfl
theorem zt1151 : (Cond.methodLink RL 67 yX11_ticks : Cond) ∈ ztb := zmem (i := 1151) (by decide +kernel) rfl
theorem zt1154 : (Cond.code yX11_ticks cX11_ticks 5 (some .int) : Cond) ∈ ztb := zmem (i := 1154) (by decide +kernel) rfl
theorem zt654 : (Cond.instanceMethod yX10_still : Cond) ∈ ztb := zmem (i := 654) (by decide +kernel) rfl
theorem zt655 : (Cond.selects RX10 yX10_still yX10_still : Cond) ∈ ztb := zmem (i := 655) (by decide +kernel) rfl
theorem zt653 : (Cond.methodLink RL 68 yX10_still : Cond) ∈ ztb := zmem (i := 653) (by decide +kernel) rfl
theorem zt656 : (Cond.code yX10_still cX10_still 1 (some .int) : Cond) ∈ ztb := zmem (i := 656) (by decide +kernel) rfl
theorem zt1180 : (Cond.instanceMethod yX11_still : Cond) ∈ ztb := zmem (i := 1180) (by decide +kernel) rfl
theorem zt1181 : (Cond.selects RX11 yX11_still yX11_still : Cond) ∈ ztb := zmem (i := 1181) (by decide +kernel) rfl
theorem zt1179 : (Cond.methodLink RL 71 yX11_still : Cond) ∈ ztb := zmem (i := 1179) (by decide +kernel) rfl
theorem zt1182 : (Cond.code yX11_still cX11_still 2 (some .int) : Cond) ∈ ztb := zmem (i := 1182) (by decide +kernel) rfl
theorem zt658 : (Cond.instanceMethod yX10_round : Cond) ∈ ztb := zmem (i := 658) (by decide +kernel) rfl
theorem zt659 : (Cond.selects RX10 yX10_round yX10_round : Cond) ∈ ztb := zmem (i := 659) (by decide +kernel) rfl
theorem zt657 : (Cond.methodLink RL 72 yX10_round : Cond) ∈ ztb := zmem (i := 657) (by decide +kernel) rfl
theorem zt660 : (Cond.code yX10_round cX10_round 3 (some .int) : Cond) ∈ ztb := zmem (i := 660) (by decide +kernel) rfl
theorem zt1184 : (Cond.instanceMethod yX11_round : Cond) ∈ ztb := zmem (i := 1184) (by decide +kernel) rfl
theorem zt1185 : (Cond.selects RX11 yX11_round yX11_round : Cond) ∈ ztb := zmem (i := 1185) (by decide +kernel) rfl
theorem zt1183 : (Cond.methodLink RL 75 yX11_round : Cond) ∈ ztb := zmem (i := 1183) (by decide +kernel) rfl
theorem zt1186 : (Cond.code yX11_round cX11_round 3 (some .int) : Cond) ∈ ztb := zmem (i := 1186) (by decide +kernel) rfl
theorem zt666 : (Cond.instanceMethod yX10_second : Cond) ∈ ztb := zmem (i := 666) (by decide +kernel) rfl
theorem zt667 : (Cond.selects RX10 yX10_second yX10_second : Cond) ∈ ztb := zmem (i := 667) (by decide +kernel) rfl
theorem zt665 : (Cond.methodLink RL 76 yX10_second : Cond) ∈ ztb := zmem (i := 665) (by decide +kernel) rfl
theorem zt668 : (Cond.code yX10_second cX10_second 2 (some .int) : Cond) ∈ ztb := zmem (i := 668) (by decide +kernel) rfl
theorem zt1188 : (Cond.instanceMethod yX11_second : Cond) ∈ ztb := zmem (i := 1188) (by decide +kernel) rfl
theorem zt1189 : (Cond.selects RX11 yX11_second yX11_second : Cond) ∈ ztb := zmem (i := 1189) (by decide +kernel) rfl
theorem zt1187 : (Cond.methodLink RL 79 yX11_second : Cond) ∈ ztb := zmem (i := 1187) (by decide +kernel) rfl
theorem zt1190 : (Cond.code yX11_second cX11_second 2 (some .int) : Cond) ∈ ztb := zmem (i := 1190) (by decide +kernel) rfl
theorem zt672 : (Cond.instanceMethod yX10_would : Cond) ∈ ztb := zmem (i := 672) (by decide +kernel) rfl
theorem zt673 : (Cond.selects RX10 yX10_would yX10_would : Cond) ∈ ztb := zmem (i := 673) (by decide +kernel) rfl
theorem zt671 : (Cond.methodLink RL 80 yX10_would : Cond) ∈ ztb := zmem (i := 671) (by decide +kernel) rfl
theorem zt674 : (Cond.code yX10_would cX10_would 4 (some .int) : Cond) ∈ ztb := zmem (i := 674) (by decide +kernel) rfl
theorem zt1192 : (Cond.instanceMethod yX11_would : Cond) ∈ ztb := zmem (i := 1192) (by decide +kernel) rfl
theorem zt1193 : (Cond.selects RX11 yX11_would yX11_would : Cond) ∈ ztb := zmem (i := 1193) (by decide +kernel) rfl
theorem zt1191 : (Cond.methodLink RL 83 yX11_would : Cond) ∈ ztb := zmem (i := 1191) (by decide +kernel) rfl
theorem zt1194 : (Cond.code yX11_would cX11_would 5 (some .int) : Cond) ∈ ztb := zmem (i := 1194) (by decide +kernel) rfl
theorem zt676 : (Cond.instanceMethod yX10_ends : Cond) ∈ ztb := zmem (i := 676) (by decide +kernel) rfl
theorem zt677 : (Cond.selects RX10 yX10_ends yX10_ends : Cond) ∈ ztb := zmem (i := 677) (by decide +kernel) rfl
theorem zt675 : (Cond.methodLink RL 84 yX10_ends : Cond) ∈ ztb := zmem (i := 675) (by decide +kernel) rfl
theorem zt678 : (Cond.code yX10_ends cX10_ends 3 (some .int) : Cond) ∈ ztb := zmem (i := 678) (by decide +kernel) rfl
theorem zt1199 : (Cond.methodLink RL 87 yX11_ends : Cond) ∈ ztb := zmem (i := 1199) (by decide +kernel) rfl
theorem zt688 : (Cond.instanceMethod yX10_lies : Cond) ∈ ztb := zmem (i := 688) (by decide +kernel) rfl
theorem zt689 : (Cond.selects RX10 yX10_lies yX10_lies : Cond) ∈ ztb := zmem (i := 689) (by decide +kernel) rfl
theorem zt687 : (Cond.methodLink RL 88 yX10_lies : Cond) ∈ ztb := zmem (i := 687) (by decide +kernel) rfl
theorem zt690 : (Cond.code yX10_lies cX10_lies 4 (some .int) : Cond) ∈ ztb := zmem (i := 690) (by decide +kernel) rfl
theorem zt1224 : (Cond.instanceMethod yX11_lies : Cond) ∈ ztb := zmem (i := 1224) (by decide +kernel) rfl
theorem zt1225 : (Cond.selects RX11 yX11_lies yX11_lies : Cond) ∈ ztb := zmem (i := 1225) (by decide +kernel) rfl
theorem zt1223 : (Cond.methodLink RL 91 yX11_lies : Cond) ∈ ztb := zmem (i := 1223) (by decide +kernel) rfl
theorem zt1226 : (Cond.code yX11_lies cX11_lies 4 (some .int) : Cond) ∈ ztb := zmem (i := 1226) (by decide +kernel) rfl
theorem zt692 : (Cond.instanceMethod yX10_line : Cond) ∈ ztb := zmem (i := 692) (by decide +kernel) rfl
theorem zt693 : (Cond.selects RX10 yX10_line yX10_line : Cond) ∈ ztb := zmem (i := 693) (by decide +kernel) rfl
theorem zt691 : (Cond.methodLink RL 92 yX10_line : Cond) ∈ ztb := zmem (i := 691) (by decide +kernel) rfl
theorem zt694 : (Cond.code yX10_line cX10_line 5 (some .int) : Cond) ∈ ztb := zmem (i := 694) (by decide +kernel) rfl
theorem zt1229 : (Cond.instanceMethod yX11_line : Cond) ∈ ztb := zmem (i := 1229) (by decide +kernel) rfl
theorem zt1230 : (Cond.selects RX11 yX11_line yX11_line : Cond) ∈ ztb := zmem (i := 1230) (by decide +kernel) rfl
theorem zt1228 : (Cond.methodLink RL 95 yX11_line : Cond) ∈ ztb := zmem (i := 1228) (by decide +kernel) rfl
theorem zt1231 : (Cond.code yX11_line cX11_line 5 (some .int) : Cond) ∈ ztb := zmem (i := 1231) (by decide +kernel) rfl
theorem zt696 : (Cond.instanceMethod yX10_want : Cond) ∈ ztb := zmem (i := 696) (by decide +kernel) rfl
theorem zt697 : (Cond.selects RX10 yX10_want yX10_want : Cond) ∈ ztb := zmem (i := 697) (by decide +kernel) rfl
theorem zt695 : (Cond.methodLink RL 96 yX10_want : Cond) ∈ ztb := zmem (i := 695) (by decide +kernel) rfl
theorem zt698 : (Cond.code yX10_want cX10_want 4 (some .int) : Cond) ∈ ztb := zmem (i := 698) (by decide +kernel) rfl
theorem zt1237 : (Cond.instanceMethod yX11_want : Cond) ∈ ztb := zmem (i := 1237) (by decide +kernel) rfl
theorem zt1238 : (Cond.selects RX11 yX11_want yX11_want : Cond) ∈ ztb := zmem (i := 1238) (by decide +kernel) rfl
theorem zt1236 : (Cond.methodLink RL 99 yX11_want : Cond) ∈ ztb := zmem (i := 1236) (by decide +kernel) rfl
theorem zt1239 : (Cond.code yX11_want cX11_want 4 (some .int) : Cond) ∈ ztb := zmem (i := 1239) (by decide +kernel) rfl
theorem zt700 : (Cond.instanceMethod yX10_off : Cond) ∈ ztb := zmem (i := 700) (by decide +kernel) rfl
theorem zt701 : (Cond.selects RX10 yX10_off yX10_off : Cond) ∈ ztb := zmem (i := 701) (by decide +kernel) rfl
theorem zt699 : (Cond.methodLink RL 100 yX10_off : Cond) ∈ ztb := zmem (i := 699) (by decide +kernel) rfl
theorem zt702 : (Cond.code yX10_off cX10_off 2 (some .int) : Cond) ∈ ztb := zmem (i := 702) (by decide +kernel) rfl
theorem zt1241 : (Cond.instanceMethod yX11_off : Cond) ∈ ztb := zmem (i := 1241) (by decide +kernel) rfl
theorem zt1242 : (Cond.selects RX11 yX11_off yX11_off : Cond) ∈ ztb := zmem (i := 1242) (by decide +kernel) rfl
theorem zt1240 : (Cond.methodLink RL 103 yX11_off : Cond) ∈ ztb := zmem (i := 1240) (by decide +kernel) rfl
theorem zt1243 : (Cond.code yX11_off cX11_off 2 (some .int) : Cond) ∈ ztb := zmem (i := 1243) (by decide +kernel) rfl
theorem zt715 : (Cond.instanceMethod yX10_found : Cond) ∈ ztb := zmem (i := 715) (by decide +kernel) rfl
theorem zt716 : (Cond.selects RX10 yX10_found yX10_found : Cond) ∈ ztb := zmem (i := 716) (by decide +kernel) rfl
theorem zt714 : (Cond.methodLink RL 104 yX10_found : Cond) ∈ ztb := zmem (i := 714) (by decide +kernel) rfl
theorem zt717 : (Cond.code yX10_found cX10_found 9 (some .int) : Cond) ∈ ztb := zmem (i := 717) (by decide +kernel) rfl
theorem zt1252 : (Cond.instanceMethod yX11_found : Cond) ∈ ztb := zmem (i := 1252) (by decide +kernel) rfl
theorem zt1253 : (Cond.selects RX11 yX11_found yX11_found : Cond) ∈ ztb := zmem (i := 1253) (by decide +kernel) rfl
theorem zt1251 : (Cond.methodLink RL 107 yX11_found : Cond) ∈ ztb := zmem (i := 1251) (by decide +kernel) rfl
theorem zt1254 : (Cond.code yX11_found cX11_found 5 (some .int) : Cond) ∈ ztb := zmem (i := 1254) (by decide +kernel) rfl
theorem zt724 : (Cond.instanceMethod yX10_seen : Cond) ∈ ztb := zmem (i := 724) (by decide +kernel) rfl
theorem zt725 : (Cond.selects RX10 yX10_seen yX10_seen : Cond) ∈ ztb := zmem (i := 725) (by decide +kernel) rfl
theorem zt723 : (Cond.methodLink RL 108 yX10_seen : Cond) ∈ ztb := zmem (i := 723) (by decide +kernel) rfl
theorem zt726 : (Cond.code yX10_seen cX10_seen 4 (some .int) : Cond) ∈ ztb := zmem (i := 726) (by decide +kernel) rfl
theorem zt1257 : (Cond.instanceMethod yX11_seen : Cond) ∈ ztb := zmem (i := 1257) (by decide +kernel) rfl
theorem zt1258 : (Cond.selects RX11 yX11_seen yX11_seen : Cond) ∈ ztb := zmem (i := 1258) (by decide +kernel) rfl
theorem zt1256 : (Cond.methodLink RL 111 yX11_seen : Cond) ∈ ztb := zmem (i := 1256) (by decide +kernel) rfl
theorem zt1259 : (Cond.code yX11_seen cX11_seen 4 (some .int) : Cond) ∈ ztb := zmem (i := 1259) (by decide +kernel) rfl
theorem zt728 : (Cond.instanceMethod yX10_read : Cond) ∈ ztb := zmem (i := 728) (by decide +kernel) rfl
theorem zt729 : (Cond.selects RX10 yX10_read yX10_read : Cond) ∈ ztb := zmem (i := 729) (by decide +kernel) rfl
theorem zt727 : (Cond.methodLink RL 112 yX10_read : Cond) ∈ ztb := zmem (i := 727) (by decide +kernel) rfl
theorem zt730 : (Cond.code yX10_read cX10_read 3 (some .int) : Cond) ∈ ztb := zmem (i := 730) (by decide +kernel) rfl
theorem zt1261 : (Cond.instanceMethod yX11_read : Cond) ∈ ztb := zmem (i := 1261) (by decide +kernel) rfl
theorem zt1262 : (Cond.selects RX11 yX11_read yX11_read : Cond) ∈ ztb := zmem (i := 1262) (by decide +kernel) rfl
theorem zt1260 : (Cond.methodLink RL 115 yX11_read : Cond) ∈ ztb := zmem (i := 1260) (by decide +kernel) rfl
theorem zt1263 : (Cond.code yX11_read cX11_read 5 (some .int) : Cond) ∈ ztb := zmem (i := 1263) (by decide +kernel) rfl
theorem zt736 : (Cond.instanceMethod yX10_tells : Cond) ∈ ztb := zmem (i := 736) (by decide +kernel) rfl
theorem zt737 : (Cond.selects RX10 yX10_tells yX10_tells : Cond) ∈ ztb := zmem (i := 737) (by decide +kernel) rfl
theorem zt735 : (Cond.methodLink RL 116 yX10_tells : Cond) ∈ ztb := zmem (i := 735) (by decide +kernel) rfl
theorem zt738 : (Cond.code yX10_tells cX10_tells 5 (some .int) : Cond) ∈ ztb := zmem (i := 738) (by decide +kernel) rfl
theorem zt1265 : (Cond.instanceMethod yX11_tells : Cond) ∈ ztb := zmem (i := 1265) (by decide +kernel) rfl
theorem zt1266 : (Cond.selects RX11 yX11_tells yX11_tells : Cond) ∈ ztb := zmem (i := 1266) (by decide +kernel) rfl
theorem zt1264 : (Cond.methodLink RL 119 yX11_tells : Cond) ∈ ztb := zmem (i := 1264) (by decide +kernel) rfl
theorem zt1267 : (Cond.code yX11_tells cX11_tells 5 (some .int) : Cond) ∈ ztb := zmem (i := 1267) (by decide +kernel) rfl
theorem zt744 : (Cond.instanceMethod yX10_apart : Cond) ∈ ztb := zmem (i := 744) (by decide +kernel) rfl
theorem zt745 : (Cond.selects RX10 yX10_apart yX10_apart : Cond) ∈ ztb := zmem (i := 745) (by decide +kernel) rfl
theorem zt743 : (Cond.methodLink RL 120 yX10_apart : Cond) ∈ ztb := zmem (i := 743) (by decide +kernel) rfl
theorem zt746 : (Cond.code yX10_apart cX10_apart 4 (some .int) : Cond) ∈ ztb := zmem (i := 746) (by decide +kernel) rfl
theorem zt1273 : (Cond.instanceMethod yX11_apart : Cond) ∈ ztb := zmem (i := 1273) (by decide +kernel) rfl
theorem zt1274 : (Cond.selects RX11 yX11_apart yX11_apart : Cond) ∈ ztb := zmem (i := 1274) (by decide +kernel) rfl
theorem zt1272 : (Cond.methodLink RL 123 yX11_apart : Cond) ∈ ztb := zmem (i := 1272) (by decide +kernel) rfl
theorem zt1275 : (Cond.code yX11_apart cX11_apart 4 (some .int) : Cond) ∈ ztb := zmem (i := 1275) (by decide +kernel) rfl
theorem zt748 : (Cond.instanceMethod yX10_picture : Cond) ∈ ztb := zmem (i := 748) (by decide +kernel) rfl
theorem zt749 : (Cond.selects RX10 yX10_picture yX10_picture : Cond) ∈ ztb := zmem (i := 749) (by decide +kernel) rfl
theorem zt747 : (Cond.methodLink RL 124 yX10_picture : Cond) ∈ ztb := zmem (i := 747) (by decide +kernel) rfl
theorem zt750 : (Cond.code yX10_picture cX10_picture 3 (some .int) : Cond) ∈ ztb := zmem (i := 750) (by decide +kernel) rfl
theorem zt1277 : (Cond.instanceMethod yX11_picture : Cond) ∈ ztb := zmem (i := 1277) (by decide +kernel) rfl
theorem zt1278 : (Cond.selects RX11 yX11_picture yX11_picture : Cond) ∈ ztb := zmem (i := 1278) (by decide +kernel) rfl
theorem zt1276 : (Cond.methodLink RL 127 yX11_picture : Cond) ∈ ztb := zmem (i := 1276) (by decide +kernel) rfl
theorem zt1279 : (Cond.code yX11_picture cX11_picture 3 (some .int) : Cond) ∈ ztb := zmem (i := 1279) (by decide +kernel) rfl
theorem zt761 : (Cond.instanceMethod yX10_drag : Cond) ∈ ztb := zmem (i := 761) (by decide +kernel) rfl
theorem zt762 : (Cond.selects RX10 yX10_drag yX10_drag : Cond) ∈ ztb := zmem (i := 762) (by decide +kernel) rfl
theorem zt760 : (Cond.methodLink RL 128 yX10_drag : Cond) ∈ ztb := zmem (i := 760) (by decide +kernel) rfl
theorem zt763 : (Cond.code yX10_drag cX10_drag 1 (some .int) : Cond) ∈ ztb := zmem (i := 763) (by decide +kernel) rfl
theorem zt1281 : (Cond.instanceMethod yX11_drag : Cond) ∈ ztb := zmem (i := 1281) (by decide +kernel) rfl
theorem zt1282 : (Cond.selects RX11 yX11_drag yX11_drag : Cond) ∈ ztb := zmem (i := 1282) (by decide +kernel) rfl
theorem zt1280 : (Cond.methodLink RL 131 yX11_drag : Cond) ∈ ztb := zmem (i := 1280) (by decide +kernel) rfl
theorem zt1283 : (Cond.code yX11_drag cX11_drag 6 (some .int) : Cond) ∈ ztb := zmem (i := 1283) (by decide +kernel) rfl
theorem zt776 : (Cond.instanceMethod yX10_point : Cond) ∈ ztb := zmem (i := 776) (by decide +kernel) rfl
theorem zt777 : (Cond.selects RX10 yX10_point yX10_point : Cond) ∈ ztb := zmem (i := 777) (by decide +kernel) rfl
theorem zt775 : (Cond.methodLink RL 132 yX10_point : Cond) ∈ ztb := zmem (i := 775) (by decide +kernel) rfl
theorem zt778 : (Cond.code yX10_point cX10_point 5 (some .int) : Cond) ∈ ztb := zmem (i := 778) (by decide +kernel) rfl
theorem zt1285 : (Cond.instanceMethod yX11_point : Cond) ∈ ztb := zmem (i := 1285) (by decide +kernel) rfl
theorem zt1286 : (Cond.selects RX11 yX11_point yX11_point : Cond) ∈ ztb := zmem (i := 1286) (by decide +kernel) rfl
theorem zt1284 : (Cond.methodLink RL 136 yX11_point : Cond) ∈ ztb := zmem (i := 1284) (by decide +kernel) rfl
theorem zt1287 : (Cond.code yX11_point cX11_point 5 (some .int) : Cond) ∈ ztb := zmem (i := 1287) (by decide +kernel) rfl
theorem zt815 : (Cond.instanceMethod yX10_cuts : Cond) ∈ ztb := zmem (i := 815) (by decide +kernel) rfl
theorem zt816 : (Cond.selects RX10 yX10_cuts yX10_cuts : Cond) ∈ ztb := zmem (i := 816) (by decide +kernel) rfl
theorem zt814 : (Cond.methodLink RL 137 yX10_cuts : Cond) ∈ ztb := zmem (i := 814) (by decide +kernel) rfl
theorem zt817 : (Cond.code yX10_cuts cX10_cuts 4 (some .int) : Cond) ∈ ztb := zmem (i := 817) (by decide +kernel) rfl
theorem zt1308 : (Cond.instanceMethod yX11_cuts : Cond) ∈ ztb := zmem (i := 1308) (by decide +kernel) rfl
theorem zt1309 : (Cond.selects RX11 yX11_cuts yX11_cuts : Cond) ∈ ztb := zmem (i := 1309) (by decide +kernel) rfl
theorem zt1307 : (Cond.methodLink RL 140 yX11_cuts : Cond) ∈ ztb := zmem (i := 1307) (by decide +kernel) rfl
theorem zt1310 : (Cond.code yX11_cuts cX11_cuts 4 (some .int) : Cond) ∈ ztb := zmem (i := 1310) (by decide +kernel) rfl
theorem zt823 : (Cond.instanceMethod yX10_firstCut : Cond) ∈ ztb := zmem (i := 823) (by decide +kernel) rfl
theorem zt824 : (Cond.selects RX10 yX10_firstCut yX10_firstCut : Cond) ∈ ztb := zmem (i := 824) (by decide +kernel) rfl
theorem zt822 : (Cond.methodLink RL 141 yX10_firstCut : Cond) ∈ ztb := zmem (i := 822) (by decide +kernel) rfl
theorem zt825 : (Cond.code yX10_firstCut cX10_firstCut 4 (some .int) : Cond) ∈ ztb := zmem (i := 825) (by decide +kernel) rfl
theorem zt1312 : (Cond.instanceMethod yX11_firstCut : Cond) ∈ ztb := zmem (i := 1312) (by decide +kernel) rfl
theorem zt1313 : (Cond.selects RX11 yX11_firstCut yX11_firstCut : Cond) ∈ ztb := zmem (i := 1313) (by decide +kernel) rfl
theorem zt1311 : (Cond.methodLink RL 144 yX11_firstCut : Cond) ∈ ztb := zmem (i := 1311) (by decide +kernel) rfl
theorem zt1314 : (Cond.code yX11_firstCut cX11_firstCut 3 (some .int) : Cond) ∈ ztb := zmem (i := 1314) (by decide +kernel) rfl
theorem zt829 : (Cond.instanceMethod yX10_saves : Cond) ∈ ztb := zmem (i := 829) (by decide +kernel) rfl
theorem zt830 : (Cond.selects RX10 yX10_saves yX10_saves : Cond) ∈ ztb := zmem (i := 830) (by decide +kernel) rfl
theorem zt828 : (Cond.methodLink RL 145 yX10_saves : Cond) ∈ ztb := zmem (i := 828) (by decide +kernel) rfl
theorem zt831 : (Cond.code yX10_saves cX10_saves 10 (some .int) : Cond) ∈ ztb := zmem (i := 831) (by decide +kernel) rfl
theorem zt1316 : (Cond.instanceMethod yX11_saves : Cond) ∈ ztb := zmem (i := 1316) (by decide +kernel) rfl
theorem zt1317 : (Cond.selects RX11 yX11_saves yX11_saves : Cond) ∈ ztb := zmem (i := 1317) (by decide +kernel) rfl
theorem zt1315 : (Cond.methodLink RL 148 yX11_saves : Cond) ∈ ztb := zmem (i := 1315) (by decide +kernel) rfl
theorem zt1318 : (Cond.code yX11_saves cX11_saves 10 (some .int) : Cond) ∈ ztb := zmem (i := 1318) (by decide +kernel) rfl
theorem zt839 : (Cond.instanceMethod yX10_image : Cond) ∈ ztb := zmem (i := 839) (by decide +kernel) rfl
theorem zt840 : (Cond.selects RX10 yX10_image yX10_image : Cond) ∈ ztb := zmem (i := 840) (by decide +kernel) rfl
theorem zt838 : (Cond.methodLink RL 149 yX10_image : Cond) ∈ ztb := zmem (i := 838) (by decide +kernel) rfl
theorem zt841 : (Cond.code yX10_image cX10_image 1 (some .int) : Cond) ∈ ztb := zmem (i := 841) (by decide +kernel) rfl
theorem zt1320 : (Cond.instanceMethod yX11_image : Cond) ∈ ztb := zmem (i := 1320) (by decide +kernel) rfl
theorem zt1321 : (Cond.selects RX11 yX11_image yX11_image : Cond) ∈ ztb := zmem (i := 1321) (by decide +kernel) rfl
theorem zt1319 : (Cond.methodLink RL 152 yX11_image : Cond) ∈ ztb := zmem (i := 1319) (by decide +kernel) rfl
theorem zt1322 : (Cond.code yX11_image cX11_image 2 (some .int) : Cond) ∈ ztb := zmem (i := 1322) (by decide +kernel) rfl
theorem zt849 : (Cond.instanceMethod yX10_restore : Cond) ∈ ztb := zmem (i := 849) (by decide +kernel) rfl
theorem zt850 : (Cond.selects RX10 yX10_restore yX10_restore : Cond) ∈ ztb := zmem (i := 850) (by decide +kernel) rfl
theorem zt848 : (Cond.methodLink RL 153 yX10_restore : Cond) ∈ ztb := zmem (i := 848) (by decide +kernel) rfl
theorem zt851 : (Cond.code yX10_restore cX10_restore 1 (some .int) : Cond) ∈ ztb := zmem (i := 851) (by decide +kernel) rfl
theorem zt1324 : (Cond.instanceMethod yX11_restore : Cond) ∈ ztb := zmem (i := 1324) (by decide +kernel) rfl
theorem zt1325 : (Cond.selects RX11 yX11_restore yX11_restore : Cond) ∈ ztb := zmem (i := 1325) (by decide +kernel) rfl
theorem zt1323 : (Cond.methodLink RL 156 yX11_restore : Cond) ∈ ztb := zmem (i := 1323) (by decide +kernel) rfl
theorem zt1326 : (Cond.code yX11_restore cX11_restore 2 (some .int) : Cond) ∈ ztb := zmem (i := 1326) (by decide +kernel) rfl
theorem zt860 : (Cond.methodLink RL 157 yX10_count : Cond) ∈ ztb := zmem (i := 860) (by decide +kernel) rfl
theorem zt1328 : (Cond.instanceMethod yX11_count : Cond) ∈ ztb := zmem (i := 1328) (by decide +kernel) rfl
theorem zt1329 : (Cond.selects RX11 yX11_count yX11_count : Cond) ∈ ztb := zmem (i := 1329) (by decide +kernel) rfl
theorem zt1327 : (Cond.methodLink RL 160 yX11_count : Cond) ∈ ztb := zmem (i := 1327) (by decide +kernel) rfl
theorem zt1330 : (Cond.code yX11_count cX11_count 2 (some .int) : Cond) ∈ ztb := zmem (i := 1330) (by decide +kernel) rfl
theorem zt865 : (Cond.instanceMethod yX10_digest : Cond) ∈ ztb := zmem (i := 865) (by decide +kernel) rfl
theorem zt866 : (Cond.selects RX10 yX10_digest yX10_digest : Cond) ∈ ztb := zmem (i := 866) (by decide +kernel) rfl
theorem zt864 : (Cond.methodLink RL 161 yX10_digest : Cond) ∈ ztb := zmem (i := 864) (by decide +kernel) rfl
theorem zt867 : (Cond.code yX10_digest cX10_digest 4 (some .long) : Cond) ∈ ztb := zmem (i := 867) (by decide +kernel) rfl
theorem zt1336 : (Cond.instanceMethod yX11_digest : Cond) ∈ ztb := zmem (i := 1336) (by decide +kernel) rfl
theorem zt1337 : (Cond.selects RX11 yX11_digest yX11_digest : Cond) ∈ ztb := zmem (i := 1337) (by decide +kernel) rfl
theorem zt1335 : (Cond.methodLink RL 165 yX11_digest : Cond) ∈ ztb := zmem (i := 1335) (by decide +kernel) rfl
theorem zt1338 : (Cond.code yX11_digest cX11_digest 3 (some .long) : Cond) ∈ ztb := zmem (i := 1338) (by decide +kernel) rfl
theorem kw_L_7 : zNw RL 7 9 20 := ⟨_, _, zcl_X10, zt78, zt79, zt61⟩
theorem ki_L_9 : zLi RL 9 yX10_init cX10_init 1 0 := ⟨rfl, zt81, ⟨zt80, zt61, zt82, by decide +kernel, by decide +kernel, by decide +kernel⟩⟩
theorem kw_L_10 : zNw RL 10 10 51 := ⟨_, _, zcl_X11, zt896, zt897, zt72⟩
theorem ki_L_12 : zLi RL 12 yX11_init cX11_init 1 0 := ⟨rfl, zt899, ⟨zt898, zt72, zt900, by decide +kernel, by decide +kernel, by decide +kernel⟩⟩
theorem kv_L_15 : zLv RL 15 9 20 yX10_letters cX10_letters 3 (some .int) 1 := ⟨⟨_, rfl⟩, by decide, zt341, zt342, ⟨zt340, zt61, zt343, by decide +kernel, by decide +kernel, by decide +kernel⟩⟩
theorem kv_L_19 : zLv RL 19 10 51 yX11_letters cX11_letters 7 (some .int) 1 := ⟨⟨_, rfl⟩, by decide, zt1057, zt1058, ⟨zt1056, zt72, zt1059, by decide +kernel, by decide +kernel, by decide +kernel⟩⟩
theorem kv_L_20 : zLv RL 20 9 20 yX10_blank cX10_blank 1 (some .int) 0 := ⟨⟨_, rfl⟩, by decide, zt356, zt357, ⟨zt355, zt61, zt358, by decide +kernel, by decide +kernel, by decide +kernel⟩⟩
theorem kv_L_24 : zLv RL 24 10 51 yX11_blank cX11_blank 2 (some .int) 0 := ⟨⟨_, rfl⟩, by decide, zt1062, zt1063, ⟨zt1061, zt72, zt1064, by decide +kernel, by decide +kernel, by decide +kernel⟩⟩
theorem kv_L_25 : zLv RL 25 9 20 yX10_fault cX10_fault 2 (some .int) 1 := ⟨⟨_, rfl⟩, by decide, zt364, zt365, ⟨zt363, zt61, zt366, by decide +kernel, by decide +kernel, by decide +kernel⟩⟩
theorem kv_L_29 : zLv RL 29 10 51 yX11_fault cX11_fault 2 (some .int) 1 := ⟨⟨_, rfl⟩, by decide, zt1066, zt1067, ⟨zt1065, zt72, zt1068, by decide +kernel, by decide +kernel, by decide +kernel⟩⟩
theorem kv_L_30 : zLv RL 30 9 20 yX10_cup cX10_cup 3 (some .int) 0 := ⟨⟨_, rfl⟩, by decide, zt477, zt478, ⟨zt476, zt61, zt479, by decide +kernel, by decide +kernel, by decide +kernel⟩⟩
theorem kv_L_33 : zLv RL 33 10 51 yX11_cup cX11_cup 2 (some .int) 0 := ⟨⟨_, rfl⟩, by decide, zt1092, zt1093, ⟨zt1091, zt72, zt1094, by decide +kernel, by decide +kernel, by decide +kernel⟩⟩
theorem kv_L_34 : zLv RL 34 9 20 yX10_row cX10_row 1 (some .int) 0 := ⟨⟨_, rfl⟩, by decide, zt514, zt515, ⟨zt513, zt61, zt516, by decide +kernel, by decide +kernel, by decide +kernel⟩⟩
theorem kv_L_37 : zLv RL 37 10 51 yX11_row cX11_row 2 (some .int) 0 := ⟨⟨_, rfl⟩, by decide, zt1096, zt1097, ⟨zt1095, zt72, zt1098, by decide +kernel, by decide +kernel, by decide +kernel⟩⟩
theorem kv_L_38 : zLv RL 38 9 20 yX10_river cX10_river 2 (some .int) 0 := ⟨⟨_, rfl⟩, by decide, zt518, zt519, ⟨zt517, zt61, zt520, by decide +kernel, by decide +kernel, by decide +kernel⟩⟩
theorem kv_L_41 : zLv RL 41 10 51 yX11_river cX11_river 2 (some .int) 0 := ⟨⟨_, rfl⟩, by decide, zt1100, zt1101, ⟨zt1099, zt72, zt1102, by decide +kernel, by decide +kernel, by decide +kernel⟩⟩
theorem kv_L_42 : zLv RL 42 9 20 yX10_cupTold cX10_cupTold 2 (some .int) 1 := ⟨⟨_, rfl⟩, by decide, zt522, zt523, ⟨zt521, zt61, zt524, by decide +kernel, by decide +kernel, by decide +kernel⟩⟩
theorem kv_L_45 : zLv RL 45 10 51 yX11_cupTold cX11_cupTold 2 (some .int) 1 := ⟨⟨_, rfl⟩, by decide, zt1104, zt1105, ⟨zt1103, zt72, zt1106, by decide +kernel, by decide +kernel, by decide +kernel⟩⟩
theorem kv_L_46 : zLv RL 46 9 20 yX10_doing cX10_doing 3 (some .int) 2 := ⟨⟨_, rfl⟩, by decide, zt533, zt534, ⟨zt532, zt61, zt535, by decide +kernel, by decide +kernel, by decide +kernel⟩⟩
theorem kv_L_50 : zLv RL 50 10 51 yX11_doing cX11_doing 6 (some .int) 2 := ⟨⟨_, rfl⟩, by decide, zt1108, zt1109, ⟨zt1107, zt72, zt1110, by decide +kernel, by decide +kernel, by decide +kernel⟩⟩
theorem kv_L_51 : zLv RL 51 9 20 yX10_as cX10_as 3 (some .int) 2 := ⟨⟨_, rfl⟩, by decide, zt540, zt541, ⟨zt539, zt61, zt542, by decide +kernel, by decide +kernel, by decide +kernel⟩⟩
theorem kv_L_54 : zLv RL 54 10 51 yX11_as cX11_as 4 (some .int) 2 := ⟨⟨_, rfl⟩, by decide, zt1112, zt1113, ⟨zt1111, zt72, zt1114, by decide +kernel, by decide +kernel, by decide +kernel⟩⟩
theorem kv_L_55 : zLv RL 55 9 20 yX10_leaf cX10_leaf 5 (some .int) 3 := ⟨⟨_, rfl⟩, by decide, zt556, zt557, ⟨zt555, zt61, zt558, by decide +kernel, by decide +kernel, by decide +kernel⟩⟩
theorem kv_L_59 : zLv RL 59 10 51 yX11_leaf cX11_leaf 4 (some .int) 3 := ⟨⟨_, rfl⟩, by decide, zt1120, zt1121, ⟨zt1119, zt72, zt1122, by decide +kernel, by decide +kernel, by decide +kernel⟩⟩
theorem kv_L_60 : zLv RL 60 9 20 yX10_about cX10_about 3 (some .int) 2 := ⟨⟨_, rfl⟩, by decide, zt573, zt574, ⟨zt572, zt61, zt575, by decide +kernel, by decide +kernel, by decide +kernel⟩⟩
theorem kv_L_63 : zLv RL 63 10 51 yX11_about cX11_about 3 (some .int) 2 := ⟨⟨_, rfl⟩, by decide, zt1128, zt1129, ⟨zt1127, zt72, zt1130, by decide +kernel, by decide +kernel, by decide +kernel⟩⟩
theorem kv_L_64 : zLv RL 64 9 20 yX10_ticks cX10_ticks 5 (some .int) 2 := ⟨⟨_, rfl⟩, by decide, zt594, zt595, ⟨zt593, zt61, zt596, by decide +kernel, by decide +kernel, by decide +kernel⟩⟩
theorem kv_L_67 : zLv RL 67 10 51 yX11_ticks cX11_ticks 5 (some .int) 2 := ⟨⟨_, rfl⟩, by decide, zt1152, zt1153, ⟨zt1151, zt72, zt1154, by decide +kernel, by decide +kernel, by decide +kernel⟩⟩
theorem kv_L_68 : zLv RL 68 9 20 yX10_still cX10_still 1 (some .int) 0 := ⟨⟨_, rfl⟩, by decide, zt654, zt655, ⟨zt653, zt61, zt656, by decide +kernel, by decide +kernel, by decide +kernel⟩⟩
theorem kv_L_71 : zLv RL 71 10 51 yX11_still cX11_still 2 (some .int) 0 := ⟨⟨_, rfl⟩, by decide, zt1180, zt1181, ⟨zt1179, zt72, zt1182, by decide +kernel, by decide +kernel, by decide +kernel⟩⟩
theorem kv_L_72 : zLv RL 72 9 20 yX10_round cX10_round 3 (some .int) 2 := ⟨⟨_, rfl⟩, by decide, zt658, zt659, ⟨zt657, zt61, zt660, by decide +kernel, by decide +kernel, by decide +kernel⟩⟩
theorem kv_L_75 : zLv RL 75 10 51 yX11_round cX11_round 3 (some .int) 2 := ⟨⟨_, rfl⟩, by decide, zt1184, zt1185, ⟨zt1183, zt72, zt1186, by decide +kernel, by decide +kernel, by decide +kernel⟩⟩
theorem kv_L_76 : zLv RL 76 9 20 yX10_second cX10_second 2 (some .int) 1 := ⟨⟨_, rfl⟩, by decide, zt666, zt667, ⟨zt665, zt61, zt668, by decide +kernel, by decide +kernel, by decide +kernel⟩⟩
theorem kv_L_79 : zLv RL 79 10 51 yX11_second cX11_second 2 (some .int) 1 := ⟨⟨_, rfl⟩, by decide, zt1188, zt1189, ⟨zt1187, zt72, zt1190, by decide +kernel, by decide +kernel, by decide +kernel⟩⟩
theorem kv_L_80 : zLv RL 80 9 20 yX10_would cX10_would 4 (some .int) 3 := ⟨⟨_, rfl⟩, by decide, zt672, zt673, ⟨zt671, zt61, zt674, by decide +kernel, by decide +kernel, by decide +kernel⟩⟩
theorem kv_L_83 : zLv RL 83 10 51 yX11_would cX11_would 5 (some .int) 3 := ⟨⟨_, rfl⟩, by decide, zt1192, zt1193, ⟨zt1191, zt72, zt1194, by decide +kernel, by decide +kernel, by decide +kernel⟩⟩
theorem kv_L_84 : zLv RL 84 9 20 yX10_ends cX10_ends 3 (some .int) 2 := ⟨⟨_, rfl⟩, by decide, zt676, zt677, ⟨zt675, zt61, zt678, by decide +kernel, by decide +kernel, by decide +kernel⟩⟩
theorem kv_L_87 : zLv RL 87 10 51 yX11_ends cX11_ends 3 (some .int) 2 := ⟨⟨_, rfl⟩, by decide, zt1200, zt1201, ⟨zt1199, zt72, zt1202, by decide +kernel, by decide +kernel, by decide +kernel⟩⟩
theorem kv_L_88 : zLv RL 88 9 20 yX10_lies cX10_lies 4 (some .int) 2 := ⟨⟨_, rfl⟩, by decide, zt688, zt689, ⟨zt687, zt61, zt690, by decide +kernel, by decide +kernel, by decide +kernel⟩⟩
theorem kv_L_91 : zLv RL 91 10 51 yX11_lies cX11_lies 4 (some .int) 2 := ⟨⟨_, rfl⟩, by decide, zt1224, zt1225, ⟨zt1223, zt72, zt1226, by decide +kernel, by decide +kernel, by decide +kernel⟩⟩
theorem kv_L_92 : zLv RL 92 9 20 yX10_line cX10_line 5 (some .int) 3 := ⟨⟨_, rfl⟩, by decide, zt692, zt693, ⟨zt691, zt61, zt694, by decide +kernel, by decide +kernel, by decide +kernel⟩⟩
theorem kv_L_95 : zLv RL 95 10 51 yX11_line cX11_line 5 (some .int) 3 := ⟨⟨_, rfl⟩, by decide, zt1229, zt1230, ⟨zt1228, zt72, zt1231, by decide +kernel, by decide +kernel, by decide +kernel⟩⟩
theorem kv_L_96 : zLv RL 96 9 20 yX10_want cX10_want 4 (some .int) 2 := ⟨⟨_, rfl⟩, by decide, zt696, zt697, ⟨zt695, zt61, zt698, by decide +kernel, by decide +kernel, by decide +kernel⟩⟩
theorem kv_L_99 : zLv RL 99 10 51 yX11_want cX11_want 4 (some .int) 2 := ⟨⟨_, rfl⟩, by decide, zt1237, zt1238, ⟨zt1236, zt72, zt1239, by decide +kernel, by decide +kernel, by decide +kernel⟩⟩
theorem kv_L_100 : zLv RL 100 9 20 yX10_off cX10_off 2 (some .int) 1 := ⟨⟨_, rfl⟩, by decide, zt700, zt701, ⟨zt699, zt61, zt702, by decide +kernel, by decide +kernel, by decide +kernel⟩⟩
theorem kv_L_103 : zLv RL 103 10 51 yX11_off cX11_off 2 (some .int) 1 := ⟨⟨_, rfl⟩, by decide, zt1241, zt1242, ⟨zt1240, zt72, zt1243, by decide +kernel, by decide +kernel, by decide +kernel⟩⟩
theorem kv_L_104 : zLv RL 104 9 20 yX10_found cX10_found 9 (some .int) 1 := ⟨⟨_, rfl⟩, by decide, zt715, zt716, ⟨zt714, zt61, zt717, by decide +kernel, by decide +kernel, by decide +kernel⟩⟩
theorem kv_L_107 : zLv RL 107 10 51 yX11_found cX11_found 5 (some .int) 1 := ⟨⟨_, rfl⟩, by decide, zt1252, zt1253, ⟨zt1251, zt72, zt1254, by decide +kernel, by decide +kernel, by decide +kernel⟩⟩
theorem kv_L_108 : zLv RL 108 9 20 yX10_seen cX10_seen 4 (some .int) 2 := ⟨⟨_, rfl⟩, by decide, zt724, zt725, ⟨zt723, zt61, zt726, by decide +kernel, by decide +kernel, by decide +kernel⟩⟩
theorem kv_L_111 : zLv RL 111 10 51 yX11_seen cX11_seen 4 (some .int) 2 := ⟨⟨_, rfl⟩, by decide, zt1257, zt1258, ⟨zt1256, zt72, zt1259, by decide +kernel, by decide +kernel, by decide +kernel⟩⟩
theorem kv_L_112 : zLv RL 112 9 20 yX10_read cX10_read 3 (some .int) 0 := ⟨⟨_, rfl⟩, by decide, zt728, zt729, ⟨zt727, zt61, zt730, by decide +kernel, by decide +kernel, by decide +kernel⟩⟩
theorem kv_L_115 : zLv RL 115 10 51 yX11_read cX11_read 5 (some .int) 0 := ⟨⟨_, rfl⟩, by decide, zt1261, zt1262, ⟨zt1260, zt72, zt1263, by decide +kernel, by decide +kernel, by decide +kernel⟩⟩
theorem kv_L_116 : zLv RL 116 9 20 yX10_tells cX10_tells 5 (some .int) 0 := ⟨⟨_, rfl⟩, by decide, zt736, zt737, ⟨zt735, zt61, zt738, by decide +kernel, by decide +kernel, by decide +kernel⟩⟩
theorem kv_L_119 : zLv RL 119 10 51 yX11_tells cX11_tells 5 (some .int) 0 := ⟨⟨_, rfl⟩, by decide, zt1265, zt1266, ⟨zt1264, zt72, zt1267, by decide +kernel, by decide +kernel, by decide +kernel⟩⟩
theorem kv_L_120 : zLv RL 120 9 20 yX10_apart cX10_apart 4 (some .int) 3 := ⟨⟨_, rfl⟩, by decide, zt744, zt745, ⟨zt743, zt61, zt746, by decide +kernel, by decide +kernel, by decide +kernel⟩⟩
theorem kv_L_123 : zLv RL 123 10 51 yX11_apart cX11_apart 4 (some .int) 3 := ⟨⟨_, rfl⟩, by decide, zt1273, zt1274, ⟨zt1272, zt72, zt1275, by decide +kernel, by decide +kernel, by decide +kernel⟩⟩
theorem kv_L_124 : zLv RL 124 9 20 yX10_picture cX10_picture 3 (some .int) 2 := ⟨⟨_, rfl⟩, by decide, zt748, zt749, ⟨zt747, zt61, zt750, by decide +kernel, by decide +kernel, by decide +kernel⟩⟩
theorem kv_L_127 : zLv RL 127 10 51 yX11_picture cX11_picture 3 (some .int) 2 := ⟨⟨_, rfl⟩, by decide, zt1277, zt1278, ⟨zt1276, zt72, zt1279, by decide +kernel, by decide +kernel, by decide +kernel⟩⟩
theorem kv_L_128 : zLv RL 128 9 20 yX10_drag cX10_drag 1 (some .int) 0 := ⟨⟨_, rfl⟩, by decide, zt761, zt762, ⟨zt760, zt61, zt763, by decide +kernel, by decide +kernel, by decide +kernel⟩⟩
theorem kv_L_131 : zLv RL 131 10 51 yX11_drag cX11_drag 6 (some .int) 0 := ⟨⟨_, rfl⟩, by decide, zt1281, zt1282, ⟨zt1280, zt72, zt1283, by decide +kernel, by decide +kernel, by decide +kernel⟩⟩
theorem kv_L_132 : zLv RL 132 9 20 yX10_point cX10_point 5 (some .int) 4 := ⟨⟨_, rfl⟩, by decide, zt776, zt777, ⟨zt775, zt61, zt778, by decide +kernel, by decide +kernel, by decide +kernel⟩⟩
theorem kv_L_136 : zLv RL 136 10 51 yX11_point cX11_point 5 (some .int) 4 := ⟨⟨_, rfl⟩, by decide, zt1285, zt1286, ⟨zt1284, zt72, zt1287, by decide +kernel, by decide +kernel, by decide +kernel⟩⟩
theorem kv_L_137 : zLv RL 137 9 20 yX10_cuts cX10_cuts 4 (some .int) 3 := ⟨⟨_, rfl⟩, by decide, zt815, zt816, ⟨zt814, zt61, zt817, by decide +kernel, by decide +kernel, by decide +kernel⟩⟩
theorem kv_L_140 : zLv RL 140 10 51 yX11_cuts cX11_cuts 4 (some .int) 3 := ⟨⟨_, rfl⟩, by decide, zt1308, zt1309, ⟨zt1307, zt72, zt1310, by decide +kernel, by decide +kernel, by decide +kernel⟩⟩
theorem kv_L_141 : zLv RL 141 9 20 yX10_firstCut cX10_firstCut 4 (some .int) 2 := ⟨⟨_, rfl⟩, by decide, zt823, zt824, ⟨zt822, zt61, zt825, by decide +kernel, by decide +kernel, by decide +kernel⟩⟩
theorem kv_L_144 : zLv RL 144 10 51 yX11_firstCut cX11_firstCut 3 (some .int) 2 := ⟨⟨_, rfl⟩, by decide, zt1312, zt1313, ⟨zt1311, zt72, zt1314, by decide +kernel, by decide +kernel, by decide +kernel⟩⟩
theorem kv_L_145 : zLv RL 145 9 20 yX10_saves cX10_saves 10 (some .int) 3 := ⟨⟨_, rfl⟩, by decide, zt829, zt830, ⟨zt828, zt61, zt831, by decide +kernel, by decide +kernel, by decide +kernel⟩⟩
theorem kv_L_148 : zLv RL 148 10 51 yX11_saves cX11_saves 10 (some .int) 3 := ⟨⟨_, rfl⟩, by decide, zt1316, zt1317, ⟨zt1315, zt72, zt1318, by decide +kernel, by decide +kernel, by decide +kernel⟩⟩
theorem kv_L_149 : zLv RL 149 9 20 yX10_image cX10_image 1 (some .int) 0 := ⟨⟨_, rfl⟩, by decide, zt839, zt840, ⟨zt838, zt61, zt841, by decide +kernel, by decide +kernel, by decide +kernel⟩⟩
theorem kv_L_152 : zLv RL 152 10 51 yX11_image cX11_image 2 (some .int) 0 := ⟨⟨_, rfl⟩, by decide, zt1320, zt1321, ⟨zt1319, zt72, zt1322, by decide +kernel, by decide +kernel, by decide +kernel⟩⟩
theorem kv_L_153 : zLv RL 153 9 20 yX10_restore cX10_restore 1 (some .int) 0 := ⟨⟨_, rfl⟩, by decide, zt849, zt850, ⟨zt848, zt61, zt851, by decide +kernel, by decide +kernel, by decide +kernel⟩⟩
theorem kv_L_156 : zLv RL 156 10 51 yX11_restore cX11_restore 2 (some .int) 0 := ⟨⟨_, rfl⟩, by decide, zt1324, zt1325, ⟨zt1323, zt72, zt1326, by decide +kernel, by decide +kernel, by decide +kernel⟩⟩
theorem kv_L_157 : zLv RL 157 9 20 yX10_count cX10_count 2 (some .int) 1 := ⟨⟨_, rfl⟩, by decide, zt861, zt862, ⟨zt860, zt61, zt863, by decide +kernel, by decide +kernel, by decide +kernel⟩⟩
theorem kv_L_160 : zLv RL 160 10 51 yX11_count cX11_count 2 (some .int) 1 := ⟨⟨_, rfl⟩, by decide, zt1328, zt1329, ⟨zt1327, zt72, zt1330, by decide +kernel, by decide +kernel, by decide +kernel⟩⟩
theorem kv_L_161 : zLv RL 161 9 20 yX10_digest cX10_digest 4 (some .long) 0 := ⟨⟨_, rfl⟩, by decide, zt865, zt866, ⟨zt864, zt61, zt867, by decide +kernel, by decide +kernel, by decide +kernel⟩⟩
theorem kv_L_165 : zLv RL 165 10 51 yX11_digest cX11_digest 3 (some .long) 0 := ⟨⟨_, rfl⟩, by decide, zt1336, zt1337, ⟨zt1335, zt72, zt1338, by decide +kernel, by decide +kernel, by decide +kernel⟩⟩
section ZRL
variable {p : Program} {l : Launch} {e : Env} {R : Room} {s : State} {m : MethodId} {args : Array Value} {below : List Frame} {meth : Method} {c : Code} {E : zE} {nL : Nat} {Q : State → Prop} {cells slots pc : Nat} {lo : List (Nat × Value)} {st : List Value} {h : zH} {cc : ByteArray} {own : String} {β : Type} {res : β}
theorem zr_sld (C : zC p s m args meth c cc nL own E) {b L : Nat} {xs : Nat → Int32} {i : Int32} {k : Int32 → Option β} (hf : zsx xs L i k = some res) (hX : va_X b L xs s E.2.2.1) (hbl : b < zB E) (hdg : decode cc pc = .ok (.iaload, 1)) (kk : ∀ x : Int32, k x = some res → zW p l e R s m args below meth c E nL Q cells slots (pc + 1) lo (.int x :: st) h) : zW p l e R s m args below meth c E nL Q cells slots pc lo (.int i :: .ref b :: st) h := by
  intro H locs ls hRp hL hlo
  obtain ⟨⟨h0, h1⟩, hf⟩ := zif hf
  obtain ⟨scr, g1, g2, g3, g4, g5⟩ := hX
  exact W.iald (v := .int (xs i.toNatClampNeg)) C.1 C.2.1 (by rw [hRp.2.1 b hbl]; exact g1) g2 g3 (fun z => z.elim h0 (fun z => by omega)) (g5 _ h1) rfl rfl hdg (kk _ hf H locs ls hRp hL hlo)
theorem zr_slen (C : zC p s m args meth c cc nL own E) {b L : Nat} {xs : Nat → Int32} {k : Int32 → Option β} (hf : zv (Int32.ofNat L) k = some res) (hX : va_X b L xs s E.2.2.1) (hbl : b < zB E) (hdg : decode cc pc = .ok (.arraylength, 1)) (kk : ∀ x : Int32, k x = some res → zW p l e R s m args below meth c E nL Q cells slots (pc + 1) lo (.int x :: st) h) : zW p l e R s m args below meth c E nL Q cells slots pc lo (.ref b :: st) h := by
  intro H locs ls hRp hL hlo
  obtain ⟨scr, g1, g2, g3, g4, g5⟩ := hX
  exact W.alen (n := Int32.ofNat L) C.1 C.2.1 (by rw [hRp.2.1 b hbl]; exact g1) g2 (by rw [g4] <;> rfl) rfl rfl hdg (kk _ hf H locs ls hRp hL hlo)
theorem zr_lawret {b : Nat} (C : zC p s m #[Value.ref b] meth c code 4 own E) (hr : meth.sig.returnType = ret) (hgo : zB E = s.heap.size) (h1 : cells ≤ 872251) (h2 : slots ≤ 6485495) (hdg : decode code pc = .ok (.ireturn, 1)) : zW p l e room_1 s m #[Value.ref b] below meth c E 4 (lw_Z below #[Value.ref b] s) cells slots pc lo [.int 1] h := by
  intro H locs ls hRp hL hlo
  refine va_forget (fun q hq => by rw [← hgo]; exact hL q hq) ?_
  exact W.widen h1 h2 (lw_ret C.1 C.2.1 hr C.2.2.2.2.2.2 hdg)
end ZRL
