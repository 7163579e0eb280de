theorem zt78 : (Cond.classLink RL 7 RX10 : Cond) ∈ ztb := zmem (i := 78) (by decide +kernel) rfl
theorem zt79 : (Cond.instantiable RX10 20 : Cond) ∈ ztb := zmem (i := 79) (by decide +kernel) rfl
theorem zt81 : (Cond.instanceMethod yX10_init : Cond) ∈ ztb := zmem (i := 81) (by decide +kernel) rfl
theorem zt80 : (Cond.methodLink RL 9 yX10_init : Cond) ∈ ztb := zmem (i := 80) (by decide +kernel) rfl
theorem zt82 : (Cond.code yX10_init cX10_init 2 none : Cond) ∈ ztb := zmem (i := 82) (by decide +kernel) rfl
theorem zt886 : (Cond.classLink RL 10 RX11 : Cond) ∈ ztb := zmem (i := 886) (by decide +kernel) rfl
theorem zt887 : (Cond.instantiable RX11 51 : Cond) ∈ ztb := zmem (i := 887) (by decide +kernel) rfl
theorem zt889 : (Cond.instanceMethod yX11_init : Cond) ∈ ztb := zmem (i := 889) (by decide +kernel) rfl
theorem zt888 : (Cond.methodLink RL 12 yX11_init : Cond) ∈ ztb := zmem (i := 888) (by decide +kernel) rfl
theorem zt890 : (Cond.code yX11_init cX11_init 1 none : Cond) ∈ ztb := zmem (i := 890) (by decide +kernel) rfl
theorem zt1343 : (Cond.constantLong RL 13 4294967295 : Cond) ∈ ztb := zmem (i := 1343) (by decide +kernel) rfl
theorem zt341 : (Cond.instanceMethod yX10_letters : Cond) ∈ ztb := zmem (i := 341) (by decide +kernel) rfl
theorem zt342 : (Cond.selects RX10 yX10_letters yX10_letters : Cond) ∈ ztb := zmem (i := 342) (by decide +kernel) rfl
theorem zt340 : (Cond.methodLink RL 15 yX10_letters : Cond) ∈ ztb := zmem (i := 340) (by decide +kernel) rfl
theorem zt343 : (Cond.code yX10_letters cX10_letters 3 (some .int) : Cond) ∈ ztb := zmem (i := 343) (by decide +kernel) rfl
theorem zt1047 : (Cond.instanceMethod yX11_letters : Cond) ∈ ztb := zmem (i := 1047) (by decide +kernel) rfl
theorem zt1048 : (Cond.selects RX11 yX11_letters yX11_letters : Cond) ∈ ztb := zmem (i := 1048) (by decide +kernel) rfl
theorem zt1046 : (Cond.methodLink RL 19 yX11_letters : Cond) ∈ ztb := zmem (i := 1046) (by decide +kernel) rfl
theorem zt1049 : (Cond.code yX11_letters cX11_letters 7 (some .int) : Cond) ∈ ztb := zmem (i := 1049) (by decide +kernel) rfl
theorem zt356 : (Cond.instanceMethod yX10_blank : Cond) ∈ ztb := zmem (i := 356) (by decide +kernel) rfl
theorem zt357 : (Cond.selects RX10 yX10_blank yX10_blank : Cond) ∈ ztb := zmem (i := 357) (by decide +kernel) rfl
theorem zt355 : (Cond.methodLink RL 20 yX10_blank : Cond) ∈ ztb := zmem (i := 355) (by decide +kernel) rfl
theorem zt358 : (Cond.code yX10_blank cX10_blank 1 (some .int) : Cond) ∈ ztb := zmem (i := 358) (by decide +kernel) rfl
theorem zt1052 : (Cond.instanceMethod yX11_blank : Cond) ∈ ztb := zmem (i := 1052) (by decide +kernel) rfl
theorem zt1053 : (Cond.selects RX11 yX11_blank yX11_blank : Cond) ∈ ztb := zmem (i := 1053) (by decide +kernel) rfl
theorem zt1051 : (Cond.methodLink RL 24 yX11_blank : Cond) ∈ ztb := zmem (i := 1051) (by decide +kernel) rfl
theorem zt1054 : (Cond.code yX11_blank cX11_blank 2 (some .int) : Cond) ∈ ztb := zmem (i := 1054) (by decide +kernel) rfl
theorem zt364 : (Cond.instanceMethod yX10_fault : Cond) ∈ ztb := zmem (i := 364) (by decide +kernel) rfl
theorem zt365 : (Cond.selects RX10 yX10_fault yX10_fault : Cond) ∈ ztb := zmem (i := 365) (by decide +kernel) rfl
theorem zt363 : (Cond.methodLink RL 25 yX10_fault : Cond) ∈ ztb := zmem (i := 363) (by decide +kernel) rfl
theorem zt366 : (Cond.code yX10_fault cX10_fault 2 (some .int) : Cond) ∈ ztb := zmem (i := 366) (by decide +kernel) rfl
theorem zt1056 : (Cond.instanceMethod yX11_fault : Cond) ∈ ztb := zmem (i := 1056) (by decide +kernel) rfl
theorem zt1057 : (Cond.selects RX11 yX11_fault yX11_fault : Cond) ∈ ztb := zmem (i := 1057) (by decide +kernel) rfl
theorem zt1055 : (Cond.methodLink RL 29 yX11_fault : Cond) ∈ ztb := zmem (i := 1055) (by decide +kernel) rfl
theorem zt1058 : (Cond.code yX11_fault cX11_fault 2 (some .int) : Cond) ∈ ztb := zmem (i := 1058) (by decide +kernel) rfl
theorem zt477 : (Cond.instanceMethod yX10_cup : Cond) ∈ ztb := zmem (i := 477) (by decide +kernel) rfl
theorem zt478 : (Cond.selects RX10 yX10_cup yX10_cup : Cond) ∈ ztb := zmem (i := 478) (by decide +kernel) rfl
theorem zt476 : (Cond.methodLink RL 30 yX10_cup : Cond) ∈ ztb := zmem (i := 476) (by decide +kernel) rfl
theorem zt479 : (Cond.code yX10_cup cX10_cup 3 (some .int) : Cond) ∈ ztb := zmem (i := 479) (by decide +kernel) rfl
theorem zt1082 : (Cond.instanceMethod yX11_cup : Cond) ∈ ztb := zmem (i := 1082) (by decide +kernel) rfl
theorem zt1083 : (Cond.selects RX11 yX11_cup yX11_cup : Cond) ∈ ztb := zmem (i := 1083) (by decide +kernel) rfl
theorem zt1081 : (Cond.methodLink RL 33 yX11_cup : Cond) ∈ ztb := zmem (i := 1081) (by decide +kernel) rfl
theorem zt1084 : (Cond.code yX11_cup cX11_cup 2 (some .int) : Cond) ∈ ztb := zmem (i := 1084) (by decide +kernel) rfl
theorem zt514 : (Cond.instanceMethod yX10_row : Cond) ∈ ztb := zmem (i := 514) (by decide +kernel) rfl
theorem zt515 : (Cond.selects RX10 yX10_row yX10_row : Cond) ∈ ztb := zmem (i := 515) (by decide +kernel) rfl
theorem zt513 : (Cond.methodLink RL 34 yX10_row : Cond) ∈ ztb := zmem (i := 513) (by decide +kernel) rfl
theorem zt516 : (Cond.code yX10_row cX10_row 2 (some .int) : Cond) ∈ ztb := zmem (i := 516) (by decide +kernel) rfl
theorem zt1086 : (Cond.instanceMethod yX11_row : Cond) ∈ ztb := zmem (i := 1086) (by decide +kernel) rfl
theorem zt1087 : (Cond.selects RX11 yX11_row yX11_row : Cond) ∈ ztb := zmem (i := 1087) (by decide +kernel) rfl
theorem zt1085 : (Cond.methodLink RL 37 yX11_row : Cond) ∈ ztb := zmem (i := 1085) (by decide +kernel) rfl
theorem zt1088 : (Cond.code yX11_row cX11_row 2 (some .int) : Cond) ∈ ztb := zmem (i := 1088) (by decide +kernel) rfl
theorem zt518 : (Cond.instanceMethod yX10_river : Cond) ∈ ztb := zmem (i := 518) (by decide +kernel) rfl
theorem zt519 : (Cond.selects RX10 yX10_river yX10_river : Cond) ∈ ztb := zmem (i := 519) (by decide +kernel) rfl
theorem zt517 : (Cond.methodLink RL 38 yX10_river : Cond) ∈ ztb := zmem (i := 517) (by decide +kernel) rfl
theorem zt520 : (Cond.code yX10_river cX10_river 2 (some .int) : Cond) ∈ ztb := zmem (i := 520) (by decide +kernel) rfl
theorem zt1090 : (Cond.instanceMethod yX11_river : Cond) ∈ ztb := zmem (i := 1090) (by decide +kernel) rfl
theorem zt1091 : (Cond.selects RX11 yX11_river yX11_river : Cond) ∈ ztb := zmem (i := 1091) (by decide +kernel) rfl
theorem zt1089 : (Cond.methodLink RL 41 yX11_river : Cond) ∈ ztb := zmem (i := 1089) (by decide +kernel) rfl
theorem zt1092 : (Cond.code yX11_river cX11_river 2 (some .int) : Cond) ∈ ztb := zmem (i := 1092) (by decide +kernel) rfl
theorem zt522 : (Cond.instanceMethod yX10_cupTold : Cond) ∈ ztb := zmem (i := 522) (by decide +kernel) rfl
theorem zt523 : (Cond.selects RX10 yX10_cupTold yX10_cupTold : Cond) ∈ ztb := zmem (i := 523) (by decide +kernel) rfl
theorem zt521 : (Cond.methodLink RL 42 yX10_cupTold : Cond) ∈ ztb := zmem (i := 521) (by decide +kernel) rfl
theorem zt524 : (Cond.code yX10_cupTold cX10_cupTold 2 (some .int) : Cond) ∈ ztb := zmem (i := 524) (by decide +kernel) rfl
theorem zt1094 : (Cond.instanceMethod yX11_cupTold : Cond) ∈ ztb := zmem (i := 1094) (by decide +kernel) rfl
theorem zt1095 : (Cond.selects RX11 yX11_cupTold yX11_cupTold : Cond) ∈ ztb := zmem (i := 1095) (by decide +kernel) rfl
theorem zt1093 : (Cond.methodLink RL 45 yX11_cupTold : Cond) ∈ ztb := zmem (i := 1093) (by decide +kernel) rfl
theorem zt1096 : (Cond.code yX11_cupTold cX11_cupTold 2 (some .int) : Cond) ∈ ztb := zmem (i := 1096) (by decide +kernel) rfl
theorem zt533 : (Cond.instanceMethod yX10_doing : Cond) ∈ ztb := zmem (i := 533) (by decide +kernel) rfl
theorem zt534 : (Cond.selects RX10 yX10_doing yX10_doing : Cond) ∈ ztb := zmem (i := 534) (by decide +kernel) rfl
theorem zt532 : (Cond.methodLink RL 46 yX10_doing : Cond) ∈ ztb := zmem (i := 532) (by decide +kernel) rfl
theorem zt535 : (Cond.code yX10_doing cX10_doing 3 (some .int) : Cond) ∈ ztb := zmem (i := 535) (by decide +kernel) rfl
theorem zt1098 : (Cond.instanceMethod yX11_doing : Cond) ∈ ztb := zmem (i := 1098) (by decide +kernel) rfl
theorem zt1099 : (Cond.selects RX11 yX11_doing yX11_doing : Cond) ∈ ztb := zmem (i := 1099) (by decide +kernel) rfl
theorem zt1097 : (Cond.methodLink RL 50 yX11_doing : Cond) ∈ ztb := zmem (i := 1097) (by decide +kernel) rfl
theorem zt1100 : (Cond.code yX11_doing cX11_doing 6 (some .int) : Cond) ∈ ztb := zmem (i := 1100) (by decide +kernel) rfl
theorem zt540 : (Cond.instanceMethod yX10_as : Cond) ∈ ztb := zmem (i := 540) (by decide +kernel) rfl
theorem zt541 : (Cond.selects RX10 yX10_as yX10_as : Cond) ∈ ztb := zmem (i := 541) (by decide +kernel) rfl
theorem zt539 : (Cond.methodLink RL 51 yX10_as : Cond) ∈ ztb := zmem (i := 539) (by decide +kernel) rfl
theorem zt542 : (Cond.code yX10_as cX10_as 3 (some .int) : Cond) ∈ ztb := zmem (i := 542) (by decide +kernel) rfl
theorem zt1102 : (Cond.instanceMethod yX11_as : Cond) ∈ ztb := zmem (i := 1102) (by decide +kernel) rfl
theorem zt1103 : (Cond.selects RX11 yX11_as yX11_as : Cond) ∈ ztb := zmem (i := 1103) (by decide +kernel) rfl
theorem zt1101 : (Cond.methodLink RL 54 yX11_as : Cond) ∈ ztb := zmem (i := 1101) (by decide +kernel) rfl
theorem zt1104 : (Cond.code yX11_as cX11_as 4 (some .int) : Cond) ∈ ztb := zmem (i := 1104) (by decide +kernel) rfl
theorem zt556 : (Cond.instanceMethod yX10_leaf : Cond) ∈ ztb := zmem (i := 556) (by decide +kernel) rfl
theorem zt557 : (Cond.selects RX10 yX10_leaf yX10_leaf : Cond) ∈ ztb := zmem (i := 557) (by decide +kernel) rfl
theorem zt555 : (Cond.methodLink RL 55 yX10_leaf : Cond) ∈ ztb := zmem (i := 555) (by decide +kernel) rfl
theorem zt558 : (Cond.code yX10_leaf cX10_leaf 5 (some .int) : Cond) ∈ ztb := zmem (i := 558) (by decide +kernel) rfl
theorem zt1110 : (Cond.instanceMethod yX11_leaf : Cond) ∈ ztb := zmem (i := 1110) (by decide +kernel) rfl
theorem zt1111 : (Cond.selects RX11 yX11_leaf yX11_leaf : Cond) ∈ ztb := zmem (i := 1111) (by decide +kernel) rfl
theorem zt1109 : (Cond.methodLink RL 59 yX11_leaf : Cond) ∈ ztb := zmem (i := 1109) (by decide +kernel) rfl
theorem zt1112 : (Cond.code yX11_leaf cX11_leaf 4 (some .int) : Cond) ∈ ztb := zmem (i := 1112) (by decide +kernel) rfl
theorem zt571 : (Cond.methodLink RL 60 yX10_about : Cond) ∈ ztb := zmem (i := 571) (by decide +kernel) rfl
theorem zt1118 : (Cond.instanceMethod yX11_about : Cond) ∈ ztb := zmem (i := 1118) (by decide +kernel) rfl
theorem zt1119 : (Cond.selects RX11 yX11_about yX11_about : Cond) ∈ ztb := zmem (i := 1119) (by decide +kernel) rfl
theorem zt1117 : (Cond.methodLink RL 63 yX11_about : Cond) ∈ ztb := zmem (i := 1117) (by decide +kernel) rfl
theorem zt1120 : (Cond.code yX11_about cX11_about 3 (some .int) : Cond) ∈ ztb := zmem (i := 1120) (by decide +kernel) rfl
theorem zt589 : (Cond.instanceMethod yX10_ticks : Cond) ∈ ztb := zmem (i := 589) (by decide +kernel) rfl
theorem zt590 : (Cond.selects RX10 yX10_ticks yX10_ticks : Cond) ∈ ztb := zmem (i := 590) (by decide +kernel) rfl
theorem zt588 : (Cond.methodLink RL 64 yX10_ticks : Cond) ∈ ztb := zmem (i := 588) (by decide +kernel) rfl
theorem zt591 : (Cond.code yX10_ticks cX10_ticks 5 (some .int) : Cond) ∈ ztb := zmem (i := 591) (by decide +kernel) rfl
theorem zt1142 : (Cond.instanceMethod yX11_ticks : Cond) ∈ ztb := zmem (i := 1142) (by decide +kernel) rfl
theorem zt1143 : (Cond.selects RX11 yX11_ticks yX11_ticks : Cond) ∈ ztb := zmem (i := 1143) (by decide +kernel) rfl
theorem zt1141 : (Cond.methodLink RL 67 yX11_ticks : Cond) ∈ ztb := zmem (i := 1141) (by decide +kernel) rfl
theorem zt1144 : (Cond.code yX11_ticks cX11_ticks 5 (some .int) : Cond) ∈ ztb := zmem (i := 1144) (by decide +kernel) rfl
theorem zt649 : (Cond.instanceMethod yX10_still : Cond) ∈ ztb := zmem (i := 649) (by decide +kernel) rfl
theorem zt650 : (Cond.selects RX10 yX10_still yX10_still : Cond) ∈ ztb := zmem (i := 650) (by decide +kernel) rfl
theorem zt648 : (Cond.methodLink RL 68 yX10_still : Cond) ∈ ztb := zmem (i := 648) (by decide +kernel) rfl
theorem zt651 : (Cond.code yX10_still cX10_still 1 (some .int) : Cond) ∈ ztb := zmem (i := 651) (by decide +kernel) rfl
theorem zt1170 : (Cond.instanceMethod yX11_still : Cond) ∈ ztb := zmem (i := 1170) (by decide +kernel) rfl
theorem zt1171 : (Cond.selects RX11 yX11_still yX11_still : Cond) ∈ ztb := zmem (i := 1171) (by decide +kernel) rfl
theorem zt1169 : (Cond.methodLink RL 71 yX11_still : Cond) ∈ ztb := zmem (i := 1169) (by decide +kernel) rfl
theorem zt1172 : (Cond.code yX11_still cX11_still 2 (some .int) : Cond) ∈ ztb := zmem (i := 1172) (by decide +kernel) rfl
theorem zt653 : (Cond.instanceMethod yX10_round : Cond) ∈ ztb := zmem (i := 653) (by decide +kernel) rfl
theorem zt654 : (Cond.selects RX10 yX10_round yX10_round : Cond) ∈ ztb := zmem (i := 654) (by decide +kernel) rfl
theorem zt652 : (Cond.methodLink RL 72 yX10_round : Cond) ∈ ztb := zmem (i := 652) (by decide +kernel) rfl
theorem zt655 : (Cond.code yX10_round cX10_round 3 (some .int) : Cond) ∈ ztb := zmem (i := 655) (by decide +kernel) rfl
theorem zt1174 : (Cond.instanceMethod yX11_round : Cond) ∈ ztb := zmem (i := 1174) (by decide +kernel) rfl
theorem zt1175 : (Cond.selects RX11 yX11_round yX11_round : Cond) ∈ ztb := zmem (i := 1175) (by decide +kernel) rfl
theorem zt1173 : (Cond.methodLink RL 75 yX11_round : Cond) ∈ ztb := zmem (i := 1173) (by decide +kernel) rfl
theorem zt1176 : (Cond.code yX11_round cX11_round 3 (some .int) : Cond) ∈ ztb := zmem (i := 1176) (by decide +kernel) rfl
theorem zt661 : (Cond.instanceMethod yX10_second : Cond) ∈ ztb := zmem (i := 661) (by decide +kernel) rfl
theorem zt662 : (Cond.selects RX10 yX10_second yX10_second : Cond) ∈ ztb := zmem (i := 662) (by decide +kernel) rfl
theorem zt660 : (Cond.methodLink RL 76 yX10_second : Cond) ∈ ztb := zmem (i := 660) (by decide +kernel) rfl
theorem zt663 : (Cond.code yX10_second cX10_second 2 (some .int) : Cond) ∈ ztb := zmem (i := 663) (by decide +kernel) rfl
theorem zt1178 : (Cond.instanceMethod yX11_second : Cond) ∈ ztb := zmem (i := 1178) (by decide +kernel) rfl
theorem zt1179 : (Cond.selects RX11 yX11_second yX11_second : Cond) ∈ ztb := zmem (i := 1179) (by decide +kernel) rfl
theorem zt1177 : (Cond.methodLink RL 79 yX11_second : Cond) ∈ ztb := zmem (i := 1177) (by decide +kernel) rfl
theorem zt1180 : (Cond.code yX11_second cX11_second 2 (some .int) : Cond) ∈ ztb := zmem (i := 1180) (by decide +kernel) rfl
theorem zt667 : (Cond.instanceMethod yX10_would : Cond) ∈ ztb := zmem (i := 667) (by decide +kernel) rfl
theorem zt668 : (Cond.selects RX10 yX10_would yX10_would : Cond) ∈ ztb := zmem (i := 668) (by decide +kernel) rfl
theorem zt666 : (Cond.methodLink RL 80 yX10_would : Cond) ∈ ztb := zmem (i := 666) (by decide +kernel) rfl
theorem zt669 : (Cond.code yX10_would cX10_would 4 (some .int) : Cond) ∈ ztb := zmem (i := 669) (by decide +kernel) rfl
theorem zt1182 : (Cond.instanceMethod yX11_would : Cond) ∈ ztb := zmem (i := 1182) (by decide +kernel) rfl
theorem zt1183 : (Cond.selects RX11 yX11_would yX11_would : Cond) ∈ ztb := zmem (i := 1183) (by decide +kernel) rfl
theorem zt1181 : (Cond.methodLink RL 83 yX11_would : Cond) ∈ ztb := zmem (i := 1181) (by decide +kernel) rfl
theorem zt1184 : (Cond.code yX11_would cX11_would 5 (some .int) : Cond) ∈ ztb := zmem (i := 1184) (by decide +kernel) rfl
theorem zt671 : (Cond.instanceMethod yX10_ends : Cond) ∈ ztb := zmem (i := 671) (by decide +kernel) rfl
theorem zt672 : (Cond.selects RX10 yX10_ends yX10_ends : Cond) ∈ ztb := zmem (i := 672) (by decide +kernel) rfl
theorem zt670 : (Cond.methodLink RL 84 yX10_ends : Cond) ∈ ztb := zmem (i := 670) (by decide +kernel) rfl
theorem zt673 : (Cond.code yX10_ends cX10_ends 3 (some .int) : Cond) ∈ ztb := zmem (i := 673) (by decide +kernel) rfl
theorem zt1189 : (Cond.methodLink RL 87 yX11_ends : Cond) ∈ ztb := zmem (i := 1189) (by decide +kernel) rfl
theorem zt683 : (Cond.instanceMethod yX10_lies : Cond) ∈ ztb := zmem (i := 683) (by decide +kernel) rfl
theorem zt684 : (Cond.selects RX10 yX10_lies yX10_lies : Cond) ∈ ztb := zmem (i := 684) (by decide +kernel) rfl
theorem zt682 : (Cond.methodLink RL 88 yX10_lies : Cond) ∈ ztb := zmem (i := 682) (by decide +kernel) rfl
theorem zt685 : (Cond.code yX10_lies cX10_lies 4 (some .int) : Cond) ∈ ztb := zmem (i := 685) (by decide +kernel) rfl
theorem zt1214 : (Cond.instanceMethod yX11_lies : Cond) ∈ ztb := zmem (i := 1214) (by decide +kernel) rfl
theorem zt1215 : (Cond.selects RX11 yX11_lies yX11_lies : Cond) ∈ ztb := zmem (i := 1215) (by decide +kernel) rfl
theorem zt1213 : (Cond.methodLink RL 91 yX11_lies : Cond) ∈ ztb := zmem (i := 1213) (by decide +kernel) rfl
theorem zt1216 : (Cond.code yX11_lies cX11_lies 4 (some .int) : Cond) ∈ ztb := zmem (i := 1216) (by decide +kernel) rfl
theorem zt687 : (Cond.instanceMethod yX10_line : Cond) ∈ ztb := zmem (i := 687) (by decide +kernel) rfl
theorem zt688 : (Cond.selects RX10 yX10_line yX10_line : Cond) ∈ ztb := zmem (i := 688) (by decide +kernel) rfl
theorem zt686 : (Cond.methodLink RL 92 yX10_line : Cond) ∈ ztb := zmem (i := 686) (by decide +kernel) rfl
theorem zt689 : (Cond.code yX10_line cX10_line 5 (some .int) : Cond) ∈ ztb := zmem (i := 689) (by decide +kernel) rfl
theorem zt1219 : (Cond.instanceMethod yX11_line : Cond) ∈ ztb := zmem (i := 1219) (by decide +kernel) rfl
theorem zt1220 : (Cond.selects RX11 yX11_line yX11_line : Cond) ∈ ztb := zmem (i := 1220) (by decide +kernel) rfl
theorem zt1218 : (Cond.methodLink RL 95 yX11_line : Cond) ∈ ztb := zmem (i := 1218) (by decide +kernel) rfl
theorem zt1221 : (Cond.code yX11_line cX11_line 5 (some .int) : Cond) ∈ ztb := zmem (i := 1221) (by decide +kernel) rfl
theorem zt691 : (Cond.instanceMethod yX10_want : Cond) ∈ ztb := zmem (i := 691) (by decide +kernel) rfl
theorem zt692 : (Cond.selects RX10 yX10_want yX10_want : Cond) ∈ ztb := zmem (i := 692) (by decide +kernel) rfl
theorem zt690 : (Cond.methodLink RL 96 yX10_want : Cond) ∈ ztb := zmem (i := 690) (by decide +kernel) rfl
theorem zt693 : (Cond.code yX10_want cX10_want 4 (some .int) : Cond) ∈ ztb := zmem (i := 693) (by decide +kernel) rfl
theorem zt1227 : (Cond.instanceMethod yX11_want : Cond) ∈ ztb := zmem (i := 1227) (by decide +kernel) rfl
theorem zt1228 : (Cond.selects RX11 yX11_want yX11_want : Cond) ∈ ztb := zmem (i := 1228) (by decide +kernel) rfl
theorem zt1226 : (Cond.methodLink RL 99 yX11_want : Cond) ∈ ztb := zmem (i := 1226) (by decide +kernel) rfl
theorem zt1229 : (Cond.code yX11_want cX11_want 4 (some .int) : Cond) ∈ ztb := zmem (i := 1229) (by decide +kernel) rfl
theorem zt695 : (Cond.instanceMethod yX10_off : Cond) ∈ ztb := zmem (i := 695) (by decide +kernel) rfl
theorem zt696 : (Cond.selects RX10 yX10_off yX10_off : Cond) ∈ ztb := zmem (i := 696) (by decide +kernel) rfl
theorem zt694 : (Cond.methodLink RL 100 yX10_off : Cond) ∈ ztb := zmem (i := 694) (by decide +kernel) rfl
theorem zt697 : (Cond.code yX10_off cX10_off 2 (some .int) : Cond) ∈ ztb := zmem (i := 697) (by decide +kernel) rfl
theorem zt1231 : (Cond.instanceMethod yX11_off : Cond) ∈ ztb := zmem (i := 1231) (by decide +kernel) rfl
theorem zt1232 : (Cond.selects RX11 yX11_off yX11_off : Cond) ∈ ztb := zmem (i := 1232) (by decide +kernel) rfl
theorem zt1230 : (Cond.methodLink RL 103 yX11_off : Cond) ∈ ztb := zmem (i := 1230) (by decide +kernel) rfl
theorem zt1233 : (Cond.code yX11_off cX11_off 2 (some .int) : Cond) ∈ ztb := zmem (i := 1233) (by decide +kernel) rfl
theorem zt710 : (Cond.instanceMethod yX10_found : Cond) ∈ ztb := zmem (i := 710) (by decide +kernel) rfl
theorem zt711 : (Cond.selects RX10 yX10_found yX10_found : Cond) ∈ ztb := zmem (i := 711) (by decide +kernel) rfl
theorem zt709 : (Cond.methodLink RL 104 yX10_found : Cond) ∈ ztb := zmem (i := 709) (by decide +kernel) rfl
theorem zt712 : (Cond.code yX10_found cX10_found 9 (some .int) : Cond) ∈ ztb := zmem (i := 712) (by decide +kernel) rfl
theorem zt1242 : (Cond.instanceMethod yX11_found : Cond) ∈ ztb := zmem (i := 1242) (by decide +kernel) rfl
theorem zt1243 : (Cond.selects RX11 yX11_found yX11_found : Cond) ∈ ztb := zmem (i := 1243) (by decide +kernel) rfl
theorem zt1241 : (Cond.methodLink RL 107 yX11_found : Cond) ∈ ztb := zmem (i := 1241) (by decide +kernel) rfl
theorem zt1244 : (Cond.code yX11_found cX11_found 5 (some .int) : Cond) ∈ ztb := zmem (i := 1244) (by decide +kernel) rfl
theorem zt719 : (Cond.instanceMethod yX10_seen : Cond) ∈ ztb := zmem (i := 719) (by decide +kernel) rfl
theorem zt720 : (Cond.selects RX10 yX10_seen yX10_seen : Cond) ∈ ztb := zmem (i := 720) (by decide +kernel) rfl
theorem zt718 : (Cond.methodLink RL 108 yX10_seen : Cond) ∈ ztb := zmem (i := 718) (by decide +kernel) rfl
theorem zt721 : (Cond.code yX10_seen cX10_seen 4 (some .int) : Cond) ∈ ztb := zmem (i := 721) (by decide +kernel) rfl
theorem zt1247 : (Cond.instanceMethod yX11_seen : Cond) ∈ ztb := zmem (i := 1247) (by decide +kernel) rfl
theorem zt1248 : (Cond.selects RX11 yX11_seen yX11_seen : Cond) ∈ ztb := zmem (i := 1248) (by decide +kernel) rfl
theorem zt1246 : (Cond.methodLink RL 111 yX11_seen : Cond) ∈ ztb := zmem (i := 1246) (by decide +kernel) rfl
theorem zt1249 : (Cond.code yX11_seen cX11_seen 4 (some .int) : Cond) ∈ ztb := zmem (i := 1249) (by decide +kernel) rfl
theorem zt723 : (Cond.instanceMethod yX10_read : Cond) ∈ ztb := zmem (i := 723) (by decide +kernel) rfl
theorem zt724 : (Cond.selects RX10 yX10_read yX10_read : Cond) ∈ ztb := zmem (i := 724) (by decide +kernel) rfl
theorem zt722 : (Cond.methodLink RL 112 yX10_read : Cond) ∈ ztb := zmem (i := 722) (by decide +kernel) rfl
theorem zt725 : (Cond.code yX10_read cX10_read 3 (some .int) : Cond) ∈ ztb := zmem (i := 725) (by decide +kernel) rfl
theorem zt1251 : (Cond.instanceMethod yX11_read : Cond) ∈ ztb := zmem (i := 1251) (by decide +kernel) rfl
theorem zt1252 : (Cond.selects RX11 yX11_read yX11_read : Cond) ∈ ztb := zmem (i := 1252) (by decide +kernel) rfl
theorem zt1250 : (Cond.methodLink RL 115 yX11_read : Cond) ∈ ztb := zmem (i := 1250) (by decide +kernel) rfl
theorem zt1253 : (Cond.code yX11_read cX11_read 5 (some .int) : Cond) ∈ ztb := zmem (i := 1253) (by decide +kernel) rfl
theorem zt731 : (Cond.instanceMethod yX10_tells : Cond) ∈ ztb := zmem (i := 731) (by decide +kernel) rfl
theorem zt732 : (Cond.selects RX10 yX10_tells yX10_tells : Cond) ∈ ztb := zmem (i := 732) (by decide +kernel) rfl
theorem zt730 : (Cond.methodLink RL 116 yX10_tells : Cond) ∈ ztb := zmem (i := 730) (by decide +kernel) rfl
theorem zt733 : (Cond.code yX10_tells cX10_tells 5 (some .int) : Cond) ∈ ztb := zmem (i := 733) (by decide +kernel) rfl
theorem zt1255 : (Cond.instanceMethod yX11_tells : Cond) ∈ ztb := zmem (i := 1255) (by decide +kernel) rfl
theorem zt1256 : (Cond.selects RX11 yX11_tells yX11_tells : Cond) ∈ ztb := zmem (i := 1256) (by decide +kernel) rfl
theorem zt1254 : (Cond.methodLink RL 119 yX11_tells : Cond) ∈ ztb := zmem (i := 1254) (by decide +kernel) rfl
theorem zt1257 : (Cond.code yX11_tells cX11_tells 5 (some .int) : Cond) ∈ ztb := zmem (i := 1257) (by decide +kernel) rfl
theorem zt739 : (Cond.instanceMethod yX10_apart : Cond) ∈ ztb := zmem (i := 739) (by decide +kernel) rfl
theorem zt740 : (Cond.selects RX10 yX10_apart yX10_apart : Cond) ∈ ztb := zmem (i := 740) (by decide +kernel) rfl
theorem zt738 : (Cond.methodLink RL 120 yX10_apart : Cond) ∈ ztb := zmem (i := 738) (by decide +kernel) rfl
theorem zt741 : (Cond.code yX10_apart cX10_apart 4 (some .int) : Cond) ∈ ztb := zmem (i := 741) (by decide +kernel) rfl
theorem zt1263 : (Cond.instanceMethod yX11_apart : Cond) ∈ ztb := zmem (i := 1263) (by decide +kernel) rfl
theorem zt1264 : (Cond.selects RX11 yX11_apart yX11_apart : Cond) ∈ ztb := zmem (i := 1264) (by decide +kernel) rfl
theorem zt1262 : (Cond.methodLink RL 123 yX11_apart : Cond) ∈ ztb := zmem (i := 1262) (by decide +kernel) rfl
theorem zt1265 : (Cond.code yX11_apart cX11_apart 4 (some .int) : Cond) ∈ ztb := zmem (i := 1265) (by decide +kernel) rfl
theorem zt743 : (Cond.instanceMethod yX10_picture : Cond) ∈ ztb := zmem (i := 743) (by decide +kernel) rfl
theorem zt744 : (Cond.selects RX10 yX10_picture yX10_picture : Cond) ∈ ztb := zmem (i := 744) (by decide +kernel) rfl
theorem zt742 : (Cond.methodLink RL 124 yX10_picture : Cond) ∈ ztb := zmem (i := 742) (by decide +kernel) rfl
theorem zt745 : (Cond.code yX10_picture cX10_picture 3 (some .int) : Cond) ∈ ztb := zmem (i := 745) (by decide +kernel) rfl
theorem zt1267 : (Cond.instanceMethod yX11_picture : Cond) ∈ ztb := zmem (i := 1267) (by decide +kernel) rfl
theorem zt1268 : (Cond.selects RX11 yX11_picture yX11_picture : Cond) ∈ ztb := zmem (i := 1268) (by decide +kernel) rfl
theorem zt1266 : (Cond.methodLink RL 127 yX11_picture : Cond) ∈ ztb := zmem (i := 1266) (by decide +kernel) rfl
theorem zt1269 : (Cond.code yX11_picture cX11_picture 3 (some .int) : Cond) ∈ ztb := zmem (i := 1269) (by decide +kernel) rfl
theorem zt751 : (Cond.instanceMethod yX10_drag : Cond) ∈ ztb := zmem (i := 751) (by decide +kernel) rfl
theorem zt752 : (Cond.selects RX10 yX10_drag yX10_drag : Cond) ∈ ztb := zmem (i := 752) (by decide +kernel) rfl
theorem zt750 : (Cond.methodLink RL 128 yX10_drag : Cond) ∈ ztb := zmem (i := 750) (by decide +kernel) rfl
theorem zt753 : (Cond.code yX10_drag cX10_drag 1 (some .int) : Cond) ∈ ztb := zmem (i := 753) (by decide +kernel) rfl
theorem zt1271 : (Cond.instanceMethod yX11_drag : Cond) ∈ ztb := zmem (i := 1271) (by decide +kernel) rfl
theorem zt1272 : (Cond.selects RX11 yX11_drag yX11_drag : Cond) ∈ ztb := zmem (i := 1272) (by decide +kernel) rfl
theorem zt1270 : (Cond.methodLink RL 131 yX11_drag : Cond) ∈ ztb := zmem (i := 1270) (by decide +kernel) rfl
theorem zt1273 : (Cond.code yX11_drag cX11_drag 6 (some .int) : Cond) ∈ ztb := zmem (i := 1273) (by decide +kernel) rfl
theorem zt766 : (Cond.instanceMethod yX10_point : Cond) ∈ ztb := zmem (i := 766) (by decide +kernel) rfl
theorem zt767 : (Cond.selects RX10 yX10_point yX10_point : Cond) ∈ ztb := zmem (i := 767) (by decide +kernel) rfl
theorem zt765 : (Cond.methodLink RL 132 yX10_point : Cond) ∈ ztb := zmem (i := 765) (by decide +kernel) rfl
theorem zt768 : (Cond.code yX10_point cX10_point 5 (some .int) : Cond) ∈ ztb := zmem (i := 768) (by decide +kernel) rfl
theorem zt1275 : (Cond.instanceMethod yX11_point : Cond) ∈ ztb := zmem (i := 1275) (by decide +kernel) rfl
theorem zt1276 : (Cond.selects RX11 yX11_point yX11_point : Cond) ∈ ztb := zmem (i := 1276) (by decide +kernel) rfl
theorem zt1274 : (Cond.methodLink RL 136 yX11_point : Cond) ∈ ztb := zmem (i := 1274) (by decide +kernel) rfl
theorem zt1277 : (Cond.code yX11_point cX11_point 5 (some .int) : Cond) ∈ ztb := zmem (i := 1277) (by decide +kernel) rfl
theorem zt805 : (Cond.instanceMethod yX10_cuts : Cond) ∈ ztb := zmem (i := 805) (by decide +kernel) rfl
theorem zt806 : (Cond.selects RX10 yX10_cuts yX10_cuts : Cond) ∈ ztb := zmem (i := 806) (by decide +kernel) rfl
theorem zt804 : (Cond.methodLink RL 137 yX10_cuts : Cond) ∈ ztb := zmem (i := 804) (by decide +kernel) rfl
theorem zt807 : (Cond.code yX10_cuts cX10_cuts 4 (some .int) : Cond) ∈ ztb := zmem (i := 807) (by decide +kernel) rfl
theorem zt1298 : (Cond.instanceMethod yX11_cuts : Cond) ∈ ztb := zmem (i := 1298) (by decide +kernel) rfl
theorem zt1299 : (Cond.selects RX11 yX11_cuts yX11_cuts : Cond) ∈ ztb := zmem (i := 1299) (by decide +kernel) rfl
theorem zt1297 : (Cond.methodLink RL 140 yX11_cuts : Cond) ∈ ztb := zmem (i := 1297) (by decide +kernel) rfl
theorem zt1300 : (Cond.code yX11_cuts cX11_cuts 4 (some .int) : Cond) ∈ ztb := zmem (i := 1300) (by decide +kernel) rfl
theorem zt813 : (Cond.instanceMethod yX10_firstCut : Cond) ∈ ztb := zmem (i := 813) (by decide +kernel) rfl
theorem zt814 : (Cond.selects RX10 yX10_firstCut yX10_firstCut : Cond) ∈ ztb := zmem (i := 814) (by decide +kernel) rfl
theorem zt812 : (Cond.methodLink RL 141 yX10_firstCut : Cond) ∈ ztb := zmem (i := 812) (by decide +kernel) rfl
theorem zt815 : (Cond.code yX10_firstCut cX10_firstCut 4 (some .int) : Cond) ∈ ztb := zmem (i := 815) (by decide +kernel) rfl
theorem zt1302 : (Cond.instanceMethod yX11_firstCut : Cond) ∈ ztb := zmem (i := 1302) (by decide +kernel) rfl
theorem zt1303 : (Cond.selects RX11 yX11_firstCut yX11_firstCut : Cond) ∈ ztb := zmem (i := 1303) (by decide +kernel) rfl
theorem zt1301 : (Cond.methodLink RL 144 yX11_firstCut : Cond) ∈ ztb := zmem (i := 1301) (by decide +kernel) rfl
theorem zt1304 : (Cond.code yX11_firstCut cX11_firstCut 3 (some .int) : Cond) ∈ ztb := zmem (i := 1304) (by decide +kernel) rfl
theorem zt819 : (Cond.instanceMethod yX10_saves : Cond) ∈ ztb := zmem (i := 819) (by decide +kernel) rfl
theorem zt820 : (Cond.selects RX10 yX10_saves yX10_saves : Cond) ∈ ztb := zmem (i := 820) (by decide +kernel) rfl
theorem zt818 : (Cond.methodLink RL 145 yX10_saves : Cond) ∈ ztb := zmem (i := 818) (by decide +kernel) rfl
theorem zt821 : (Cond.code yX10_saves cX10_saves 10 (some .int) : Cond) ∈ ztb := zmem (i := 821) (by decide +kernel) rfl
theorem zt1306 : (Cond.instanceMethod yX11_saves : Cond) ∈ ztb := zmem (i := 1306) (by decide +kernel) rfl
theorem zt1307 : (Cond.selects RX11 yX11_saves yX11_saves : Cond) ∈ ztb := zmem (i := 1307) (by decide +kernel) rfl
theorem zt1305 : (Cond.methodLink RL 148 yX11_saves : Cond) ∈ ztb := zmem (i := 1305) (by decide +kernel) rfl
theorem zt1308 : (Cond.code yX11_saves cX11_saves 10 (some .int) : Cond) ∈ ztb := zmem (i := 1308) (by decide +kernel) rfl
theorem zt829 : (Cond.instanceMethod yX10_image : Cond) ∈ ztb := zmem (i := 829) (by decide +kernel) rfl
theorem zt830 : (Cond.selects RX10 yX10_image yX10_image : Cond) ∈ ztb := zmem (i := 830) (by decide +kernel) rfl
theorem zt828 : (Cond.methodLink RL 149 yX10_image : Cond) ∈ ztb := zmem (i := 828) (by decide +kernel) rfl
theorem zt831 : (Cond.code yX10_image cX10_image 1 (some .int) : Cond) ∈ ztb := zmem (i := 831) (by decide +kernel) rfl
theorem zt1310 : (Cond.instanceMethod yX11_image : Cond) ∈ ztb := zmem (i := 1310) (by decide +kernel) rfl
theorem zt1311 : (Cond.selects RX11 yX11_image yX11_image : Cond) ∈ ztb := zmem (i := 1311) (by decide +kernel) rfl
theorem zt1309 : (Cond.methodLink RL 152 yX11_image : Cond) ∈ ztb := zmem (i := 1309) (by decide +kernel) rfl
theorem zt1312 : (Cond.code yX11_image cX11_image 2 (some .int) : Cond) ∈ ztb := zmem (i := 1312) (by decide +kernel) rfl
theorem zt839 : (Cond.instanceMethod yX10_restore : Cond) ∈ ztb := zmem (i := 839) (by decide +kernel) rfl
theorem zt840 : (Cond.selects RX10 yX10_restore yX10_restore : Cond) ∈ ztb := zmem (i := 840) (by decide +kernel) rfl
theorem zt838 : (Cond.methodLink RL 153 yX10_restore : Cond) ∈ ztb := zmem (i := 838) (by decide +kernel) rfl
theorem zt841 : (Cond.code yX10_restore cX10_restore 1 (some .int) : Cond) ∈ ztb := zmem (i := 841) (by decide +kernel) rfl
theorem zt1314 : (Cond.instanceMethod yX11_restore : Cond) ∈ ztb := zmem (i := 1314) (by decide +kernel) rfl
theorem zt1315 : (Cond.selects RX11 yX11_restore yX11_restore : Cond) ∈ ztb := zmem (i := 1315) (by decide +kernel) rfl
theorem zt1313 : (Cond.methodLink RL 156 yX11_restore : Cond) ∈ ztb := zmem (i := 1313) (by decide +kernel) rfl
theorem zt1316 : (Cond.code yX11_restore cX11_restore 2 (some .int) : Cond) ∈ ztb := zmem (i := 1316) (by decide +kernel) rfl
theorem zt850 : (Cond.methodLink RL 157 yX10_count : Cond) ∈ ztb := zmem (i := 850) (by decide +kernel) rfl
theorem zt1318 : (Cond.instanceMethod yX11_count : Cond) ∈ ztb := zmem (i := 1318) (by decide +kernel) rfl
theorem zt1319 : (Cond.selects RX11 yX11_count yX11_count : Cond) ∈ ztb := zmem (i := 1319) (by decide +kernel) rfl
theorem zt1317 : (Cond.methodLink RL 160 yX11_count : Cond) ∈ ztb := zmem (i := 1317) (by decide +kernel) rfl
theorem zt1320 : (Cond.code yX11_count cX11_count 2 (some .int) : Cond) ∈ ztb := zmem (i := 1320) (by decide +kernel) rfl
theorem zt855 : (Cond.instanceMethod yX10_digest : Cond) ∈ ztb := zmem (i := 855) (by decide +kernel) rfl
theorem zt856 : (Cond.selects RX10 yX10_digest yX10_digest : Cond) ∈ ztb := zmem (i := 856) (by decide +kernel) rfl
theorem zt854 : (Cond.methodLink RL 161 yX10_digest : Cond) ∈ ztb := zmem (i := 854) (by decide +kernel) rfl
theorem zt857 : (Cond.code yX10_digest cX10_digest 4 (some .long) : Cond) ∈ ztb := zmem (i := 857) (by decide +kernel) rfl
theorem zt1326 : (Cond.instanceMethod yX11_digest : Cond) ∈ ztb := zmem (i := 1326) (by decide +kernel) rfl
theorem zt1327 : (Cond.selects RX11 yX11_digest yX11_digest : Cond) ∈ ztb := zmem (i := 1327) (by decide +kernel) rfl
theorem zt1325 : (Cond.methodLink RL 165 yX11_digest : Cond) ∈ ztb := zmem (i := 1325) (by decide +kernel) rfl
theorem zt1328 : (Cond.code yX11_digest cX11_digest 3 (some .long) : Cond) ∈ ztb := zmem (i := 1328) (by decide +kernel) rfl
theorem kw_L_7 : zNw RL 7 9 20 := ⟨_, _, zcl_X10, zt78, zt79, zt61⟩
theorem ki_L_9 : zLi RL 9 yX10_init cX10_init 2 0 := ⟨rfl, zt81, ⟨zt80, zt61, zt82, by decide +kernel, by decide +kernel, by decide +kernel⟩⟩
theorem kw_L_10 : zNw RL 10 10 51 := ⟨_, _, zcl_X11, zt886, zt887, zt72⟩
theorem ki_L_12 : zLi RL 12 yX11_init cX11_init 1 0 := ⟨rfl, zt889, ⟨zt888, zt72, zt890, by decide +kernel, by decide +kernel, by decide +kernel⟩⟩
theorem kv_L_15 : zLv RL 15 9 20 yX10_letters cX10_letters 3 (some .int) 1 := ⟨⟨_, rfl⟩, by decide, zt341, zt342, ⟨zt340, zt61, zt343, by decide +kernel, by decide +kernel, by decide +kernel⟩⟩
theorem kv_L_19 : zLv RL 19 10 51 yX11_letters cX11_letters 7 (some .int) 1 := ⟨⟨_, rfl⟩, by decide, zt1047, zt1048, ⟨zt1046, zt72, zt1049, by decide +kernel, by decide +kernel, by decide +kernel⟩⟩
theorem kv_L_20 : zLv RL 20 9 20 yX10_blank cX10_blank 1 (some .int) 0 := ⟨⟨_, rfl⟩, by decide, zt356, zt357, ⟨zt355, zt61, zt358, by decide +kernel, by decide +kernel, by decide +kernel⟩⟩
theorem kv_L_24 : zLv RL 24 10 51 yX11_blank cX11_blank 2 (some .int) 0 := ⟨⟨_, rfl⟩, by decide, zt1052, zt1053, ⟨zt1051, zt72, zt1054, by decide +kernel, by decide +kernel, by decide +kernel⟩⟩
theorem kv_L_25 : zLv RL 25 9 20 yX10_fault cX10_fault 2 (some .int) 1 := ⟨⟨_, rfl⟩, by decide, zt364, zt365, ⟨zt363, zt61, zt366, by decide +kernel, by decide +kernel, by decide +kernel⟩⟩
theorem kv_L_29 : zLv RL 29 10 51 yX11_fault cX11_fault 2 (some .int) 1 := ⟨⟨_, rfl⟩, by decide, zt1056, zt1057, ⟨zt1055, zt72, zt1058, by decide +kernel, by decide +kernel, by decide +kernel⟩⟩
theorem kv_L_30 : zLv RL 30 9 20 yX10_cup cX10_cup 3 (some .int) 0 := ⟨⟨_, rfl⟩, by decide, zt477, zt478, ⟨zt476, zt61, zt479, by decide +kernel, by decide +kernel, by decide +kernel⟩⟩
theorem kv_L_33 : zLv RL 33 10 51 yX11_cup cX11_cup 2 (some .int) 0 := ⟨⟨_, rfl⟩, by decide, zt1082, zt1083, ⟨zt1081, zt72, zt1084, by decide +kernel, by decide +kernel, by decide +kernel⟩⟩
theorem kv_L_34 : zLv RL 34 9 20 yX10_row cX10_row 2 (some .int) 0 := ⟨⟨_, rfl⟩, by decide, zt514, zt515, ⟨zt513, zt61, zt516, by decide +kernel, by decide +kernel, by decide +kernel⟩⟩
theorem kv_L_37 : zLv RL 37 10 51 yX11_row cX11_row 2 (some .int) 0 := ⟨⟨_, rfl⟩, by decide, zt1086, zt1087, ⟨zt1085, zt72, zt1088, by decide +kernel, by decide +kernel, by decide +kernel⟩⟩
theorem kv_L_38 : zLv RL 38 9 20 yX10_river cX10_river 2 (some .int) 0 := ⟨⟨_, rfl⟩, by decide, zt518, zt519, ⟨zt517, zt61, zt520, by decide +kernel, by decide +kernel, by decide +kernel⟩⟩
theorem kv_L_41 : zLv RL 41 10 51 yX11_river cX11_river 2 (some .int) 0 := ⟨⟨_, rfl⟩, by decide, zt1090, zt1091, ⟨zt1089, zt72, zt1092, by decide +kernel, by decide +kernel, by decide +kernel⟩⟩
theorem kv_L_42 : zLv RL 42 9 20 yX10_cupTold cX10_cupTold 2 (some .int) 1 := ⟨⟨_, rfl⟩, by decide, zt522, zt523, ⟨zt521, zt61, zt524, by decide +kernel, by decide +kernel, by decide +kernel⟩⟩
theorem kv_L_45 : zLv RL 45 10 51 yX11_cupTold cX11_cupTold 2 (some .int) 1 := ⟨⟨_, rfl⟩, by decide, zt1094, zt1095, ⟨zt1093, zt72, zt1096, by decide +kernel, by decide +kernel, by decide +kernel⟩⟩
theorem kv_L_46 : zLv RL 46 9 20 yX10_doing cX10_doing 3 (some .int) 2 := ⟨⟨_, rfl⟩, by decide, zt533, zt534, ⟨zt532, zt61, zt535, by decide +kernel, by decide +kernel, by decide +kernel⟩⟩
theorem kv_L_50 : zLv RL 50 10 51 yX11_doing cX11_doing 6 (some .int) 2 := ⟨⟨_, rfl⟩, by decide, zt1098, zt1099, ⟨zt1097, zt72, zt1100, by decide +kernel, by decide +kernel, by decide +kernel⟩⟩
theorem kv_L_51 : zLv RL 51 9 20 yX10_as cX10_as 3 (some .int) 2 := ⟨⟨_, rfl⟩, by decide, zt540, zt541, ⟨zt539, zt61, zt542, by decide +kernel, by decide +kernel, by decide +kernel⟩⟩
theorem kv_L_54 : zLv RL 54 10 51 yX11_as cX11_as 4 (some .int) 2 := ⟨⟨_, rfl⟩, by decide, zt1102, zt1103, ⟨zt1101, zt72, zt1104, by decide +kernel, by decide +kernel, by decide +kernel⟩⟩
theorem kv_L_55 : zLv RL 55 9 20 yX10_leaf cX10_leaf 5 (some .int) 3 := ⟨⟨_, rfl⟩, by decide, zt556, zt557, ⟨zt555, zt61, zt558, by decide +kernel, by decide +kernel, by decide +kernel⟩⟩
theorem kv_L_59 : zLv RL 59 10 51 yX11_leaf cX11_leaf 4 (some .int) 3 := ⟨⟨_, rfl⟩, by decide, zt1110, zt1111, ⟨zt1109, zt72, zt1112, by decide +kernel, by decide +kernel, by decide +kernel⟩⟩
theorem kv_L_60 : zLv RL 60 9 20 yX10_about cX10_about 3 (some .int) 2 := ⟨⟨_, rfl⟩, by decide, zt572, zt573, ⟨zt571, zt61, zt574, by decide +kernel, by decide +kernel, by decide +kernel⟩⟩
theorem kv_L_63 : zLv RL 63 10 51 yX11_about cX11_about 3 (some .int) 2 := ⟨⟨_, rfl⟩, by decide, zt1118, zt1119, ⟨zt1117, zt72, zt1120, by decide +kernel, by decide +kernel, by decide +kernel⟩⟩
theorem kv_L_64 : zLv RL 64 9 20 yX10_ticks cX10_ticks 5 (some .int) 2 := ⟨⟨_, rfl⟩, by decide, zt589, zt590, ⟨zt588, zt61, zt591, by decide +kernel, by decide +kernel, by decide +kernel⟩⟩
theorem kv_L_67 : zLv RL 67 10 51 yX11_ticks cX11_ticks 5 (some .int) 2 := ⟨⟨_, rfl⟩, by decide, zt1142, zt1143, ⟨zt1141, zt72, zt1144, by decide +kernel, by decide +kernel, by decide +kernel⟩⟩
theorem kv_L_68 : zLv RL 68 9 20 yX10_still cX10_still 1 (some .int) 0 := ⟨⟨_, rfl⟩, by decide, zt649, zt650, ⟨zt648, zt61, zt651, by decide +kernel, by decide +kernel, by decide +kernel⟩⟩
theorem kv_L_71 : zLv RL 71 10 51 yX11_still cX11_still 2 (some .int) 0 := ⟨⟨_, rfl⟩, by decide, zt1170, zt1171, ⟨zt1169, zt72, zt1172, by decide +kernel, by decide +kernel, by decide +kernel⟩⟩
theorem kv_L_72 : zLv RL 72 9 20 yX10_round cX10_round 3 (some .int) 2 := ⟨⟨_, rfl⟩, by decide, zt653, zt654, ⟨zt652, zt61, zt655, by decide +kernel, by decide +kernel, by decide +kernel⟩⟩
theorem kv_L_75 : zLv RL 75 10 51 yX11_round cX11_round 3 (some .int) 2 := ⟨⟨_, rfl⟩, by decide, zt1174, zt1175, ⟨zt1173, zt72, zt1176, by decide +kernel, by decide +kernel, by decide +kernel⟩⟩
theorem kv_L_76 : zLv RL 76 9 20 yX10_second cX10_second 2 (some .int) 1 := ⟨⟨_, rfl⟩, by decide, zt661, zt662, ⟨zt660, zt61, zt663, by decide +kernel, by decide +kernel, by decide +kernel⟩⟩
theorem kv_L_79 : zLv RL 79 10 51 yX11_second cX11_second 2 (some .int) 1 := ⟨⟨_, rfl⟩, by decide, zt1178, zt1179, ⟨zt1177, zt72, zt1180, by decide +kernel, by decide +kernel, by decide +kernel⟩⟩
theorem kv_L_80 : zLv RL 80 9 20 yX10_would cX10_would 4 (some .int) 3 := ⟨⟨_, rfl⟩, by decide, zt667, zt668, ⟨zt666, zt61, zt669, by decide +kernel, by decide +kernel, by decide +kernel⟩⟩
theorem kv_L_83 : zLv RL 83 10 51 yX11_would cX11_would 5 (some .int) 3 := ⟨⟨_, rfl⟩, by decide, zt1182, zt1183, ⟨zt1181, zt72, zt1184, by decide +kernel, by decide +kernel, by decide +kernel⟩⟩
theorem kv_L_84 : zLv RL 84 9 20 yX10_ends cX10_ends 3 (some .int) 2 := ⟨⟨_, rfl⟩, by decide, zt671, zt672, ⟨zt670, zt61, zt673, by decide +kernel, by decide +kernel, by decide +kernel⟩⟩
theorem kv_L_87 : zLv RL 87 10 51 yX11_ends cX11_ends 3 (some .int) 2 := ⟨⟨_, rfl⟩, by decide, zt1190, zt1191, ⟨zt1189, zt72, zt1192, by decide +kernel, by decide +kernel, by decide +kernel⟩⟩
theorem kv_L_88 : zLv RL 88 9 20 yX10_lies cX10_lies 4 (some .int) 2 := ⟨⟨_, rfl⟩, by decide, zt683, zt684, ⟨zt682, zt61, zt685, by decide +kernel, by decide +kernel, by decide +kernel⟩⟩
theorem kv_L_91 : zLv RL 91 10 51 yX11_lies cX11_lies 4 (some .int) 2 := ⟨⟨_, rfl⟩, by decide, zt1214, zt1215, ⟨zt1213, zt72, zt1216, by decide +kernel, by decide +kernel, by decide +kernel⟩⟩
theorem kv_L_92 : zLv RL 92 9 20 yX10_line cX10_line 5 (some .int) 3 := ⟨⟨_, rfl⟩, by decide, zt687, zt688, ⟨zt686, zt61, zt689, by decide +kernel, by decide +kernel, by decide +kernel⟩⟩
theorem kv_L_95 : zLv RL 95 10 51 yX11_line cX11_line 5 (some .int) 3 := ⟨⟨_, rfl⟩, by decide, zt1219, zt1220, ⟨zt1218, zt72, zt1221, by decide +kernel, by decide +kernel, by decide +kernel⟩⟩
theorem kv_L_96 : zLv RL 96 9 20 yX10_want cX10_want 4 (some .int) 2 := ⟨⟨_, rfl⟩, by decide, zt691, zt692, ⟨zt690, zt61, zt693, by decide +kernel, by decide +kernel, by decide +kernel⟩⟩
theorem kv_L_99 : zLv RL 99 10 51 yX11_want cX11_want 4 (some .int) 2 := ⟨⟨_, rfl⟩, by decide, zt1227, zt1228, ⟨zt1226, zt72, zt1229, by decide +kernel, by decide +kernel, by decide +kernel⟩⟩
theorem kv_L_100 : zLv RL 100 9 20 yX10_off cX10_off 2 (some .int) 1 := ⟨⟨_, rfl⟩, by decide, zt695, zt696, ⟨zt694, zt61, zt697, by decide +kernel, by decide +kernel, by decide +kernel⟩⟩
theorem kv_L_103 : zLv RL 103 10 51 yX11_off cX11_off 2 (some .int) 1 := ⟨⟨_, rfl⟩, by decide, zt1231, zt1232, ⟨zt1230, zt72, zt1233, by decide +kernel, by decide +kernel, by decide +kernel⟩⟩
theorem kv_L_104 : zLv RL 104 9 20 yX10_found cX10_found 9 (some .int) 1 := ⟨⟨_, rfl⟩, by decide, zt710, zt711, ⟨zt709, zt61, zt712, by decide +kernel, by decide +kernel, by decide +kernel⟩⟩
theorem kv_L_107 : zLv RL 107 10 51 yX11_found cX11_found 5 (some .int) 1 := ⟨⟨_, rfl⟩, by decide, zt1242, zt1243, ⟨zt1241, zt72, zt1244, by decide +kernel, by decide +kernel, by decide +kernel⟩⟩
theorem kv_L_108 : zLv RL 108 9 20 yX10_seen cX10_seen 4 (some .int) 2 := ⟨⟨_, rfl⟩, by decide, zt719, zt720, ⟨zt718, zt61, zt721, by decide +kernel, by decide +kernel, by decide +kernel⟩⟩
theorem kv_L_111 : zLv RL 111 10 51 yX11_seen cX11_seen 4 (some .int) 2 := ⟨⟨_, rfl⟩, by decide, zt1247, zt1248, ⟨zt1246, zt72, zt1249, by decide +kernel, by decide +kernel, by decide +kernel⟩⟩
theorem kv_L_112 : zLv RL 112 9 20 yX10_read cX10_read 3 (some .int) 0 := ⟨⟨_, rfl⟩, by decide, zt723, zt724, ⟨zt722, zt61, zt725, by decide +kernel, by decide +kernel, by decide +kernel⟩⟩
theorem kv_L_115 : zLv RL 115 10 51 yX11_read cX11_read 5 (some .int) 0 := ⟨⟨_, rfl⟩, by decide, zt1251, zt1252, ⟨zt1250, zt72, zt1253, by decide +kernel, by decide +kernel, by decide +kernel⟩⟩
theorem kv_L_116 : zLv RL 116 9 20 yX10_tells cX10_tells 5 (some .int) 0 := ⟨⟨_, rfl⟩, by decide, zt731, zt732, ⟨zt730, zt61, zt733, by decide +kernel, by decide +kernel, by decide +kernel⟩⟩
theorem kv_L_119 : zLv RL 119 10 51 yX11_tells cX11_tells 5 (some .int) 0 := ⟨⟨_, rfl⟩, by decide, zt1255, zt1256, ⟨zt1254, zt72, zt1257, by decide +kernel, by decide +kernel, by decide +kernel⟩⟩
theorem kv_L_120 : zLv RL 120 9 20 yX10_apart cX10_apart 4 (some .int) 3 := ⟨⟨_, rfl⟩, by decide, zt739, zt740, ⟨zt738, zt61, zt741, by decide +kernel, by decide +kernel, by decide +kernel⟩⟩
theorem kv_L_123 : zLv RL 123 10 51 yX11_apart cX11_apart 4 (some .int) 3 := ⟨⟨_, rfl⟩, by decide, zt1263, zt1264, ⟨zt1262, zt72, zt1265, by decide +kernel, by decide +kernel, by decide +kernel⟩⟩
theorem kv_L_124 : zLv RL 124 9 20 yX10_picture cX10_picture 3 (some .int) 2 := ⟨⟨_, rfl⟩, by decide, zt743, zt744, ⟨zt742, zt61, zt745, by decide +kernel, by decide +kernel, by decide +kernel⟩⟩
theorem kv_L_127 : zLv RL 127 10 51 yX11_picture cX11_picture 3 (some .int) 2 := ⟨⟨_, rfl⟩, by decide, zt1267, zt1268, ⟨zt1266, zt72, zt1269, by decide +kernel, by decide +kernel, by decide +kernel⟩⟩
theorem kv_L_128 : zLv RL 128 9 20 yX10_drag cX10_drag 1 (some .int) 0 := ⟨⟨_, rfl⟩, by decide, zt751, zt752, ⟨zt750, zt61, zt753, by decide +kernel, by decide +kernel, by decide +kernel⟩⟩
theorem kv_L_131 : zLv RL 131 10 51 yX11_drag cX11_drag 6 (some .int) 0 := ⟨⟨_, rfl⟩, by decide, zt1271, zt1272, ⟨zt1270, zt72, zt1273, by decide +kernel, by decide +kernel, by decide +kernel⟩⟩
theorem kv_L_132 : zLv RL 132 9 20 yX10_point cX10_point 5 (some .int) 4 := ⟨⟨_, rfl⟩, by decide, zt766, zt767, ⟨zt765, zt61, zt768, by decide +kernel, by decide +kernel, by decide +kernel⟩⟩
theorem kv_L_136 : zLv RL 136 10 51 yX11_point cX11_point 5 (some .int) 4 := ⟨⟨_, rfl⟩, by decide, zt1275, zt1276, ⟨zt1274, zt72, zt1277, by decide +kernel, by decide +kernel, by decide +kernel⟩⟩
theorem kv_L_137 : zLv RL 137 9 20 yX10_cuts cX10_cuts 4 (some .int) 3 := ⟨⟨_, rfl⟩, by decide, zt805, zt806, ⟨zt804, zt61, zt807, by decide +kernel, by decide +kernel, by decide +kernel⟩⟩
theorem kv_L_140 : zLv RL 140 10 51 yX11_cuts cX11_cuts 4 (some .int) 3 := ⟨⟨_, rfl⟩, by decide, zt1298, zt1299, ⟨zt1297, zt72, zt1300, by decide +kernel, by decide +kernel, by decide +kernel⟩⟩
theorem kv_L_141 : zLv RL 141 9 20 yX10_firstCut cX10_firstCut 4 (some .int) 2 := ⟨⟨_, rfl⟩, by decide, zt813, zt814, ⟨zt812, zt61, zt815, by decide +kernel, by decide +kernel, by decide +kernel⟩⟩
theorem kv_L_144 : zLv RL 144 10 51 yX11_firstCut cX11_firstCut 3 (some .int) 2 := ⟨⟨_, rfl⟩, by decide, zt1302, zt1303, ⟨zt1301, zt72, zt1304, by decide +kernel, by decide +kernel, by decide +kernel⟩⟩
theorem kv_L_145 : zLv RL 145 9 20 yX10_saves cX10_saves 10 (some .int) 3 := ⟨⟨_, rfl⟩, by decide, zt819, zt820, ⟨zt818, zt61, zt821, by decide +kernel, by decide +kernel, by decide +kernel⟩⟩
theorem kv_L_148 : zLv RL 148 10 51 yX11_saves cX11_saves 10 (some .int) 3 := ⟨⟨_, rfl⟩, by decide, zt1306, zt1307, ⟨zt1305, zt72, zt1308, by decide +kernel, by decide +kernel, by decide +kernel⟩⟩
theorem kv_L_149 : zLv RL 149 9 20 yX10_image cX10_image 1 (some .int) 0 := ⟨⟨_, rfl⟩, by decide, zt829, zt830, ⟨zt828, zt61, zt831, by decide +kernel, by decide +kernel, by decide +kernel⟩⟩
theorem kv_L_152 : zLv RL 152 10 51 yX11_image cX11_image 2 (some .int) 0 := ⟨⟨_, rfl⟩, by decide, zt1310, zt1311, ⟨zt1309, zt72, zt1312, by decide +kernel, by decide +kernel, by decide +kernel⟩⟩
theorem kv_L_153 : zLv RL 153 9 20 yX10_restore cX10_restore 1 (some .int) 0 := ⟨⟨_, rfl⟩, by decide, zt839, zt840, ⟨zt838, zt61, zt841, by decide +kernel, by decide +kernel, by decide +kernel⟩⟩
theorem kv_L_156 : zLv RL 156 10 51 yX11_restore cX11_restore 2 (some .int) 0 := ⟨⟨_, rfl⟩, by decide, zt1314, zt1315, ⟨zt1313, zt72, zt1316, by decide +kernel, by decide +kernel, by decide +kernel⟩⟩
theorem kv_L_157 : zLv RL 157 9 20 yX10_count cX10_count 2 (some .int) 1 := ⟨⟨_, rfl⟩, by decide, zt851, zt852, ⟨zt850, zt61, zt853, by decide +kernel, by decide +kernel, by decide +kernel⟩⟩
theorem kv_L_160 : zLv RL 160 10 51 yX11_count cX11_count 2 (some .int) 1 := ⟨⟨_, rfl⟩, by decide, zt1318, zt1319, ⟨zt1317, zt72, zt1320, by decide +kernel, by decide +kernel, by decide +kernel⟩⟩
theorem kv_L_161 : zLv RL 161 9 20 yX10_digest cX10_digest 4 (some .long) 0 := ⟨⟨_, rfl⟩, by decide, zt855, zt856, ⟨zt854, zt61, zt857, by decide +kernel, by decide +kernel, by decide +kernel⟩⟩
theorem kv_L_165 : zLv RL 165 10 51 yX11_digest cX11_digest 3 (some .long) 0 := ⟨⟨_, rfl⟩, by decide, zt1326, zt1327, ⟨zt1325, zt72, zt1328, by decide +kernel, by decide +kernel, by decide +kernel⟩⟩
section ZRL
variable {p : Program} {l : Launch} {e : Env} {R : Room} {s : State} {m : MethodId} {args : Array Value} {below : List Frame} {meth : Method} {c : Code} {E : zE} {nL : Nat} {Q : State → Prop} {cells slots pc : Nat} {lo : List (Nat × Value)} {st : List Value} {h : zH} {cc : ByteArray} {own : String} {β : Type} {res : β}
theorem zr_sld (C : zC p s m args meth c cc nL own E) {b L : Nat} {xs : Nat → Int32} {i : Int32} {k : Int32 → Option β} (hf : zsx xs L i k = some res) (hX : va_X b L xs s E.2.2.1) (hbl : b < zB E) (hdg : decode cc pc = .ok (.iaload, 1)) (kk : ∀ x : Int32, k x = some res → zW p l e R s m args below meth c E nL Q cells slots (pc + 1) lo (.int x :: st) h) : zW p l e R s m args below meth c E nL Q cells slots pc lo (.int i :: .ref b :: st) h := by
  intro H locs ls hRp hL hlo
  obtain ⟨⟨h0, h1⟩, hf⟩ := zif hf
  obtain ⟨scr, g1, g2, g3, g4, g5⟩ := hX
  exact W.iald (v := .int (xs i.toNatClampNeg)) C.1 C.2.1 (by rw [hRp.2.1 b hbl]; exact g1) g2 g3 (fun z => z.elim h0 (fun z => by omega)) (g5 _ h1) rfl rfl hdg (kk _ hf H locs ls hRp hL hlo)
theorem zr_slen (C : zC p s m args meth c cc nL own E) {b L : Nat} {xs : Nat → Int32} {k : Int32 → Option β} (hf : zv (Int32.ofNat L) k = some res) (hX : va_X b L xs s E.2.2.1) (hbl : b < zB E) (hdg : decode cc pc = .ok (.arraylength, 1)) (kk : ∀ x : Int32, k x = some res → zW p l e R s m args below meth c E nL Q cells slots (pc + 1) lo (.int x :: st) h) : zW p l e R s m args below meth c E nL Q cells slots pc lo (.ref b :: st) h := by
  intro H locs ls hRp hL hlo
  obtain ⟨scr, g1, g2, g3, g4, g5⟩ := hX
  exact W.alen (n := Int32.ofNat L) C.1 C.2.1 (by rw [hRp.2.1 b hbl]; exact g1) g2 (by rw [g4] <;> rfl) rfl rfl hdg (kk _ hf H locs ls hRp hL hlo)
theorem zr_lawret {b : Nat} (C : zC p s m #[Value.ref b] meth c code 4 own E) (hr : meth.sig.returnType = ret) (hgo : zB E = s.heap.size) (h1 : cells ≤ 866946) (h2 : slots ≤ 6501410) (hdg : decode code pc = .ok (.ireturn, 1)) : zW p l e room_1 s m #[Value.ref b] below meth c E 4 (lw_Z below #[Value.ref b] s) cells slots pc lo [.int 1] h := by
  intro H locs ls hRp hL hlo
  refine va_forget (fun q hq => by rw [← hgo]; exact hL q hq) ?_
  exact W.widen h1 h2 (lw_ret C.1 C.2.1 hr C.2.2.2.2.2.2 hdg)
end ZRL
