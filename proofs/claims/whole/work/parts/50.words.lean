theorem gi_nil {big : List Cond} : GoodIn big [] := fun w h => by cases h
theorem gi_cons {big : List Cond} {w : Cond} {ws : List Cond} (h : GoodIn big [w]) (t : GoodIn big ws) : GoodIn big (w :: ws) := fun x hx => (List.mem_cons.mp hx).elim (fun e => by rw [e]; exact h w List.mem_cons_self) (t x)
set_option maxRecDepth 20000 in
theorem gc_X0 : GoodIn lw_tbl wsX00 := goodIn_r _ [260, 262, 264, 266, 268, 270] (by decide +kernel) (by decide +kernel)
theorem wsL_X0_in : ∀ w ∈ wsX00, w ∈ lw_tbl := fun w h => (gc_X0 w h).1
set_option maxRecDepth 20000 in
theorem gc_X1 : GoodIn lw_tbl wsX10 := goodIn_r _ [329, 331, 333, 335] (by decide +kernel) (by decide +kernel)
theorem wsL_X1_in : ∀ w ∈ wsX10, w ∈ lw_tbl := fun w h => (gc_X1 w h).1
set_option maxRecDepth 20000 in
theorem gc_X2 : GoodIn lw_tbl wsX20 := goodIn_r _ [352, 354, 356, 358, 360] (by decide +kernel) (by decide +kernel)
theorem wsL_X2_in : ∀ w ∈ wsX20, w ∈ lw_tbl := fun w h => (gc_X2 w h).1
set_option maxRecDepth 20000 in
theorem gc_X3 : GoodIn lw_tbl wsX30 := goodIn_r _ [197] (by decide +kernel) (by decide +kernel)
theorem wsL_X3_in : ∀ w ∈ wsX30, w ∈ lw_tbl := fun w h => (gc_X3 w h).1
set_option maxRecDepth 20000 in
theorem gc_X4 : GoodIn lw_tbl wsX40 := goodIn_r _ [161, 163, 165, 167, 169, 171, 173, 175, 177, 179, 181, 183, 185, 187] (by decide +kernel) (by decide +kernel)
theorem wsL_X4_in : ∀ w ∈ wsX40, w ∈ lw_tbl := fun w h => (gc_X4 w h).1
set_option maxRecDepth 20000 in
theorem gc_X5 : GoodIn lw_tbl wsX50 := goodIn_r _ [295, 297, 299, 301, 303, 305, 307, 309, 311, 313, 315] (by decide +kernel) (by decide +kernel)
theorem wsL_X5_in : ∀ w ∈ wsX50, w ∈ lw_tbl := fun w h => (gc_X5 w h).1
set_option maxRecDepth 20000 in
theorem gc_X6 : GoodIn lw_tbl wsX60 := goodIn_r _ [222, 224, 226, 228, 230, 232, 234, 236, 238, 240, 242, 244] (by decide +kernel) (by decide +kernel)
theorem wsL_X6_in : ∀ w ∈ wsX60, w ∈ lw_tbl := fun w h => (gc_X6 w h).1
set_option maxRecDepth 20000 in
theorem gc_X7 : GoodIn lw_tbl wsX70 := goodIn_r _ [118, 120, 122, 124, 126, 128, 130, 132, 134] (by decide +kernel) (by decide +kernel)
theorem wsL_X7_in : ∀ w ∈ wsX70, w ∈ lw_tbl := fun w h => (gc_X7 w h).1
set_option maxRecDepth 20000 in
theorem gc_X8 : GoodIn lw_tbl wsX80 := goodIn_r _ [376, 378, 380, 382, 384, 386, 388, 390, 392, 394, 396, 398, 400] (by decide +kernel) (by decide +kernel)
theorem wsL_X8_in : ∀ w ∈ wsX80, w ∈ lw_tbl := fun w h => (gc_X8 w h).1
set_option maxRecDepth 20000 in
theorem gc_X9 : GoodIn lw_tbl wsX90 := goodIn_r _ [1014, 1016, 1018, 1020, 1022, 1024, 1026, 1028, 1030, 1032, 1034] (by decide +kernel) (by decide +kernel)
theorem wsL_X9_in : ∀ w ∈ wsX90, w ∈ lw_tbl := fun w h => (gc_X9 w h).1
set_option maxRecDepth 20000 in
theorem gc_X10 : GoodIn lw_tbl wsX100 := goodIn_r _ [927, 929, 931, 933, 935, 982, 974, 976] (by decide +kernel) (by decide +kernel)
theorem wsL_X10_in : ∀ w ∈ wsX100, w ∈ lw_tbl := fun w h => (gc_X10 w h).1
set_option maxRecDepth 20000 in
theorem gc_X11 : GoodIn lw_tbl wsX110 := goodIn_r _ [1105, 1107, 1109, 1111, 1113, 1115, 1117, 1119, 1121, 1123, 1125, 1127, 1129, 1131, 1133, 1135, 1137, 1139, 1141, 1143, 1145, 1147, 1149, 1151, 1153, 1155, 1157, 1159, 1161, 1163, 1165, 1167, 1169, 1171, 1173, 1175, 1177, 1179, 1181, 1183, 1185, 1187, 1189, 1191, 1193, 1195, 1197, 1199, 1201, 1203, 1205, 1207, 1209, 1211, 1213, 1215, 1217, 1219, 1221, 1223, 1225, 1227, 1229, 1231, 1233, 1235, 1237, 1239] (by decide +kernel) (by decide +kernel)
theorem wsL_X11_in : ∀ w ∈ wsX110, w ∈ lw_tbl := fun w h => (gc_X11 w h).1
set_option maxRecDepth 20000 in
theorem pw_0 : GoodIn lw_tbl [Cond.code yX8_fact cX8_fact 1 (some .int)] := goodIn_r _ [406] (by decide +kernel) (by decide +kernel)
set_option maxRecDepth 20000 in
theorem pw_1 : GoodIn lw_tbl [Cond.code yX8_accept cX8_accept 2 (some .int)] := goodIn_r _ [414] (by decide +kernel) (by decide +kernel)
set_option maxRecDepth 20000 in
theorem pw_2 : GoodIn lw_tbl [Cond.selects RX8 yX8_accept yX8_accept] := goodIn_r _ [1] (by decide +kernel) (by decide +kernel)
set_option maxRecDepth 20000 in
theorem pw_3 : GoodIn lw_tbl [Cond.instanceMethod yX8_accept] := goodIn_r _ [413] (by decide +kernel) (by decide +kernel)
set_option maxRecDepth 20000 in
theorem pw_4 : GoodIn lw_tbl [Cond.methodLink RX8 91 yX8_accept] := goodIn_r _ [411] (by decide +kernel) (by decide +kernel)
set_option maxRecDepth 20000 in
theorem pw_5 : GoodIn lw_tbl [Cond.fieldLink RX8 80 "NightBook" "trouble" "I"] := goodIn_r _ [375] (by decide +kernel) (by decide +kernel)
set_option maxRecDepth 20000 in
theorem pw_6 : GoodIn lw_tbl [Cond.code yX8_refuse cX8_refuse 2 (some .int)] := goodIn_r _ [410] (by decide +kernel) (by decide +kernel)
set_option maxRecDepth 20000 in
theorem pw_7 : GoodIn lw_tbl [Cond.initialized RX8] := goodIn_r _ [61] (by decide +kernel) (by decide +kernel)
set_option maxRecDepth 20000 in
theorem pw_8 : GoodIn lw_tbl [Cond.selects RX8 yX8_refuse yX8_refuse] := goodIn_r _ [0] (by decide +kernel) (by decide +kernel)
set_option maxRecDepth 20000 in
theorem pw_9 : GoodIn lw_tbl [Cond.instanceMethod yX8_refuse] := goodIn_r _ [409] (by decide +kernel) (by decide +kernel)
set_option maxRecDepth 20000 in
theorem pw_10 : GoodIn lw_tbl [Cond.methodLink RX8 87 yX8_refuse] := goodIn_r _ [407] (by decide +kernel) (by decide +kernel)
set_option maxRecDepth 20000 in
theorem pw_11 : GoodIn lw_tbl [Cond.fieldLink RX8 12 "NightBook" "world" "LNightBook$World;"] := goodIn_r _ [363] (by decide +kernel) (by decide +kernel)
set_option maxRecDepth 20000 in
theorem pw_12 : GoodIn lw_tbl [Cond.code yX11_fact cX11_fact 1 (some .int)] := goodIn_r _ [1245] (by decide +kernel) (by decide +kernel)
set_option maxRecDepth 20000 in
theorem pw_13 : GoodIn lw_tbl [Cond.code yX11_done cX11_done 2 (some .int)] := goodIn_r _ [1253] (by decide +kernel) (by decide +kernel)
set_option maxRecDepth 20000 in
theorem pw_14 : GoodIn lw_tbl [Cond.selects RX11 yX11_done yX11_done] := goodIn_r _ [33] (by decide +kernel) (by decide +kernel)
set_option maxRecDepth 20000 in
theorem pw_15 : GoodIn lw_tbl [Cond.instanceMethod yX11_done] := goodIn_r _ [1252] (by decide +kernel) (by decide +kernel)
set_option maxRecDepth 20000 in
theorem pw_16 : GoodIn lw_tbl [Cond.methodLink RX11 130 yX11_done] := goodIn_r _ [1250] (by decide +kernel) (by decide +kernel)
set_option maxRecDepth 20000 in
theorem pw_17 : GoodIn lw_tbl [Cond.fieldLink RX11 9 "NightBookModel" "where" "I"] := goodIn_r _ [1040] (by decide +kernel) (by decide +kernel)
set_option maxRecDepth 20000 in
theorem pw_18 : GoodIn lw_tbl [Cond.fieldLink RX11 120 "NightBookModel" "trouble" "I"] := goodIn_r _ [1039] (by decide +kernel) (by decide +kernel)
set_option maxRecDepth 20000 in
theorem pw_19 : GoodIn lw_tbl [Cond.code yX11_refused cX11_refused 2 (some .int)] := goodIn_r _ [1249] (by decide +kernel) (by decide +kernel)
set_option maxRecDepth 20000 in
theorem pw_20 : GoodIn lw_tbl [Cond.initialized RX11] := goodIn_r _ [70] (by decide +kernel) (by decide +kernel)
set_option maxRecDepth 20000 in
theorem pw_21 : GoodIn lw_tbl [Cond.selects RX11 yX11_refused yX11_refused] := goodIn_r _ [32] (by decide +kernel) (by decide +kernel)
set_option maxRecDepth 20000 in
theorem pw_22 : GoodIn lw_tbl [Cond.instanceMethod yX11_refused] := goodIn_r _ [1248] (by decide +kernel) (by decide +kernel)
set_option maxRecDepth 20000 in
theorem pw_23 : GoodIn lw_tbl [Cond.methodLink RX11 126 yX11_refused] := goodIn_r _ [1246] (by decide +kernel) (by decide +kernel)
set_option maxRecDepth 20000 in
theorem pw_24 : GoodIn lw_tbl [Cond.fieldLink RX11 123 "NightBookModel" "facts" "I"] := goodIn_r _ [1042] (by decide +kernel) (by decide +kernel)
set_option maxRecDepth 20000 in
theorem pw_25 : GoodIn lw_tbl [Cond.fieldLink RX11 117 "NightBookModel" "thrown" "I"] := goodIn_r _ [1038] (by decide +kernel) (by decide +kernel)
set_option maxRecDepth 20000 in
theorem pw_26 : GoodIn lw_tbl [Cond.code yX8_sign cX8_sign 3 (some .int)] := goodIn_r _ [418] (by decide +kernel) (by decide +kernel)
set_option maxRecDepth 20000 in
theorem pw_27 : GoodIn lw_tbl [Cond.code yX11_sign cX11_sign 2 (some .int)] := goodIn_r _ [1257] (by decide +kernel) (by decide +kernel)
set_option maxRecDepth 20000 in
theorem pw_28 : GoodIn lw_tbl [Cond.fieldLink RX11 16 "NightBookModel" "signFact" "[I"] := goodIn_r _ [1047] (by decide +kernel) (by decide +kernel)
set_option maxRecDepth 20000 in
theorem pw_29 : GoodIn lw_tbl [Cond.fieldLink RX11 133 "NightBookModel" "signs" "I"] := goodIn_r _ [1043] (by decide +kernel) (by decide +kernel)
set_option maxRecDepth 20000 in
theorem pw_30 : GoodIn lw_tbl [Cond.code yX8_person cX8_person 3 (some .int)] := goodIn_r _ [422] (by decide +kernel) (by decide +kernel)
set_option maxRecDepth 20000 in
theorem pw_31 : GoodIn lw_tbl [Cond.fieldLink RX7 31 "NightBook$World" "skills" "[I"] := goodIn_r _ [114] (by decide +kernel) (by decide +kernel)
set_option maxRecDepth 20000 in
theorem pw_32 : GoodIn lw_tbl [Cond.code yX7_setSkills cX7_setSkills 3 none] := goodIn_r _ [429] (by decide +kernel) (by decide +kernel)
set_option maxRecDepth 20000 in
theorem pw_33 : GoodIn lw_tbl [Cond.initialized RX7] := goodIn_r _ [62] (by decide +kernel) (by decide +kernel)
set_option maxRecDepth 20000 in
theorem pw_34 : GoodIn lw_tbl [Cond.selects RX7 yX7_setSkills yX7_setSkills] := goodIn_r _ [428] (by decide +kernel) (by decide +kernel)
set_option maxRecDepth 20000 in
theorem pw_35 : GoodIn lw_tbl [Cond.instanceMethod yX7_setSkills] := goodIn_r _ [427] (by decide +kernel) (by decide +kernel)
set_option maxRecDepth 20000 in
theorem pw_36 : GoodIn lw_tbl [Cond.methodLink RX8 107 yX7_setSkills] := goodIn_r _ [426] (by decide +kernel) (by decide +kernel)
set_option maxRecDepth 20000 in
theorem pw_37 : GoodIn lw_tbl [Cond.code yX8_areBits cX8_areBits 1 (some .boolean)] := goodIn_r _ [425] (by decide +kernel) (by decide +kernel)
set_option maxRecDepth 20000 in
theorem pw_38 : GoodIn lw_tbl [Cond.static yX8_areBits] := goodIn_r _ [424] (by decide +kernel) (by decide +kernel)
set_option maxRecDepth 20000 in
theorem pw_39 : GoodIn lw_tbl [Cond.methodLink RX8 100 yX8_areBits] := goodIn_r _ [423] (by decide +kernel) (by decide +kernel)
set_option maxRecDepth 20000 in
theorem pw_40 : GoodIn lw_tbl [Cond.code yX11_person cX11_person 2 (some .int)] := goodIn_r _ [1261] (by decide +kernel) (by decide +kernel)
set_option maxRecDepth 20000 in
theorem pw_41 : GoodIn lw_tbl [Cond.code yX11_in cX11_in 3 (some .boolean)] := goodIn_r _ [1264] (by decide +kernel) (by decide +kernel)
set_option maxRecDepth 20000 in
theorem pw_42 : GoodIn lw_tbl [Cond.static yX11_in] := goodIn_r _ [1263] (by decide +kernel) (by decide +kernel)
set_option maxRecDepth 20000 in
theorem pw_43 : GoodIn lw_tbl [Cond.methodLink RX11 136 yX11_in] := goodIn_r _ [1262] (by decide +kernel) (by decide +kernel)
set_option maxRecDepth 20000 in
theorem pw_44 : GoodIn lw_tbl [Cond.fieldLink RX11 20 "NightBookModel" "skills" "[I"] := goodIn_r _ [1048] (by decide +kernel) (by decide +kernel)
set_option maxRecDepth 20000 in
theorem pw_45 : GoodIn lw_tbl [Cond.fieldLink RX11 140 "NightBookModel" "people" "I"] := goodIn_r _ [1044] (by decide +kernel) (by decide +kernel)
set_option maxRecDepth 20000 in
theorem pw_46 : GoodIn lw_tbl [Cond.code yX8_goal cX8_goal 2 (some .boolean)] := goodIn_r _ [433] (by decide +kernel) (by decide +kernel)
set_option maxRecDepth 20000 in
theorem pw_47 : GoodIn lw_tbl [Cond.code yX11_goal cX11_goal 2 (some .boolean)] := goodIn_r _ [1268] (by decide +kernel) (by decide +kernel)
set_option maxRecDepth 20000 in
theorem pw_48 : GoodIn lw_tbl [Cond.fieldLink RX11 13 "NightBookModel" "goal" "I"] := goodIn_r _ [1046] (by decide +kernel) (by decide +kernel)
set_option maxRecDepth 20000 in
theorem pw_49 : GoodIn lw_tbl [Cond.code yX8_feed cX8_feed 6 (some .int)] := goodIn_r _ [437] (by decide +kernel) (by decide +kernel)
set_option maxRecDepth 20000 in
theorem pw_50 : GoodIn lw_tbl [Cond.fieldLink RX4 9 "NightBook$Reader" "tape" "[I"] := goodIn_r _ [144] (by decide +kernel) (by decide +kernel)
set_option maxRecDepth 20000 in
theorem pw_51 : GoodIn lw_tbl [Cond.code yX4_put cX4_put 3 none] := goodIn_r _ [445] (by decide +kernel) (by decide +kernel)
set_option maxRecDepth 20000 in
theorem pw_52 : GoodIn lw_tbl [Cond.selects RX4 yX4_put yX4_put] := goodIn_r _ [444] (by decide +kernel) (by decide +kernel)
set_option maxRecDepth 20000 in
theorem pw_53 : GoodIn lw_tbl [Cond.instanceMethod yX4_put] := goodIn_r _ [443] (by decide +kernel) (by decide +kernel)
set_option maxRecDepth 20000 in
theorem pw_54 : GoodIn lw_tbl [Cond.methodLink RX8 117 yX4_put] := goodIn_r _ [442] (by decide +kernel) (by decide +kernel)
set_option maxRecDepth 20000 in
theorem pw_55 : GoodIn lw_tbl [Cond.fieldLink RX4 15 "NightBook$Reader" "held" "I"] := goodIn_r _ [145] (by decide +kernel) (by decide +kernel)
set_option maxRecDepth 20000 in
theorem pw_56 : GoodIn lw_tbl [Cond.code yX4_hasRoomFor cX4_hasRoomFor 2 (some .boolean)] := goodIn_r _ [441] (by decide +kernel) (by decide +kernel)
set_option maxRecDepth 20000 in
theorem pw_57 : GoodIn lw_tbl [Cond.initialized RX4] := goodIn_r _ [63] (by decide +kernel) (by decide +kernel)
set_option maxRecDepth 20000 in
theorem pw_58 : GoodIn lw_tbl [Cond.selects RX4 yX4_hasRoomFor yX4_hasRoomFor] := goodIn_r _ [440] (by decide +kernel) (by decide +kernel)
set_option maxRecDepth 20000 in
theorem pw_59 : GoodIn lw_tbl [Cond.instanceMethod yX4_hasRoomFor] := goodIn_r _ [439] (by decide +kernel) (by decide +kernel)
set_option maxRecDepth 20000 in
theorem pw_60 : GoodIn lw_tbl [Cond.methodLink RX8 114 yX4_hasRoomFor] := goodIn_r _ [438] (by decide +kernel) (by decide +kernel)
set_option maxRecDepth 20000 in
theorem pw_61 : GoodIn lw_tbl [Cond.fieldLink RX8 19 "NightBook" "reader" "LNightBook$Reader;"] := goodIn_r _ [364] (by decide +kernel) (by decide +kernel)
set_option maxRecDepth 20000 in
theorem pw_62 : GoodIn lw_tbl [Cond.code yX11_feed cX11_feed 8 (some .int)] := goodIn_r _ [1272] (by decide +kernel) (by decide +kernel)
set_option maxRecDepth 20000 in
theorem pw_63 : GoodIn lw_tbl [Cond.fieldLink RX11 48 "NightBookModel" "tape" "[B"] := goodIn_r _ [1056] (by decide +kernel) (by decide +kernel)
set_option maxRecDepth 20000 in
theorem pw_64 : GoodIn lw_tbl [Cond.fieldLink RX11 242 "NightBookModel" "taped" "I"] := goodIn_r _ [1057] (by decide +kernel) (by decide +kernel)
set_option maxRecDepth 20000 in
theorem pw_65 : GoodIn lw_tbl [Cond.code yX8_book cX8_book 3 (some .int)] := goodIn_r _ [449] (by decide +kernel) (by decide +kernel)
set_option maxRecDepth 20000 in
theorem pw_66 : GoodIn lw_tbl [Cond.fieldLink RX4 28 "NightBook$Reader" "start" "I"] := goodIn_r _ [150] (by decide +kernel) (by decide +kernel)
set_option maxRecDepth 20000 in
theorem pw_67 : GoodIn lw_tbl [Cond.code yX4_advance cX4_advance 3 none] := goodIn_r _ [457] (by decide +kernel) (by decide +kernel)
set_option maxRecDepth 20000 in
theorem pw_68 : GoodIn lw_tbl [Cond.selects RX4 yX4_advance yX4_advance] := goodIn_r _ [2] (by decide +kernel) (by decide +kernel)
set_option maxRecDepth 20000 in
theorem pw_69 : GoodIn lw_tbl [Cond.instanceMethod yX4_advance] := goodIn_r _ [456] (by decide +kernel) (by decide +kernel)
set_option maxRecDepth 20000 in
theorem pw_70 : GoodIn lw_tbl [Cond.methodLink RX4 85 yX4_advance] := goodIn_r _ [454] (by decide +kernel) (by decide +kernel)
set_option maxRecDepth 20000 in
theorem pw_71 : GoodIn lw_tbl [Cond.fieldLink RX4 25 "NightBook$Reader" "token" "I"] := goodIn_r _ [149] (by decide +kernel) (by decide +kernel)
set_option maxRecDepth 20000 in
theorem pw_72 : GoodIn lw_tbl [Cond.fieldLink RX4 52 "NightBook$Reader" "targetCount" "I"] := goodIn_r _ [160] (by decide +kernel) (by decide +kernel)
set_option maxRecDepth 20000 in
theorem pw_73 : GoodIn lw_tbl [Cond.fieldLink RX4 43 "NightBook$Reader" "place" "I"] := goodIn_r _ [156] (by decide +kernel) (by decide +kernel)
set_option maxRecDepth 20000 in
theorem pw_74 : GoodIn lw_tbl [Cond.fieldLink RX4 40 "NightBook$Reader" "fault" "I"] := goodIn_r _ [154] (by decide +kernel) (by decide +kernel)
set_option maxRecDepth 20000 in
theorem pw_75 : GoodIn lw_tbl [Cond.fieldLink RX4 22 "NightBook$Reader" "next" "I"] := goodIn_r _ [148] (by decide +kernel) (by decide +kernel)
set_option maxRecDepth 20000 in
theorem pw_76 : GoodIn lw_tbl [Cond.fieldLink RX4 19 "NightBook$Reader" "length" "I"] := goodIn_r _ [147] (by decide +kernel) (by decide +kernel)
set_option maxRecDepth 20000 in
theorem pw_77 : GoodIn lw_tbl [Cond.code yX4_readText cX4_readText 4 (some .boolean)] := goodIn_r _ [453] (by decide +kernel) (by decide +kernel)
set_option maxRecDepth 20000 in
theorem pw_78 : GoodIn lw_tbl [Cond.selects RX4 yX4_readText yX4_readText] := goodIn_r _ [452] (by decide +kernel) (by decide +kernel)
set_option maxRecDepth 20000 in
theorem pw_79 : GoodIn lw_tbl [Cond.instanceMethod yX4_readText] := goodIn_r _ [451] (by decide +kernel) (by decide +kernel)
set_option maxRecDepth 20000 in
theorem pw_80 : GoodIn lw_tbl [Cond.methodLink RX8 124 yX4_readText] := goodIn_r _ [450] (by decide +kernel) (by decide +kernel)
set_option maxRecDepth 20000 in
theorem pw_81 : GoodIn lw_tbl [Cond.methodLink RX4 69 yJ0_length_8abf5] := goodIn_r _ [480] (by decide +kernel) (by decide +kernel)
set_option maxRecDepth 20000 in
theorem pw_82 : GoodIn lw_tbl [Cond.code yX4_isWord cX4_isWord 3 (some .boolean)] := goodIn_r _ [479] (by decide +kernel) (by decide +kernel)
set_option maxRecDepth 20000 in
theorem pw_83 : GoodIn lw_tbl [Cond.selects RX4 yX4_isWord yX4_isWord] := goodIn_r _ [5] (by decide +kernel) (by decide +kernel)
set_option maxRecDepth 20000 in
theorem pw_84 : GoodIn lw_tbl [Cond.instanceMethod yX4_isWord] := goodIn_r _ [478] (by decide +kernel) (by decide +kernel)
set_option maxRecDepth 20000 in
theorem pw_85 : GoodIn lw_tbl [Cond.methodLink RX4 78 yX4_isWord] := goodIn_r _ [476] (by decide +kernel) (by decide +kernel)
set_option maxRecDepth 20000 in
theorem pw_86 : GoodIn lw_tbl [Cond.code yX4_beginsStep cX4_beginsStep 1 (some .boolean)] := goodIn_r _ [474] (by decide +kernel) (by decide +kernel)
set_option maxRecDepth 20000 in
theorem pw_87 : GoodIn lw_tbl [Cond.selects RX4 yX4_beginsStep yX4_beginsStep] := goodIn_r _ [4] (by decide +kernel) (by decide +kernel)
set_option maxRecDepth 20000 in
theorem pw_88 : GoodIn lw_tbl [Cond.instanceMethod yX4_beginsStep] := goodIn_r _ [473] (by decide +kernel) (by decide +kernel)
set_option maxRecDepth 20000 in
theorem pw_89 : GoodIn lw_tbl [Cond.methodLink RX4 111 yX4_beginsStep] := goodIn_r _ [471] (by decide +kernel) (by decide +kernel)
set_option maxRecDepth 20000 in
theorem pw_90 : GoodIn lw_tbl [Cond.code yX4_isDigit cX4_isDigit 1 (some .boolean)] := goodIn_r _ [470] (by decide +kernel) (by decide +kernel)
set_option maxRecDepth 20000 in
theorem pw_91 : GoodIn lw_tbl [Cond.static yX4_isDigit] := goodIn_r _ [469] (by decide +kernel) (by decide +kernel)
set_option maxRecDepth 20000 in
theorem pw_92 : GoodIn lw_tbl [Cond.methodLink RX4 66 yX4_isDigit] := goodIn_r _ [468] (by decide +kernel) (by decide +kernel)
set_option maxRecDepth 20000 in
theorem pw_93 : GoodIn lw_tbl [Cond.code yX4_isLetter cX4_isLetter 1 (some .boolean)] := goodIn_r _ [467] (by decide +kernel) (by decide +kernel)
set_option maxRecDepth 20000 in
theorem pw_94 : GoodIn lw_tbl [Cond.static yX4_isLetter] := goodIn_r _ [466] (by decide +kernel) (by decide +kernel)
set_option maxRecDepth 20000 in
theorem pw_95 : GoodIn lw_tbl [Cond.methodLink RX4 63 yX4_isLetter] := goodIn_r _ [465] (by decide +kernel) (by decide +kernel)
set_option maxRecDepth 20000 in
theorem pw_96 : GoodIn lw_tbl [Cond.code yX4_isBlank cX4_isBlank 1 (some .boolean)] := goodIn_r _ [464] (by decide +kernel) (by decide +kernel)
set_option maxRecDepth 20000 in
theorem pw_97 : GoodIn lw_tbl [Cond.static yX4_isBlank] := goodIn_r _ [463] (by decide +kernel) (by decide +kernel)
set_option maxRecDepth 20000 in
theorem pw_98 : GoodIn lw_tbl [Cond.methodLink RX4 59 yX4_isBlank] := goodIn_r _ [462] (by decide +kernel) (by decide +kernel)
set_option maxRecDepth 20000 in
theorem pw_99 : GoodIn lw_tbl [Cond.code yX4_byteAt cX4_byteAt 2 (some .int)] := goodIn_r _ [461] (by decide +kernel) (by decide +kernel)
set_option maxRecDepth 20000 in
theorem pw_100 : GoodIn lw_tbl [Cond.selects RX4 yX4_byteAt yX4_byteAt] := goodIn_r _ [3] (by decide +kernel) (by decide +kernel)
set_option maxRecDepth 20000 in
theorem pw_101 : GoodIn lw_tbl [Cond.instanceMethod yX4_byteAt] := goodIn_r _ [460] (by decide +kernel) (by decide +kernel)
set_option maxRecDepth 20000 in
theorem pw_102 : GoodIn lw_tbl [Cond.methodLink RX4 55 yX4_byteAt] := goodIn_r _ [458] (by decide +kernel) (by decide +kernel)
set_option maxRecDepth 20000 in
theorem pw_103 : GoodIn lw_tbl [Cond.fieldLink RX4 31 "NightBook$Reader" "value" "I"] := goodIn_r _ [151] (by decide +kernel) (by decide +kernel)
set_option maxRecDepth 20000 in
theorem pw_104 : GoodIn lw_tbl [Cond.methodLink RJ1 9 yJ0_checkIndex_df160] := goodIn_r _ [501] (by decide +kernel) (by decide +kernel)
set_option maxRecDepth 20000 in
theorem pw_105 : GoodIn lw_tbl [Cond.code yJ1_charAt_3b067 cJ1_charAt_3b067 2 (some .char)] := goodIn_r _ [500] (by decide +kernel) (by decide +kernel)
set_option maxRecDepth 20000 in
theorem pw_106 : GoodIn lw_tbl [Cond.initialized RJ1] := goodIn_r _ [77] (by decide +kernel) (by decide +kernel)
set_option maxRecDepth 20000 in
theorem pw_107 : GoodIn lw_tbl [Cond.static yJ1_charAt_3b067] := goodIn_r _ [499] (by decide +kernel) (by decide +kernel)
set_option maxRecDepth 20000 in
theorem pw_108 : GoodIn lw_tbl [Cond.methodLink RJ0 495 yJ1_charAt_3b067] := goodIn_r _ [498] (by decide +kernel) (by decide +kernel)
set_option maxRecDepth 20000 in
theorem pw_109 : GoodIn lw_tbl [Cond.code yJ0_isLatin1_aae02 cJ0_isLatin1_aae02 1 (some .boolean)] := goodIn_r _ [497] (by decide +kernel) (by decide +kernel)
set_option maxRecDepth 20000 in
theorem pw_110 : GoodIn lw_tbl [Cond.selects RJ0 yJ0_isLatin1_aae02 yJ0_isLatin1_aae02] := goodIn_r _ [496] (by decide +kernel) (by decide +kernel)
set_option maxRecDepth 20000 in
theorem pw_111 : GoodIn lw_tbl [Cond.instanceMethod yJ0_isLatin1_aae02] := goodIn_r _ [495] (by decide +kernel) (by decide +kernel)
set_option maxRecDepth 20000 in
theorem pw_112 : GoodIn lw_tbl [Cond.methodLink RJ0 492 yJ0_isLatin1_aae02] := goodIn_r _ [494] (by decide +kernel) (by decide +kernel)
set_option maxRecDepth 20000 in
theorem pw_113 : GoodIn lw_tbl [Cond.code yJ0_charAt_5068e cJ0_charAt_5068e 2 (some .char)] := goodIn_r _ [493] (by decide +kernel) (by decide +kernel)
set_option maxRecDepth 20000 in
theorem pw_114 : GoodIn lw_tbl [Cond.selects RJ0 yJ0_charAt_5068e yJ0_charAt_5068e] := goodIn_r _ [492] (by decide +kernel) (by decide +kernel)
set_option maxRecDepth 20000 in
theorem pw_115 : GoodIn lw_tbl [Cond.instanceMethod yJ0_charAt_5068e] := goodIn_r _ [491] (by decide +kernel) (by decide +kernel)
set_option maxRecDepth 20000 in
theorem pw_116 : GoodIn lw_tbl [Cond.methodLink RX4 74 yJ0_charAt_5068e] := goodIn_r _ [490] (by decide +kernel) (by decide +kernel)
set_option maxRecDepth 20000 in
theorem pw_117 : GoodIn lw_tbl [Cond.fieldLink RJ0 15 "java/lang/String" "coder" "B"] := goodIn_r _ [1520] (by decide +kernel) (by decide +kernel)
set_option maxRecDepth 20000 in
theorem pw_118 : GoodIn lw_tbl [Cond.fieldLink RJ0 38 "java/lang/String" "COMPACT_STRINGS" "Z"] := goodIn_r _ [488] (by decide +kernel) (by decide +kernel)
set_option maxRecDepth 20000 in
theorem pw_119 : GoodIn lw_tbl [Cond.code yJ0_coder_7d493 cJ0_coder_7d493 1 (some .byte)] := goodIn_r _ [487] (by decide +kernel) (by decide +kernel)
set_option maxRecDepth 20000 in
theorem pw_120 : GoodIn lw_tbl [Cond.selects RJ0 yJ0_coder_7d493 yJ0_coder_7d493] := goodIn_r _ [486] (by decide +kernel) (by decide +kernel)
set_option maxRecDepth 20000 in
theorem pw_121 : GoodIn lw_tbl [Cond.instanceMethod yJ0_coder_7d493] := goodIn_r _ [485] (by decide +kernel) (by decide +kernel)
set_option maxRecDepth 20000 in
theorem pw_122 : GoodIn lw_tbl [Cond.methodLink RJ0 335 yJ0_coder_7d493] := goodIn_r _ [484] (by decide +kernel) (by decide +kernel)
set_option maxRecDepth 20000 in
theorem pw_123 : GoodIn lw_tbl [Cond.fieldLink RJ0 9 "java/lang/String" "value" "[B"] := goodIn_r _ [1519] (by decide +kernel) (by decide +kernel)
set_option maxRecDepth 20000 in
theorem pw_124 : GoodIn lw_tbl [Cond.code yJ0_length_8abf5 cJ0_length_8abf5 1 (some .int)] := goodIn_r _ [483] (by decide +kernel) (by decide +kernel)
set_option maxRecDepth 20000 in
theorem pw_125 : GoodIn lw_tbl [Cond.initialized RJ0] := goodIn_r _ [76] (by decide +kernel) (by decide +kernel)
set_option maxRecDepth 20000 in
theorem pw_126 : GoodIn lw_tbl [Cond.selects RJ0 yJ0_length_8abf5 yJ0_length_8abf5] := goodIn_r _ [482] (by decide +kernel) (by decide +kernel)
set_option maxRecDepth 20000 in
theorem pw_127 : GoodIn lw_tbl [Cond.instanceMethod yJ0_length_8abf5] := goodIn_r _ [481] (by decide +kernel) (by decide +kernel)
set_option maxRecDepth 20000 in
theorem pw_128 : GoodIn lw_tbl [Cond.fieldLink RJ2 63 "java/lang/StringUTF16" "LO_BYTE_SHIFT" "I"] := goodIn_r _ [526] (by decide +kernel) (by decide +kernel)
set_option maxRecDepth 20000 in
theorem pw_129 : GoodIn lw_tbl [Cond.fieldLink RJ2 59 "java/lang/StringUTF16" "HI_BYTE_SHIFT" "I"] := goodIn_r _ [524] (by decide +kernel) (by decide +kernel)
set_option maxRecDepth 20000 in
theorem pw_130 : GoodIn lw_tbl [Cond.fieldLink RJ2 44 "java/lang/StringUTF16" "$assertionsDisabled" "Z"] := goodIn_r _ [522] (by decide +kernel) (by decide +kernel)
set_option maxRecDepth 20000 in
theorem pw_131 : GoodIn lw_tbl [Cond.code yJ2_getChar_3b067 cJ2_getChar_3b067 2 (some .char)] := goodIn_r _ [521] (by decide +kernel) (by decide +kernel)
set_option maxRecDepth 20000 in
theorem pw_132 : GoodIn lw_tbl [Cond.static yJ2_getChar_3b067] := goodIn_r _ [520] (by decide +kernel) (by decide +kernel)
set_option maxRecDepth 20000 in
theorem pw_133 : GoodIn lw_tbl [Cond.methodLink RJ2 71 yJ2_getChar_3b067] := goodIn_r _ [519] (by decide +kernel) (by decide +kernel)
set_option maxRecDepth 20000 in
theorem pw_134 : GoodIn lw_tbl [Cond.methodLink RJ2 414 yJ0_checkIndex_df160] := goodIn_r _ [518] (by decide +kernel) (by decide +kernel)
set_option maxRecDepth 20000 in
theorem pw_135 : GoodIn lw_tbl [Cond.code yJ2_length_9d52b cJ2_length_9d52b 1 (some .int)] := goodIn_r _ [517] (by decide +kernel) (by decide +kernel)
set_option maxRecDepth 20000 in
theorem pw_136 : GoodIn lw_tbl [Cond.static yJ2_length_9d52b] := goodIn_r _ [516] (by decide +kernel) (by decide +kernel)
set_option maxRecDepth 20000 in
theorem pw_137 : GoodIn lw_tbl [Cond.methodLink RJ2 48 yJ2_length_9d52b] := goodIn_r _ [515] (by decide +kernel) (by decide +kernel)
set_option maxRecDepth 20000 in
theorem pw_138 : GoodIn lw_tbl [Cond.code yJ2_checkIndex_2214a cJ2_checkIndex_2214a 2 none] := goodIn_r _ [514] (by decide +kernel) (by decide +kernel)
set_option maxRecDepth 20000 in
theorem pw_139 : GoodIn lw_tbl [Cond.static yJ2_checkIndex_2214a] := goodIn_r _ [513] (by decide +kernel) (by decide +kernel)
set_option maxRecDepth 20000 in
theorem pw_140 : GoodIn lw_tbl [Cond.methodLink RJ2 67 yJ2_checkIndex_2214a] := goodIn_r _ [512] (by decide +kernel) (by decide +kernel)
set_option maxRecDepth 20000 in
theorem pw_141 : GoodIn lw_tbl [Cond.code yJ2_charAt_3b067 cJ2_charAt_3b067 2 (some .char)] := goodIn_r _ [511] (by decide +kernel) (by decide +kernel)
set_option maxRecDepth 20000 in
theorem pw_142 : GoodIn lw_tbl [Cond.initialized RJ2] := goodIn_r _ [79] (by decide +kernel) (by decide +kernel)
set_option maxRecDepth 20000 in
theorem pw_143 : GoodIn lw_tbl [Cond.static yJ2_charAt_3b067] := goodIn_r _ [510] (by decide +kernel) (by decide +kernel)
set_option maxRecDepth 20000 in
theorem pw_144 : GoodIn lw_tbl [Cond.methodLink RJ0 498 yJ2_charAt_3b067] := goodIn_r _ [509] (by decide +kernel) (by decide +kernel)
set_option maxRecDepth 20000 in
theorem pw_145 : GoodIn lw_tbl [Cond.code yJ3_checkIndex_8e157 cJ3_checkIndex_8e157 3 (some .int)] := goodIn_r _ [508] (by decide +kernel) (by decide +kernel)
set_option maxRecDepth 20000 in
theorem pw_146 : GoodIn lw_tbl [Cond.initialized RJ3] := goodIn_r _ [78] (by decide +kernel) (by decide +kernel)
set_option maxRecDepth 20000 in
theorem pw_147 : GoodIn lw_tbl [Cond.static yJ3_checkIndex_8e157] := goodIn_r _ [507] (by decide +kernel) (by decide +kernel)
set_option maxRecDepth 20000 in
theorem pw_148 : GoodIn lw_tbl [Cond.methodLink RJ0 1059 yJ3_checkIndex_8e157] := goodIn_r _ [506] (by decide +kernel) (by decide +kernel)
set_option maxRecDepth 20000 in
theorem pw_149 : GoodIn lw_tbl [Cond.fieldLink RJ0 1053 "jdk/internal/util/Preconditions" "SIOOBE_FORMATTER" "Ljava/util/function/BiFunction;"] := goodIn_r _ [504] (by decide +kernel) (by decide +kernel)
set_option maxRecDepth 20000 in
theorem pw_150 : GoodIn lw_tbl [Cond.code yJ0_checkIndex_df160 cJ0_checkIndex_df160 2 none] := goodIn_r _ [503] (by decide +kernel) (by decide +kernel)
set_option maxRecDepth 20000 in
theorem pw_151 : GoodIn lw_tbl [Cond.static yJ0_checkIndex_df160] := goodIn_r _ [502] (by decide +kernel) (by decide +kernel)
set_option maxRecDepth 20000 in
theorem pw_152 : GoodIn lw_tbl [Cond.selects RX4 yX4_takeNumber yX4_takeNumber] := goodIn_r _ [9] (by decide +kernel) (by decide +kernel)
set_option maxRecDepth 20000 in
theorem pw_153 : GoodIn lw_tbl [Cond.instanceMethod yX4_takeNumber] := goodIn_r _ [553] (by decide +kernel) (by decide +kernel)
set_option maxRecDepth 20000 in
theorem pw_154 : GoodIn lw_tbl [Cond.methodLink RX4 136 yX4_takeNumber] := goodIn_r _ [551] (by decide +kernel) (by decide +kernel)
set_option maxRecDepth 20000 in
theorem pw_155 : GoodIn lw_tbl [Cond.code yX4_readDo cX4_readDo 4 (some .boolean)] := goodIn_r _ [550] (by decide +kernel) (by decide +kernel)
set_option maxRecDepth 20000 in
theorem pw_156 : GoodIn lw_tbl [Cond.selects RX4 yX4_readDo yX4_readDo] := goodIn_r _ [8] (by decide +kernel) (by decide +kernel)
set_option maxRecDepth 20000 in
theorem pw_157 : GoodIn lw_tbl [Cond.instanceMethod yX4_readDo] := goodIn_r _ [549] (by decide +kernel) (by decide +kernel)
set_option maxRecDepth 20000 in
theorem pw_158 : GoodIn lw_tbl [Cond.methodLink RX4 130 yX4_readDo] := goodIn_r _ [547] (by decide +kernel) (by decide +kernel)
set_option maxRecDepth 20000 in
theorem pw_159 : GoodIn lw_tbl [Cond.fieldLink RX7 37 "NightBook$World" "cells" "[I"] := goodIn_r _ [117] (by decide +kernel) (by decide +kernel)
set_option maxRecDepth 20000 in
theorem pw_160 : GoodIn lw_tbl [Cond.code yX7_setCell cX7_setCell 6 none] := goodIn_r _ [546] (by decide +kernel) (by decide +kernel)
set_option maxRecDepth 20000 in
theorem pw_161 : GoodIn lw_tbl [Cond.selects RX7 yX7_setCell yX7_setCell] := goodIn_r _ [545] (by decide +kernel) (by decide +kernel)
set_option maxRecDepth 20000 in
theorem pw_162 : GoodIn lw_tbl [Cond.instanceMethod yX7_setCell] := goodIn_r _ [544] (by decide +kernel) (by decide +kernel)
set_option maxRecDepth 20000 in
theorem pw_163 : GoodIn lw_tbl [Cond.methodLink RX4 93 yX7_setCell] := goodIn_r _ [543] (by decide +kernel) (by decide +kernel)
set_option maxRecDepth 20000 in
theorem pw_164 : GoodIn lw_tbl [Cond.code yX4_clearStep cX4_clearStep 2 none] := goodIn_r _ [542] (by decide +kernel) (by decide +kernel)
set_option maxRecDepth 20000 in
theorem pw_165 : GoodIn lw_tbl [Cond.static yX4_clearStep] := goodIn_r _ [541] (by decide +kernel) (by decide +kernel)
set_option maxRecDepth 20000 in
theorem pw_166 : GoodIn lw_tbl [Cond.methodLink RX4 126 yX4_clearStep] := goodIn_r _ [540] (by decide +kernel) (by decide +kernel)
set_option maxRecDepth 20000 in
theorem pw_167 : GoodIn lw_tbl [Cond.code yX4_readStep cX4_readStep 3 (some .boolean)] := goodIn_r _ [539] (by decide +kernel) (by decide +kernel)
set_option maxRecDepth 20000 in
theorem pw_168 : GoodIn lw_tbl [Cond.selects RX4 yX4_readStep yX4_readStep] := goodIn_r _ [7] (by decide +kernel) (by decide +kernel)
set_option maxRecDepth 20000 in
theorem pw_169 : GoodIn lw_tbl [Cond.instanceMethod yX4_readStep] := goodIn_r _ [538] (by decide +kernel) (by decide +kernel)
set_option maxRecDepth 20000 in
theorem pw_170 : GoodIn lw_tbl [Cond.methodLink RX4 115 yX4_readStep] := goodIn_r _ [536] (by decide +kernel) (by decide +kernel)
set_option maxRecDepth 20000 in
theorem pw_171 : GoodIn lw_tbl [Cond.code yX4_fail cX4_fail 2 (some .boolean)] := goodIn_r _ [535] (by decide +kernel) (by decide +kernel)
set_option maxRecDepth 20000 in
theorem pw_172 : GoodIn lw_tbl [Cond.selects RX4 yX4_fail yX4_fail] := goodIn_r _ [6] (by decide +kernel) (by decide +kernel)
set_option maxRecDepth 20000 in
theorem pw_173 : GoodIn lw_tbl [Cond.instanceMethod yX4_fail] := goodIn_r _ [534] (by decide +kernel) (by decide +kernel)
set_option maxRecDepth 20000 in
theorem pw_174 : GoodIn lw_tbl [Cond.methodLink RX4 82 yX4_fail] := goodIn_r _ [532] (by decide +kernel) (by decide +kernel)
set_option maxRecDepth 20000 in
theorem pw_175 : GoodIn lw_tbl [Cond.selects RX7 yX7_setSize yX7_setSize] := goodIn_r _ [580] (by decide +kernel) (by decide +kernel)
set_option maxRecDepth 20000 in
theorem pw_176 : GoodIn lw_tbl [Cond.instanceMethod yX7_setSize] := goodIn_r _ [579] (by decide +kernel) (by decide +kernel)
set_option maxRecDepth 20000 in
theorem pw_177 : GoodIn lw_tbl [Cond.methodLink RX4 119 yX7_setSize] := goodIn_r _ [578] (by decide +kernel) (by decide +kernel)
set_option maxRecDepth 20000 in
theorem pw_178 : GoodIn lw_tbl [Cond.fieldLink RX4 49 "NightBook$Reader" "targetPlaces" "[I"] := goodIn_r _ [159] (by decide +kernel) (by decide +kernel)
set_option maxRecDepth 20000 in
theorem pw_179 : GoodIn lw_tbl [Cond.fieldLink RX4 46 "NightBook$Reader" "targets" "[I"] := goodIn_r _ [158] (by decide +kernel) (by decide +kernel)
set_option maxRecDepth 20000 in
theorem pw_180 : GoodIn lw_tbl [Cond.code yX4_keepTarget cX4_keepTarget 4 (some .boolean)] := goodIn_r _ [576] (by decide +kernel) (by decide +kernel)
set_option maxRecDepth 20000 in
theorem pw_181 : GoodIn lw_tbl [Cond.selects RX4 yX4_keepTarget yX4_keepTarget] := goodIn_r _ [13] (by decide +kernel) (by decide +kernel)
set_option maxRecDepth 20000 in
theorem pw_182 : GoodIn lw_tbl [Cond.instanceMethod yX4_keepTarget] := goodIn_r _ [575] (by decide +kernel) (by decide +kernel)
set_option maxRecDepth 20000 in
theorem pw_183 : GoodIn lw_tbl [Cond.methodLink RX4 140 yX4_keepTarget] := goodIn_r _ [573] (by decide +kernel) (by decide +kernel)
set_option maxRecDepth 20000 in
theorem pw_184 : GoodIn lw_tbl [Cond.code yX4_readAsk cX4_readAsk 3 (some .boolean)] := goodIn_r _ [571] (by decide +kernel) (by decide +kernel)
set_option maxRecDepth 20000 in
theorem pw_185 : GoodIn lw_tbl [Cond.selects RX4 yX4_readAsk yX4_readAsk] := goodIn_r _ [12] (by decide +kernel) (by decide +kernel)
set_option maxRecDepth 20000 in
theorem pw_186 : GoodIn lw_tbl [Cond.instanceMethod yX4_readAsk] := goodIn_r _ [570] (by decide +kernel) (by decide +kernel)
set_option maxRecDepth 20000 in
theorem pw_187 : GoodIn lw_tbl [Cond.methodLink RX4 133 yX4_readAsk] := goodIn_r _ [568] (by decide +kernel) (by decide +kernel)
set_option maxRecDepth 20000 in
theorem pw_188 : GoodIn lw_tbl [Cond.code yX4_takeWord cX4_takeWord 2 (some .boolean)] := goodIn_r _ [564] (by decide +kernel) (by decide +kernel)
set_option maxRecDepth 20000 in
theorem pw_189 : GoodIn lw_tbl [Cond.selects RX4 yX4_takeWord yX4_takeWord] := goodIn_r _ [11] (by decide +kernel) (by decide +kernel)
set_option maxRecDepth 20000 in
theorem pw_190 : GoodIn lw_tbl [Cond.instanceMethod yX4_takeWord] := goodIn_r _ [563] (by decide +kernel) (by decide +kernel)
set_option maxRecDepth 20000 in
theorem pw_191 : GoodIn lw_tbl [Cond.methodLink RX4 143 yX4_takeWord] := goodIn_r _ [561] (by decide +kernel) (by decide +kernel)
set_option maxRecDepth 20000 in
theorem pw_192 : GoodIn lw_tbl [Cond.code yX4_keep cX4_keep 4 (some .boolean)] := goodIn_r _ [558] (by decide +kernel) (by decide +kernel)
set_option maxRecDepth 20000 in
theorem pw_193 : GoodIn lw_tbl [Cond.selects RX4 yX4_keep yX4_keep] := goodIn_r _ [10] (by decide +kernel) (by decide +kernel)
set_option maxRecDepth 20000 in
theorem pw_194 : GoodIn lw_tbl [Cond.instanceMethod yX4_keep] := goodIn_r _ [557] (by decide +kernel) (by decide +kernel)
set_option maxRecDepth 20000 in
theorem pw_195 : GoodIn lw_tbl [Cond.methodLink RX4 97 yX4_keep] := goodIn_r _ [555] (by decide +kernel) (by decide +kernel)
set_option maxRecDepth 20000 in
theorem pw_196 : GoodIn lw_tbl [Cond.fieldLink RX4 37 "NightBook$Reader" "takenAt" "I"] := goodIn_r _ [153] (by decide +kernel) (by decide +kernel)
set_option maxRecDepth 20000 in
theorem pw_197 : GoodIn lw_tbl [Cond.fieldLink RX4 34 "NightBook$Reader" "taken" "I"] := goodIn_r _ [152] (by decide +kernel) (by decide +kernel)
set_option maxRecDepth 20000 in
theorem pw_198 : GoodIn lw_tbl [Cond.code yX4_takeNumber cX4_takeNumber 3 (some .boolean)] := goodIn_r _ [554] (by decide +kernel) (by decide +kernel)
set_option maxRecDepth 20000 in
theorem pw_199 : GoodIn lw_tbl [Cond.code yX4_targetsAreThere cX4_targetsAreThere 3 (some .boolean)] := goodIn_r _ [585] (by decide +kernel) (by decide +kernel)
set_option maxRecDepth 20000 in
theorem pw_200 : GoodIn lw_tbl [Cond.selects RX4 yX4_targetsAreThere yX4_targetsAreThere] := goodIn_r _ [14] (by decide +kernel) (by decide +kernel)
set_option maxRecDepth 20000 in
theorem pw_201 : GoodIn lw_tbl [Cond.instanceMethod yX4_targetsAreThere] := goodIn_r _ [584] (by decide +kernel) (by decide +kernel)
set_option maxRecDepth 20000 in
theorem pw_202 : GoodIn lw_tbl [Cond.methodLink RX4 123 yX4_targetsAreThere] := goodIn_r _ [582] (by decide +kernel) (by decide +kernel)
set_option maxRecDepth 20000 in
theorem pw_203 : GoodIn lw_tbl [Cond.fieldLink RX7 34 "NightBook$World" "sizes" "[I"] := goodIn_r _ [116] (by decide +kernel) (by decide +kernel)
set_option maxRecDepth 20000 in
theorem pw_204 : GoodIn lw_tbl [Cond.code yX7_setSize cX7_setSize 3 none] := goodIn_r _ [581] (by decide +kernel) (by decide +kernel)
set_option maxRecDepth 20000 in
theorem pw_205 : GoodIn lw_tbl [Cond.codeWith yX11_book cX11_book 3 (some .int) [(43, 47, 50, 41)]] := goodIn_r _ [1276] (by decide +kernel) (by decide +kernel)
set_option maxRecDepth 20000 in
theorem pw_206 : GoodIn lw_tbl [Cond.fieldLink RX11 29 "NightBookModel" "one" "[I"] := goodIn_r _ [1051] (by decide +kernel) (by decide +kernel)
set_option maxRecDepth 20000 in
theorem pw_207 : GoodIn lw_tbl [Cond.fieldLink RX11 35 "NightBookModel" "three" "[I"] := goodIn_r _ [1053] (by decide +kernel) (by decide +kernel)
set_option maxRecDepth 20000 in
theorem pw_208 : GoodIn lw_tbl [Cond.fieldLink RX11 32 "NightBookModel" "two" "[I"] := goodIn_r _ [1052] (by decide +kernel) (by decide +kernel)
set_option maxRecDepth 20000 in
theorem pw_209 : GoodIn lw_tbl [Cond.fieldLink RX11 26 "NightBookModel" "kind" "[I"] := goodIn_r _ [1050] (by decide +kernel) (by decide +kernel)
set_option maxRecDepth 20000 in
theorem pw_210 : GoodIn lw_tbl [Cond.fieldLink RX11 170 "NightBookModel" "sort" "I"] := goodIn_r _ [1060] (by decide +kernel) (by decide +kernel)
set_option maxRecDepth 20000 in
theorem pw_211 : GoodIn lw_tbl [Cond.fieldLink RX11 169 "NightBookModel" "place" "I"] := goodIn_r _ [1061] (by decide +kernel) (by decide +kernel)
set_option maxRecDepth 20000 in
theorem pw_212 : GoodIn lw_tbl [Cond.fieldLink RX11 23 "NightBookModel" "steps" "[I"] := goodIn_r _ [1049] (by decide +kernel) (by decide +kernel)
set_option maxRecDepth 20000 in
theorem pw_213 : GoodIn lw_tbl [Cond.code yX11_reads cX11_reads 8 none] := goodIn_r _ [1280] (by decide +kernel) (by decide +kernel)
set_option maxRecDepth 20000 in
theorem pw_214 : GoodIn lw_tbl [Cond.selects RX11 yX11_reads yX11_reads] := goodIn_r _ [34] (by decide +kernel) (by decide +kernel)
set_option maxRecDepth 20000 in
theorem pw_215 : GoodIn lw_tbl [Cond.instanceMethod yX11_reads] := goodIn_r _ [1279] (by decide +kernel) (by decide +kernel)
set_option maxRecDepth 20000 in
theorem pw_216 : GoodIn lw_tbl [Cond.methodLink RX11 248 yX11_reads] := goodIn_r _ [1277] (by decide +kernel) (by decide +kernel)
set_option maxRecDepth 20000 in
theorem pw_217 : GoodIn lw_tbl [Cond.fieldLink RX11 201 "NightBookModel" "books" "I"] := goodIn_r _ [1045] (by decide +kernel) (by decide +kernel)
set_option maxRecDepth 20000 in
theorem pw_218 : GoodIn lw_tbl [Cond.fieldLink RX11 245 "NightBookModel" "fault" "I"] := goodIn_r _ [1041] (by decide +kernel) (by decide +kernel)
set_option maxRecDepth 20000 in
theorem pw_219 : GoodIn lw_tbl [Cond.fieldLink RX11 163 "NightBookModel" "at" "I"] := goodIn_r _ [1059] (by decide +kernel) (by decide +kernel)
set_option maxRecDepth 20000 in
theorem pw_220 : GoodIn lw_tbl [Cond.fieldLink RX11 148 "NightBookModel" "size" "I"] := goodIn_r _ [1058] (by decide +kernel) (by decide +kernel)
set_option maxRecDepth 20000 in
theorem pw_221 : GoodIn lw_tbl [Cond.methodLink RX11 187 yX11_wordOf] := goodIn_r _ [1301] (by decide +kernel) (by decide +kernel)
set_option maxRecDepth 20000 in
theorem pw_222 : GoodIn lw_tbl [Cond.code yX11_isWord cX11_isWord 2 (some .boolean)] := goodIn_r _ [1300] (by decide +kernel) (by decide +kernel)
set_option maxRecDepth 20000 in
theorem pw_223 : GoodIn lw_tbl [Cond.selects RX11 yX11_isWord yX11_isWord] := goodIn_r _ [37] (by decide +kernel) (by decide +kernel)
set_option maxRecDepth 20000 in
theorem pw_224 : GoodIn lw_tbl [Cond.instanceMethod yX11_isWord] := goodIn_r _ [1299] (by decide +kernel) (by decide +kernel)
set_option maxRecDepth 20000 in
theorem pw_225 : GoodIn lw_tbl [Cond.methodLink RX11 191 yX11_isWord] := goodIn_r _ [1297] (by decide +kernel) (by decide +kernel)
set_option maxRecDepth 20000 in
theorem pw_226 : GoodIn lw_tbl [Cond.code yX11_isDigit cX11_isDigit 1 (some .boolean)] := goodIn_r _ [1295] (by decide +kernel) (by decide +kernel)
set_option maxRecDepth 20000 in
theorem pw_227 : GoodIn lw_tbl [Cond.static yX11_isDigit] := goodIn_r _ [1294] (by decide +kernel) (by decide +kernel)
set_option maxRecDepth 20000 in
theorem pw_228 : GoodIn lw_tbl [Cond.methodLink RX11 181 yX11_isDigit] := goodIn_r _ [1293] (by decide +kernel) (by decide +kernel)
set_option maxRecDepth 20000 in
theorem pw_229 : GoodIn lw_tbl [Cond.code yX11_isLetter cX11_isLetter 1 (some .boolean)] := goodIn_r _ [1291] (by decide +kernel) (by decide +kernel)
set_option maxRecDepth 20000 in
theorem pw_230 : GoodIn lw_tbl [Cond.static yX11_isLetter] := goodIn_r _ [1290] (by decide +kernel) (by decide +kernel)
set_option maxRecDepth 20000 in
theorem pw_231 : GoodIn lw_tbl [Cond.methodLink RX11 173 yX11_isLetter] := goodIn_r _ [1289] (by decide +kernel) (by decide +kernel)
set_option maxRecDepth 20000 in
theorem pw_232 : GoodIn lw_tbl [Cond.code yX11_byteAt cX11_byteAt 2 (some .int)] := goodIn_r _ [1288] (by decide +kernel) (by decide +kernel)
set_option maxRecDepth 20000 in
theorem pw_233 : GoodIn lw_tbl [Cond.selects RX11 yX11_byteAt yX11_byteAt] := goodIn_r _ [36] (by decide +kernel) (by decide +kernel)
set_option maxRecDepth 20000 in
theorem pw_234 : GoodIn lw_tbl [Cond.instanceMethod yX11_byteAt] := goodIn_r _ [1287] (by decide +kernel) (by decide +kernel)
set_option maxRecDepth 20000 in
theorem pw_235 : GoodIn lw_tbl [Cond.methodLink RX11 166 yX11_byteAt] := goodIn_r _ [1285] (by decide +kernel) (by decide +kernel)
set_option maxRecDepth 20000 in
theorem pw_236 : GoodIn lw_tbl [Cond.fieldLink RX11 184 "NightBookModel" "number" "I"] := goodIn_r _ [1062] (by decide +kernel) (by decide +kernel)
set_option maxRecDepth 20000 in
theorem pw_237 : GoodIn lw_tbl [Cond.constantLong RX11 157 (32)] := goodIn_r _ [1292] (by decide +kernel) (by decide +kernel)
set_option maxRecDepth 20000 in
theorem pw_238 : GoodIn lw_tbl [Cond.fieldLink RX11 177 "NightBookModel" "word" "J"] := goodIn_r _ [1063] (by decide +kernel) (by decide +kernel)
set_option maxRecDepth 20000 in
theorem pw_239 : GoodIn lw_tbl [Cond.code yX11_next cX11_next 3 none] := goodIn_r _ [1284] (by decide +kernel) (by decide +kernel)
set_option maxRecDepth 20000 in
theorem pw_240 : GoodIn lw_tbl [Cond.selects RX11 yX11_next yX11_next] := goodIn_r _ [35] (by decide +kernel) (by decide +kernel)
set_option maxRecDepth 20000 in
theorem pw_241 : GoodIn lw_tbl [Cond.instanceMethod yX11_next] := goodIn_r _ [1283] (by decide +kernel) (by decide +kernel)
set_option maxRecDepth 20000 in
theorem pw_242 : GoodIn lw_tbl [Cond.methodLink RX11 198 yX11_next] := goodIn_r _ [1281] (by decide +kernel) (by decide +kernel)
set_option maxRecDepth 20000 in
theorem pw_243 : GoodIn lw_tbl [Cond.fieldLink RX11 52 "NightBookModel" "targetPlace" "[I"] := goodIn_r _ [1064] (by decide +kernel) (by decide +kernel)
set_option maxRecDepth 20000 in
theorem pw_244 : GoodIn lw_tbl [Cond.methodLink RX11 159 yJ0_charAt_5068e] := goodIn_r _ [1305] (by decide +kernel) (by decide +kernel)
set_option maxRecDepth 20000 in
theorem pw_245 : GoodIn lw_tbl [Cond.methodLink RX11 151 yJ0_length_8abf5] := goodIn_r _ [1304] (by decide +kernel) (by decide +kernel)
set_option maxRecDepth 20000 in
theorem pw_246 : GoodIn lw_tbl [Cond.code yX11_wordOf cX11_wordOf 4 (some .long)] := goodIn_r _ [1303] (by decide +kernel) (by decide +kernel)
set_option maxRecDepth 20000 in
theorem pw_247 : GoodIn lw_tbl [Cond.static yX11_wordOf] := goodIn_r _ [1302] (by decide +kernel) (by decide +kernel)
set_option maxRecDepth 20000 in
theorem pw_248 : GoodIn lw_tbl [Cond.selects RX11 yX11_needTarget yX11_needTarget] := goodIn_r _ [42] (by decide +kernel) (by decide +kernel)
set_option maxRecDepth 20000 in
theorem pw_249 : GoodIn lw_tbl [Cond.instanceMethod yX11_needTarget] := goodIn_r _ [1334] (by decide +kernel) (by decide +kernel)
set_option maxRecDepth 20000 in
theorem pw_250 : GoodIn lw_tbl [Cond.methodLink RX11 237 yX11_needTarget] := goodIn_r _ [1332] (by decide +kernel) (by decide +kernel)
set_option maxRecDepth 20000 in
theorem pw_251 : GoodIn lw_tbl [Cond.code yX11_needWord cX11_needWord 2 none] := goodIn_r _ [1328] (by decide +kernel) (by decide +kernel)
set_option maxRecDepth 20000 in
theorem pw_252 : GoodIn lw_tbl [Cond.selects RX11 yX11_needWord yX11_needWord] := goodIn_r _ [41] (by decide +kernel) (by decide +kernel)
set_option maxRecDepth 20000 in
theorem pw_253 : GoodIn lw_tbl [Cond.instanceMethod yX11_needWord] := goodIn_r _ [1327] (by decide +kernel) (by decide +kernel)
set_option maxRecDepth 20000 in
theorem pw_254 : GoodIn lw_tbl [Cond.methodLink RX11 228 yX11_needWord] := goodIn_r _ [1325] (by decide +kernel) (by decide +kernel)
set_option maxRecDepth 20000 in
theorem pw_255 : GoodIn lw_tbl [Cond.code yX11_needNumber cX11_needNumber 4 (some .int)] := goodIn_r _ [1321] (by decide +kernel) (by decide +kernel)
set_option maxRecDepth 20000 in
theorem pw_256 : GoodIn lw_tbl [Cond.selects RX11 yX11_needNumber yX11_needNumber] := goodIn_r _ [40] (by decide +kernel) (by decide +kernel)
set_option maxRecDepth 20000 in
theorem pw_257 : GoodIn lw_tbl [Cond.instanceMethod yX11_needNumber] := goodIn_r _ [1320] (by decide +kernel) (by decide +kernel)
set_option maxRecDepth 20000 in
theorem pw_258 : GoodIn lw_tbl [Cond.methodLink RX11 218 yX11_needNumber] := goodIn_r _ [1318] (by decide +kernel) (by decide +kernel)
set_option maxRecDepth 20000 in
theorem pw_259 : GoodIn lw_tbl [Cond.fieldLink RX11 38 "NightBookModel" "harm" "[I"] := goodIn_r _ [1054] (by decide +kernel) (by decide +kernel)
set_option maxRecDepth 20000 in
theorem pw_260 : GoodIn lw_tbl [Cond.code yX11_readStep cX11_readStep 4 none] := goodIn_r _ [1317] (by decide +kernel) (by decide +kernel)
set_option maxRecDepth 20000 in
theorem pw_261 : GoodIn lw_tbl [Cond.selects RX11 yX11_readStep yX11_readStep] := goodIn_r _ [39] (by decide +kernel) (by decide +kernel)
set_option maxRecDepth 20000 in
theorem pw_262 : GoodIn lw_tbl [Cond.instanceMethod yX11_readStep] := goodIn_r _ [1316] (by decide +kernel) (by decide +kernel)
set_option maxRecDepth 20000 in
theorem pw_263 : GoodIn lw_tbl [Cond.methodLink RX11 214 yX11_readStep] := goodIn_r _ [1314] (by decide +kernel) (by decide +kernel)
set_option maxRecDepth 20000 in
theorem pw_264 : GoodIn lw_tbl [Cond.code yX11_needTarget cX11_needTarget 4 (some .int)] := goodIn_r _ [1335] (by decide +kernel) (by decide +kernel)
set_option maxRecDepth 20000 in
theorem pw_265 : GoodIn lw_tbl [Cond.code yX8_fault cX8_fault 1 (some .int)] := goodIn_r _ [590] (by decide +kernel) (by decide +kernel)
set_option maxRecDepth 20000 in
theorem pw_266 : GoodIn lw_tbl [Cond.code yX11_fault cX11_fault 1 (some .int)] := goodIn_r _ [1340] (by decide +kernel) (by decide +kernel)
set_option maxRecDepth 20000 in
theorem pw_267 : GoodIn lw_tbl [Cond.code yX8_where cX8_where 1 (some .int)] := goodIn_r _ [594] (by decide +kernel) (by decide +kernel)
set_option maxRecDepth 20000 in
theorem pw_268 : GoodIn lw_tbl [Cond.code yX11_where cX11_where 1 (some .int)] := goodIn_r _ [1344] (by decide +kernel) (by decide +kernel)
set_option maxRecDepth 20000 in
theorem pw_269 : GoodIn lw_tbl [Cond.code yX8_steps cX8_steps 2 (some .int)] := goodIn_r _ [598] (by decide +kernel) (by decide +kernel)
set_option maxRecDepth 20000 in
theorem pw_270 : GoodIn lw_tbl [Cond.code yX7_sizeOf cX7_sizeOf 2 (some .int)] := goodIn_r _ [606] (by decide +kernel) (by decide +kernel)
set_option maxRecDepth 20000 in
theorem pw_271 : GoodIn lw_tbl [Cond.selects RX7 yX7_sizeOf yX7_sizeOf] := goodIn_r _ [605] (by decide +kernel) (by decide +kernel)
set_option maxRecDepth 20000 in
theorem pw_272 : GoodIn lw_tbl [Cond.instanceMethod yX7_sizeOf] := goodIn_r _ [604] (by decide +kernel) (by decide +kernel)
set_option maxRecDepth 20000 in
theorem pw_273 : GoodIn lw_tbl [Cond.methodLink RX8 140 yX7_sizeOf] := goodIn_r _ [603] (by decide +kernel) (by decide +kernel)
set_option maxRecDepth 20000 in
theorem pw_274 : GoodIn lw_tbl [Cond.fieldLink RX7 21 "NightBook$World" "books" "I"] := goodIn_r _ [106] (by decide +kernel) (by decide +kernel)
set_option maxRecDepth 20000 in
theorem pw_275 : GoodIn lw_tbl [Cond.code yX7_hasBook cX7_hasBook 2 (some .boolean)] := goodIn_r _ [602] (by decide +kernel) (by decide +kernel)
set_option maxRecDepth 20000 in
theorem pw_276 : GoodIn lw_tbl [Cond.selects RX7 yX7_hasBook yX7_hasBook] := goodIn_r _ [601] (by decide +kernel) (by decide +kernel)
set_option maxRecDepth 20000 in
theorem pw_277 : GoodIn lw_tbl [Cond.instanceMethod yX7_hasBook] := goodIn_r _ [600] (by decide +kernel) (by decide +kernel)
set_option maxRecDepth 20000 in
theorem pw_278 : GoodIn lw_tbl [Cond.methodLink RX8 137 yX7_hasBook] := goodIn_r _ [599] (by decide +kernel) (by decide +kernel)
set_option maxRecDepth 20000 in
theorem pw_279 : GoodIn lw_tbl [Cond.code yX11_steps cX11_steps 2 (some .int)] := goodIn_r _ [1348] (by decide +kernel) (by decide +kernel)
set_option maxRecDepth 20000 in
theorem pw_280 : GoodIn lw_tbl [Cond.code yX11_isBook cX11_isBook 2 (some .boolean)] := goodIn_r _ [1352] (by decide +kernel) (by decide +kernel)
set_option maxRecDepth 20000 in
theorem pw_281 : GoodIn lw_tbl [Cond.selects RX11 yX11_isBook yX11_isBook] := goodIn_r _ [43] (by decide +kernel) (by decide +kernel)
set_option maxRecDepth 20000 in
theorem pw_282 : GoodIn lw_tbl [Cond.instanceMethod yX11_isBook] := goodIn_r _ [1351] (by decide +kernel) (by decide +kernel)
set_option maxRecDepth 20000 in
theorem pw_283 : GoodIn lw_tbl [Cond.methodLink RX11 251 yX11_isBook] := goodIn_r _ [1349] (by decide +kernel) (by decide +kernel)
set_option maxRecDepth 20000 in
theorem pw_284 : GoodIn lw_tbl [Cond.code yX8_step cX8_step 4 (some .int)] := goodIn_r _ [610] (by decide +kernel) (by decide +kernel)
set_option maxRecDepth 20000 in
theorem pw_285 : GoodIn lw_tbl [Cond.code yX7_cell cX7_cell 5 (some .int)] := goodIn_r _ [618] (by decide +kernel) (by decide +kernel)
set_option maxRecDepth 20000 in
theorem pw_286 : GoodIn lw_tbl [Cond.selects RX7 yX7_cell yX7_cell] := goodIn_r _ [617] (by decide +kernel) (by decide +kernel)
set_option maxRecDepth 20000 in
theorem pw_287 : GoodIn lw_tbl [Cond.instanceMethod yX7_cell] := goodIn_r _ [616] (by decide +kernel) (by decide +kernel)
set_option maxRecDepth 20000 in
theorem pw_288 : GoodIn lw_tbl [Cond.methodLink RX8 147 yX7_cell] := goodIn_r _ [615] (by decide +kernel) (by decide +kernel)
set_option maxRecDepth 20000 in
theorem pw_289 : GoodIn lw_tbl [Cond.code yX8_hasStep cX8_hasStep 3 (some .boolean)] := goodIn_r _ [614] (by decide +kernel) (by decide +kernel)
set_option maxRecDepth 20000 in
theorem pw_290 : GoodIn lw_tbl [Cond.selects RX8 yX8_hasStep yX8_hasStep] := goodIn_r _ [15] (by decide +kernel) (by decide +kernel)
set_option maxRecDepth 20000 in
theorem pw_291 : GoodIn lw_tbl [Cond.instanceMethod yX8_hasStep] := goodIn_r _ [613] (by decide +kernel) (by decide +kernel)
set_option maxRecDepth 20000 in
theorem pw_292 : GoodIn lw_tbl [Cond.methodLink RX8 143 yX8_hasStep] := goodIn_r _ [611] (by decide +kernel) (by decide +kernel)
set_option maxRecDepth 20000 in
theorem pw_293 : GoodIn lw_tbl [Cond.code yX11_step cX11_step 5 (some .int)] := goodIn_r _ [1356] (by decide +kernel) (by decide +kernel)
set_option maxRecDepth 20000 in
theorem pw_294 : GoodIn lw_tbl [Cond.code yX8_play cX8_play 5 (some .int)] := goodIn_r _ [622] (by decide +kernel) (by decide +kernel)
set_option maxRecDepth 20000 in
theorem pw_295 : GoodIn lw_tbl [Cond.fieldLink RX6 11 "NightBook$Walk" "seen" "[J"] := goodIn_r _ [206] (by decide +kernel) (by decide +kernel)
set_option maxRecDepth 20000 in
theorem pw_296 : GoodIn lw_tbl [Cond.code yX6_start cX6_start 6 none] := goodIn_r _ [626] (by decide +kernel) (by decide +kernel)
set_option maxRecDepth 20000 in
theorem pw_297 : GoodIn lw_tbl [Cond.initialized RX6] := goodIn_r _ [65] (by decide +kernel) (by decide +kernel)
set_option maxRecDepth 20000 in
theorem pw_298 : GoodIn lw_tbl [Cond.selects RX6 yX6_start yX6_start] := goodIn_r _ [625] (by decide +kernel) (by decide +kernel)
set_option maxRecDepth 20000 in
theorem pw_299 : GoodIn lw_tbl [Cond.instanceMethod yX6_start] := goodIn_r _ [624] (by decide +kernel) (by decide +kernel)
set_option maxRecDepth 20000 in
theorem pw_300 : GoodIn lw_tbl [Cond.methodLink RX8 151 yX6_start] := goodIn_r _ [623] (by decide +kernel) (by decide +kernel)
set_option maxRecDepth 20000 in
theorem pw_301 : GoodIn lw_tbl [Cond.fieldLink RX8 26 "NightBook" "hands" "LNightBook$Hands;"] := goodIn_r _ [365] (by decide +kernel) (by decide +kernel)
set_option maxRecDepth 20000 in
theorem pw_302 : GoodIn lw_tbl [Cond.fieldLink RX8 35 "NightBook" "shown" "LNightBook$Walk;"] := goodIn_r _ [366] (by decide +kernel) (by decide +kernel)
set_option maxRecDepth 20000 in
theorem pw_303 : GoodIn lw_tbl [Cond.code yX3_rest cX3_rest 1 none] := goodIn_r _ [637] (by decide +kernel) (by decide +kernel)
set_option maxRecDepth 20000 in
theorem pw_304 : GoodIn lw_tbl [Cond.initialized RX3] := goodIn_r _ [64] (by decide +kernel) (by decide +kernel)
set_option maxRecDepth 20000 in
theorem pw_305 : GoodIn lw_tbl [Cond.selects RX3 yX3_rest yX3_rest] := goodIn_r _ [636] (by decide +kernel) (by decide +kernel)
set_option maxRecDepth 20000 in
theorem pw_306 : GoodIn lw_tbl [Cond.instanceMethod yX3_rest] := goodIn_r _ [635] (by decide +kernel) (by decide +kernel)
set_option maxRecDepth 20000 in
theorem pw_307 : GoodIn lw_tbl [Cond.methodLink RX8 155 yX3_rest] := goodIn_r _ [634] (by decide +kernel) (by decide +kernel)
set_option maxRecDepth 20000 in
theorem pw_308 : GoodIn lw_tbl [Cond.fieldLink RX7 9 "NightBook$World" "facts" "I"] := goodIn_r _ [97] (by decide +kernel) (by decide +kernel)
set_option maxRecDepth 20000 in
theorem pw_309 : GoodIn lw_tbl [Cond.code yX7_allFacts cX7_allFacts 1 (some .int)] := goodIn_r _ [633] (by decide +kernel) (by decide +kernel)
set_option maxRecDepth 20000 in
theorem pw_310 : GoodIn lw_tbl [Cond.selects RX7 yX7_allFacts yX7_allFacts] := goodIn_r _ [632] (by decide +kernel) (by decide +kernel)
set_option maxRecDepth 20000 in
theorem pw_311 : GoodIn lw_tbl [Cond.instanceMethod yX7_allFacts] := goodIn_r _ [631] (by decide +kernel) (by decide +kernel)
set_option maxRecDepth 20000 in
theorem pw_312 : GoodIn lw_tbl [Cond.methodLink RX6 56 yX7_allFacts] := goodIn_r _ [630] (by decide +kernel) (by decide +kernel)
set_option maxRecDepth 20000 in
theorem pw_313 : GoodIn lw_tbl [Cond.code yJ7_fill_d0a16 cJ7_fill_d0a16 5 none] := goodIn_r _ [629] (by decide +kernel) (by decide +kernel)
set_option maxRecDepth 20000 in
theorem pw_314 : GoodIn lw_tbl [Cond.initialized RJ7] := goodIn_r _ [80] (by decide +kernel) (by decide +kernel)
set_option maxRecDepth 20000 in
theorem pw_315 : GoodIn lw_tbl [Cond.static yJ7_fill_d0a16] := goodIn_r _ [628] (by decide +kernel) (by decide +kernel)
set_option maxRecDepth 20000 in
theorem pw_316 : GoodIn lw_tbl [Cond.methodLink RX6 50 yJ7_fill_d0a16] := goodIn_r _ [627] (by decide +kernel) (by decide +kernel)
set_option maxRecDepth 20000 in
theorem pw_317 : GoodIn lw_tbl [Cond.fieldLink RX6 43 "NightBook$Walk" "end" "I"] := goodIn_r _ [220] (by decide +kernel) (by decide +kernel)
set_option maxRecDepth 20000 in
theorem pw_318 : GoodIn lw_tbl [Cond.fieldLink RX6 40 "NightBook$Walk" "comings" "I"] := goodIn_r _ [218] (by decide +kernel) (by decide +kernel)
set_option maxRecDepth 20000 in
theorem pw_319 : GoodIn lw_tbl [Cond.fieldLink RX6 37 "NightBook$Walk" "waited" "I"] := goodIn_r _ [216] (by decide +kernel) (by decide +kernel)
set_option maxRecDepth 20000 in
theorem pw_320 : GoodIn lw_tbl [Cond.fieldLink RX6 34 "NightBook$Walk" "clock" "I"] := goodIn_r _ [214] (by decide +kernel) (by decide +kernel)
set_option maxRecDepth 20000 in
theorem pw_321 : GoodIn lw_tbl [Cond.fieldLink RX6 31 "NightBook$Walk" "phase" "I"] := goodIn_r _ [213] (by decide +kernel) (by decide +kernel)
set_option maxRecDepth 20000 in
theorem pw_322 : GoodIn lw_tbl [Cond.fieldLink RX6 28 "NightBook$Walk" "at" "I"] := goodIn_r _ [212] (by decide +kernel) (by decide +kernel)
set_option maxRecDepth 20000 in
theorem pw_323 : GoodIn lw_tbl [Cond.fieldLink RX6 25 "NightBook$Walk" "away" "I"] := goodIn_r _ [211] (by decide +kernel) (by decide +kernel)
set_option maxRecDepth 20000 in
theorem pw_324 : GoodIn lw_tbl [Cond.fieldLink RX6 22 "NightBook$Walk" "lies" "I"] := goodIn_r _ [210] (by decide +kernel) (by decide +kernel)
set_option maxRecDepth 20000 in
theorem pw_325 : GoodIn lw_tbl [Cond.fieldLink RX6 19 "NightBook$Walk" "wrong" "I"] := goodIn_r _ [209] (by decide +kernel) (by decide +kernel)
set_option maxRecDepth 20000 in
theorem pw_326 : GoodIn lw_tbl [Cond.fieldLink RX6 15 "NightBook$Walk" "book" "I"] := goodIn_r _ [208] (by decide +kernel) (by decide +kernel)
set_option maxRecDepth 20000 in
theorem pw_327 : GoodIn lw_tbl [Cond.instanceMethod yX6_come] := goodIn_r _ [656] (by decide +kernel) (by decide +kernel)
set_option maxRecDepth 20000 in
theorem pw_328 : GoodIn lw_tbl [Cond.methodLink RX6 66 yX6_come] := goodIn_r _ [654] (by decide +kernel) (by decide +kernel)
set_option maxRecDepth 20000 in
theorem pw_329 : GoodIn lw_tbl [Cond.fieldLink RX7 27 "NightBook$World" "factOfSign" "[I"] := goodIn_r _ [112] (by decide +kernel) (by decide +kernel)
set_option maxRecDepth 20000 in
theorem pw_330 : GoodIn lw_tbl [Cond.code yX7_factOf cX7_factOf 2 (some .int)] := goodIn_r _ [653] (by decide +kernel) (by decide +kernel)
set_option maxRecDepth 20000 in
theorem pw_331 : GoodIn lw_tbl [Cond.selects RX7 yX7_factOf yX7_factOf] := goodIn_r _ [652] (by decide +kernel) (by decide +kernel)
set_option maxRecDepth 20000 in
theorem pw_332 : GoodIn lw_tbl [Cond.instanceMethod yX7_factOf] := goodIn_r _ [651] (by decide +kernel) (by decide +kernel)
set_option maxRecDepth 20000 in
theorem pw_333 : GoodIn lw_tbl [Cond.methodLink RX6 101 yX7_factOf] := goodIn_r _ [650] (by decide +kernel) (by decide +kernel)
set_option maxRecDepth 20000 in
theorem pw_334 : GoodIn lw_tbl [Cond.methodLink RX6 84 yX7_cell] := goodIn_r _ [649] (by decide +kernel) (by decide +kernel)
set_option maxRecDepth 20000 in
theorem pw_335 : GoodIn lw_tbl [Cond.code yX6_finish cX6_finish 6 none] := goodIn_r _ [648] (by decide +kernel) (by decide +kernel)
set_option maxRecDepth 20000 in
theorem pw_336 : GoodIn lw_tbl [Cond.selects RX6 yX6_finish yX6_finish] := goodIn_r _ [16] (by decide +kernel) (by decide +kernel)
set_option maxRecDepth 20000 in
theorem pw_337 : GoodIn lw_tbl [Cond.instanceMethod yX6_finish] := goodIn_r _ [647] (by decide +kernel) (by decide +kernel)
set_option maxRecDepth 20000 in
theorem pw_338 : GoodIn lw_tbl [Cond.methodLink RX6 62 yX6_finish] := goodIn_r _ [645] (by decide +kernel) (by decide +kernel)
set_option maxRecDepth 20000 in
theorem pw_339 : GoodIn lw_tbl [Cond.code yX6_goOn cX6_goOn 5 none] := goodIn_r _ [644] (by decide +kernel) (by decide +kernel)
set_option maxRecDepth 20000 in
theorem pw_340 : GoodIn lw_tbl [Cond.selects RX6 yX6_goOn yX6_goOn] := goodIn_r _ [643] (by decide +kernel) (by decide +kernel)
set_option maxRecDepth 20000 in
theorem pw_341 : GoodIn lw_tbl [Cond.instanceMethod yX6_goOn] := goodIn_r _ [642] (by decide +kernel) (by decide +kernel)
set_option maxRecDepth 20000 in
theorem pw_342 : GoodIn lw_tbl [Cond.methodLink RX8 158 yX6_goOn] := goodIn_r _ [641] (by decide +kernel) (by decide +kernel)
set_option maxRecDepth 20000 in
theorem pw_343 : GoodIn lw_tbl [Cond.code yJ7_fill_53178 cJ7_fill_53178 4 none] := goodIn_r _ [640] (by decide +kernel) (by decide +kernel)
set_option maxRecDepth 20000 in
theorem pw_344 : GoodIn lw_tbl [Cond.static yJ7_fill_53178] := goodIn_r _ [639] (by decide +kernel) (by decide +kernel)
set_option maxRecDepth 20000 in
theorem pw_345 : GoodIn lw_tbl [Cond.methodLink RX3 15 yJ7_fill_53178] := goodIn_r _ [638] (by decide +kernel) (by decide +kernel)
set_option maxRecDepth 20000 in
theorem pw_346 : GoodIn lw_tbl [Cond.fieldLink RX3 9 "NightBook$Hands" "freeFrom" "[I"] := goodIn_r _ [196] (by decide +kernel) (by decide +kernel)
set_option maxRecDepth 20000 in
theorem pw_347 : GoodIn lw_tbl [Cond.selects RX3 yX3_take yX3_take] := goodIn_r _ [674] (by decide +kernel) (by decide +kernel)
set_option maxRecDepth 20000 in
theorem pw_348 : GoodIn lw_tbl [Cond.instanceMethod yX3_take] := goodIn_r _ [673] (by decide +kernel) (by decide +kernel)
set_option maxRecDepth 20000 in
theorem pw_349 : GoodIn lw_tbl [Cond.methodLink RX6 97 yX3_take] := goodIn_r _ [672] (by decide +kernel) (by decide +kernel)
set_option maxRecDepth 20000 in
theorem pw_350 : GoodIn lw_tbl [Cond.code yX3_pick cX3_pick 7 (some .int)] := goodIn_r _ [671] (by decide +kernel) (by decide +kernel)
set_option maxRecDepth 20000 in
theorem pw_351 : GoodIn lw_tbl [Cond.selects RX3 yX3_pick yX3_pick] := goodIn_r _ [670] (by decide +kernel) (by decide +kernel)
set_option maxRecDepth 20000 in
theorem pw_352 : GoodIn lw_tbl [Cond.instanceMethod yX3_pick] := goodIn_r _ [669] (by decide +kernel) (by decide +kernel)
set_option maxRecDepth 20000 in
theorem pw_353 : GoodIn lw_tbl [Cond.methodLink RX6 91 yX3_pick] := goodIn_r _ [668] (by decide +kernel) (by decide +kernel)
set_option maxRecDepth 20000 in
theorem pw_354 : GoodIn lw_tbl [Cond.code yX6_beginDo cX6_beginDo 5 none] := goodIn_r _ [667] (by decide +kernel) (by decide +kernel)
set_option maxRecDepth 20000 in
theorem pw_355 : GoodIn lw_tbl [Cond.selects RX6 yX6_beginDo yX6_beginDo] := goodIn_r _ [18] (by decide +kernel) (by decide +kernel)
set_option maxRecDepth 20000 in
theorem pw_356 : GoodIn lw_tbl [Cond.instanceMethod yX6_beginDo] := goodIn_r _ [666] (by decide +kernel) (by decide +kernel)
set_option maxRecDepth 20000 in
theorem pw_357 : GoodIn lw_tbl [Cond.methodLink RX6 73 yX6_beginDo] := goodIn_r _ [664] (by decide +kernel) (by decide +kernel)
set_option maxRecDepth 20000 in
theorem pw_358 : GoodIn lw_tbl [Cond.methodLink RX7 44 yX7_cell] := goodIn_r _ [663] (by decide +kernel) (by decide +kernel)
set_option maxRecDepth 20000 in
theorem pw_359 : GoodIn lw_tbl [Cond.code yX7_isDo cX7_isDo 4 (some .boolean)] := goodIn_r _ [662] (by decide +kernel) (by decide +kernel)
set_option maxRecDepth 20000 in
theorem pw_360 : GoodIn lw_tbl [Cond.selects RX7 yX7_isDo yX7_isDo] := goodIn_r _ [661] (by decide +kernel) (by decide +kernel)
set_option maxRecDepth 20000 in
theorem pw_361 : GoodIn lw_tbl [Cond.instanceMethod yX7_isDo] := goodIn_r _ [660] (by decide +kernel) (by decide +kernel)
set_option maxRecDepth 20000 in
theorem pw_362 : GoodIn lw_tbl [Cond.methodLink RX6 69 yX7_isDo] := goodIn_r _ [659] (by decide +kernel) (by decide +kernel)
set_option maxRecDepth 20000 in
theorem pw_363 : GoodIn lw_tbl [Cond.methodLink RX6 80 yX7_sizeOf] := goodIn_r _ [658] (by decide +kernel) (by decide +kernel)
set_option maxRecDepth 20000 in
theorem pw_364 : GoodIn lw_tbl [Cond.fieldLink RX6 46 "NightBook$Walk" "path" "[I"] := goodIn_r _ [207] (by decide +kernel) (by decide +kernel)
set_option maxRecDepth 20000 in
theorem pw_365 : GoodIn lw_tbl [Cond.code yX6_come cX6_come 5 none] := goodIn_r _ [657] (by decide +kernel) (by decide +kernel)
set_option maxRecDepth 20000 in
theorem pw_366 : GoodIn lw_tbl [Cond.selects RX6 yX6_come yX6_come] := goodIn_r _ [17] (by decide +kernel) (by decide +kernel)
set_option maxRecDepth 20000 in
theorem pw_367 : GoodIn lw_tbl [Cond.code yX6_beginOther cX6_beginOther 3 none] := goodIn_r _ [679] (by decide +kernel) (by decide +kernel)
set_option maxRecDepth 20000 in
theorem pw_368 : GoodIn lw_tbl [Cond.selects RX6 yX6_beginOther yX6_beginOther] := goodIn_r _ [19] (by decide +kernel) (by decide +kernel)
set_option maxRecDepth 20000 in
theorem pw_369 : GoodIn lw_tbl [Cond.instanceMethod yX6_beginOther] := goodIn_r _ [678] (by decide +kernel) (by decide +kernel)
set_option maxRecDepth 20000 in
theorem pw_370 : GoodIn lw_tbl [Cond.methodLink RX6 77 yX6_beginOther] := goodIn_r _ [676] (by decide +kernel) (by decide +kernel)
set_option maxRecDepth 20000 in
theorem pw_371 : GoodIn lw_tbl [Cond.code yX3_take cX3_take 3 none] := goodIn_r _ [675] (by decide +kernel) (by decide +kernel)
set_option maxRecDepth 20000 in
theorem pw_372 : GoodIn lw_tbl [Cond.code yX11_play cX11_play 6 (some .int)] := goodIn_r _ [1360] (by decide +kernel) (by decide +kernel)
set_option maxRecDepth 20000 in
theorem pw_373 : GoodIn lw_tbl [Cond.fieldLink RX11 61 "NightBookModel" "path" "[I"] := goodIn_r _ [1067] (by decide +kernel) (by decide +kernel)
set_option maxRecDepth 20000 in
theorem pw_374 : GoodIn lw_tbl [Cond.fieldLink RX11 64 "NightBookModel" "playedPath" "[I"] := goodIn_r _ [1080] (by decide +kernel) (by decide +kernel)
set_option maxRecDepth 20000 in
theorem pw_375 : GoodIn lw_tbl [Cond.fieldLink RX11 311 "NightBookModel" "playedStep" "I"] := goodIn_r _ [1079] (by decide +kernel) (by decide +kernel)
set_option maxRecDepth 20000 in
theorem pw_376 : GoodIn lw_tbl [Cond.fieldLink RX11 272 "NightBookModel" "endStep" "I"] := goodIn_r _ [1073] (by decide +kernel) (by decide +kernel)
set_option maxRecDepth 20000 in
theorem pw_377 : GoodIn lw_tbl [Cond.fieldLink RX11 308 "NightBookModel" "playedBad" "I"] := goodIn_r _ [1078] (by decide +kernel) (by decide +kernel)
set_option maxRecDepth 20000 in
theorem pw_378 : GoodIn lw_tbl [Cond.fieldLink RX11 260 "NightBookModel" "bad" "I"] := goodIn_r _ [1072] (by decide +kernel) (by decide +kernel)
set_option maxRecDepth 20000 in
theorem pw_379 : GoodIn lw_tbl [Cond.fieldLink RX11 305 "NightBookModel" "playedCame" "I"] := goodIn_r _ [1077] (by decide +kernel) (by decide +kernel)
set_option maxRecDepth 20000 in
theorem pw_380 : GoodIn lw_tbl [Cond.fieldLink RX11 266 "NightBookModel" "came" "I"] := goodIn_r _ [1071] (by decide +kernel) (by decide +kernel)
set_option maxRecDepth 20000 in
theorem pw_381 : GoodIn lw_tbl [Cond.fieldLink RX11 302 "NightBookModel" "playedTicks" "I"] := goodIn_r _ [1076] (by decide +kernel) (by decide +kernel)
set_option maxRecDepth 20000 in
theorem pw_382 : GoodIn lw_tbl [Cond.fieldLink RX11 263 "NightBookModel" "ticks" "I"] := goodIn_r _ [1070] (by decide +kernel) (by decide +kernel)
set_option maxRecDepth 20000 in
theorem pw_383 : GoodIn lw_tbl [Cond.fieldLink RX11 298 "NightBookModel" "hasPlayed" "Z"] := goodIn_r _ [1074] (by decide +kernel) (by decide +kernel)
set_option maxRecDepth 20000 in
theorem pw_384 : GoodIn lw_tbl [Cond.fieldLink RX11 295 "NightBookModel" "playedEnd" "I"] := goodIn_r _ [1075] (by decide +kernel) (by decide +kernel)
set_option maxRecDepth 20000 in
theorem pw_385 : GoodIn lw_tbl [Cond.code yX11_allFacts cX11_allFacts 1 (some .int)] := goodIn_r _ [1371] (by decide +kernel) (by decide +kernel)
set_option maxRecDepth 20000 in
theorem pw_386 : GoodIn lw_tbl [Cond.selects RX11 yX11_allFacts yX11_allFacts] := goodIn_r _ [45] (by decide +kernel) (by decide +kernel)
set_option maxRecDepth 20000 in
theorem pw_387 : GoodIn lw_tbl [Cond.instanceMethod yX11_allFacts] := goodIn_r _ [1370] (by decide +kernel) (by decide +kernel)
set_option maxRecDepth 20000 in
theorem pw_388 : GoodIn lw_tbl [Cond.methodLink RX11 254 yX11_allFacts] := goodIn_r _ [1368] (by decide +kernel) (by decide +kernel)
set_option maxRecDepth 20000 in
theorem pw_389 : GoodIn lw_tbl [Cond.fieldLink RX11 55 "NightBookModel" "mark" "[I"] := goodIn_r _ [1065] (by decide +kernel) (by decide +kernel)
set_option maxRecDepth 20000 in
theorem pw_390 : GoodIn lw_tbl [Cond.fieldLink RX11 269 "NightBookModel" "end" "I"] := goodIn_r _ [1069] (by decide +kernel) (by decide +kernel)
set_option maxRecDepth 20000 in
theorem pw_391 : GoodIn lw_tbl [Cond.fieldLink RX11 257 "NightBookModel" "marks" "I"] := goodIn_r _ [1068] (by decide +kernel) (by decide +kernel)
set_option maxRecDepth 20000 in
theorem pw_392 : GoodIn lw_tbl [Cond.code yX11_plays cX11_plays 7 (some .int)] := goodIn_r _ [1367] (by decide +kernel) (by decide +kernel)
set_option maxRecDepth 20000 in
theorem pw_393 : GoodIn lw_tbl [Cond.selects RX11 yX11_plays yX11_plays] := goodIn_r _ [44] (by decide +kernel) (by decide +kernel)
set_option maxRecDepth 20000 in
theorem pw_394 : GoodIn lw_tbl [Cond.instanceMethod yX11_plays] := goodIn_r _ [1366] (by decide +kernel) (by decide +kernel)
set_option maxRecDepth 20000 in
theorem pw_395 : GoodIn lw_tbl [Cond.methodLink RX11 291 yX11_plays] := goodIn_r _ [1364] (by decide +kernel) (by decide +kernel)
set_option maxRecDepth 20000 in
theorem pw_396 : GoodIn lw_tbl [Cond.code yX11_areBits cX11_areBits 3 (some .boolean)] := goodIn_r _ [1363] (by decide +kernel) (by decide +kernel)
set_option maxRecDepth 20000 in
theorem pw_397 : GoodIn lw_tbl [Cond.static yX11_areBits] := goodIn_r _ [1362] (by decide +kernel) (by decide +kernel)
set_option maxRecDepth 20000 in
theorem pw_398 : GoodIn lw_tbl [Cond.methodLink RX11 288 yX11_areBits] := goodIn_r _ [1361] (by decide +kernel) (by decide +kernel)
set_option maxRecDepth 20000 in
theorem pw_399 : GoodIn lw_tbl [Cond.code yX11_changed cX11_changed 3 (some .int)] := goodIn_r _ [1387] (by decide +kernel) (by decide +kernel)
set_option maxRecDepth 20000 in
theorem pw_400 : GoodIn lw_tbl [Cond.selects RX11 yX11_changed yX11_changed] := goodIn_r _ [49] (by decide +kernel) (by decide +kernel)
set_option maxRecDepth 20000 in
theorem pw_401 : GoodIn lw_tbl [Cond.instanceMethod yX11_changed] := goodIn_r _ [1386] (by decide +kernel) (by decide +kernel)
set_option maxRecDepth 20000 in
theorem pw_402 : GoodIn lw_tbl [Cond.methodLink RX11 285 yX11_changed] := goodIn_r _ [1384] (by decide +kernel) (by decide +kernel)
set_option maxRecDepth 20000 in
theorem pw_403 : GoodIn lw_tbl [Cond.code yX11_isThere cX11_isThere 5 (some .boolean)] := goodIn_r _ [1383] (by decide +kernel) (by decide +kernel)
set_option maxRecDepth 20000 in
theorem pw_404 : GoodIn lw_tbl [Cond.selects RX11 yX11_isThere yX11_isThere] := goodIn_r _ [48] (by decide +kernel) (by decide +kernel)
set_option maxRecDepth 20000 in
theorem pw_405 : GoodIn lw_tbl [Cond.instanceMethod yX11_isThere] := goodIn_r _ [1382] (by decide +kernel) (by decide +kernel)
set_option maxRecDepth 20000 in
theorem pw_406 : GoodIn lw_tbl [Cond.methodLink RX11 281 yX11_isThere] := goodIn_r _ [1380] (by decide +kernel) (by decide +kernel)
set_option maxRecDepth 20000 in
theorem pw_407 : GoodIn lw_tbl [Cond.code yX11_tellsWrong cX11_tellsWrong 4 (some .boolean)] := goodIn_r _ [1379] (by decide +kernel) (by decide +kernel)
set_option maxRecDepth 20000 in
theorem pw_408 : GoodIn lw_tbl [Cond.selects RX11 yX11_tellsWrong yX11_tellsWrong] := goodIn_r _ [47] (by decide +kernel) (by decide +kernel)
set_option maxRecDepth 20000 in
theorem pw_409 : GoodIn lw_tbl [Cond.instanceMethod yX11_tellsWrong] := goodIn_r _ [1378] (by decide +kernel) (by decide +kernel)
set_option maxRecDepth 20000 in
theorem pw_410 : GoodIn lw_tbl [Cond.methodLink RX11 278 yX11_tellsWrong] := goodIn_r _ [1376] (by decide +kernel) (by decide +kernel)
set_option maxRecDepth 20000 in
theorem pw_411 : GoodIn lw_tbl [Cond.code yX11_isCalm cX11_isCalm 2 (some .boolean)] := goodIn_r _ [1375] (by decide +kernel) (by decide +kernel)
set_option maxRecDepth 20000 in
theorem pw_412 : GoodIn lw_tbl [Cond.selects RX11 yX11_isCalm yX11_isCalm] := goodIn_r _ [46] (by decide +kernel) (by decide +kernel)
set_option maxRecDepth 20000 in
theorem pw_413 : GoodIn lw_tbl [Cond.instanceMethod yX11_isCalm] := goodIn_r _ [1374] (by decide +kernel) (by decide +kernel)
set_option maxRecDepth 20000 in
theorem pw_414 : GoodIn lw_tbl [Cond.methodLink RX11 275 yX11_isCalm] := goodIn_r _ [1372] (by decide +kernel) (by decide +kernel)
set_option maxRecDepth 20000 in
theorem pw_415 : GoodIn lw_tbl [Cond.code yX8_played cX8_played 2 (some .int)] := goodIn_r _ [683] (by decide +kernel) (by decide +kernel)
set_option maxRecDepth 20000 in
theorem pw_416 : GoodIn lw_tbl [Cond.code yX6_about cX6_about 2 (some .int)] := goodIn_r _ [691] (by decide +kernel) (by decide +kernel)
set_option maxRecDepth 20000 in
theorem pw_417 : GoodIn lw_tbl [Cond.selects RX6 yX6_about yX6_about] := goodIn_r _ [690] (by decide +kernel) (by decide +kernel)
set_option maxRecDepth 20000 in
theorem pw_418 : GoodIn lw_tbl [Cond.instanceMethod yX6_about] := goodIn_r _ [689] (by decide +kernel) (by decide +kernel)
set_option maxRecDepth 20000 in
theorem pw_419 : GoodIn lw_tbl [Cond.methodLink RX8 169 yX6_about] := goodIn_r _ [688] (by decide +kernel) (by decide +kernel)
set_option maxRecDepth 20000 in
theorem pw_420 : GoodIn lw_tbl [Cond.code yX8_nothingPlayed cX8_nothingPlayed 1 (some .boolean)] := goodIn_r _ [687] (by decide +kernel) (by decide +kernel)
set_option maxRecDepth 20000 in
theorem pw_421 : GoodIn lw_tbl [Cond.selects RX8 yX8_nothingPlayed yX8_nothingPlayed] := goodIn_r _ [20] (by decide +kernel) (by decide +kernel)
set_option maxRecDepth 20000 in
theorem pw_422 : GoodIn lw_tbl [Cond.instanceMethod yX8_nothingPlayed] := goodIn_r _ [686] (by decide +kernel) (by decide +kernel)
set_option maxRecDepth 20000 in
theorem pw_423 : GoodIn lw_tbl [Cond.methodLink RX8 165 yX8_nothingPlayed] := goodIn_r _ [684] (by decide +kernel) (by decide +kernel)
set_option maxRecDepth 20000 in
theorem pw_424 : GoodIn lw_tbl [Cond.code yX11_played cX11_played 2 (some .int)] := goodIn_r _ [1391] (by decide +kernel) (by decide +kernel)
set_option maxRecDepth 20000 in
theorem pw_425 : GoodIn lw_tbl [Cond.code yX8_path cX8_path 2 (some .int)] := goodIn_r _ [695] (by decide +kernel) (by decide +kernel)
set_option maxRecDepth 20000 in
theorem pw_426 : GoodIn lw_tbl [Cond.code yX6_pathAt cX6_pathAt 2 (some .int)] := goodIn_r _ [699] (by decide +kernel) (by decide +kernel)
set_option maxRecDepth 20000 in
theorem pw_427 : GoodIn lw_tbl [Cond.selects RX6 yX6_pathAt yX6_pathAt] := goodIn_r _ [698] (by decide +kernel) (by decide +kernel)
set_option maxRecDepth 20000 in
theorem pw_428 : GoodIn lw_tbl [Cond.instanceMethod yX6_pathAt] := goodIn_r _ [697] (by decide +kernel) (by decide +kernel)
set_option maxRecDepth 20000 in
theorem pw_429 : GoodIn lw_tbl [Cond.methodLink RX8 172 yX6_pathAt] := goodIn_r _ [696] (by decide +kernel) (by decide +kernel)
set_option maxRecDepth 20000 in
theorem pw_430 : GoodIn lw_tbl [Cond.code yX11_path cX11_path 2 (some .int)] := goodIn_r _ [1395] (by decide +kernel) (by decide +kernel)
set_option maxRecDepth 20000 in
theorem pw_431 : GoodIn lw_tbl [Cond.code yX8_all cX8_all 9 (some .int)] := goodIn_r _ [703] (by decide +kernel) (by decide +kernel)
set_option maxRecDepth 20000 in
theorem pw_432 : GoodIn lw_tbl [Cond.instanceMethod yX0_prepare] := goodIn_r _ [708] (by decide +kernel) (by decide +kernel)
set_option maxRecDepth 20000 in
theorem pw_433 : GoodIn lw_tbl [Cond.methodLink RX8 179 yX0_prepare] := goodIn_r _ [707] (by decide +kernel) (by decide +kernel)
set_option maxRecDepth 20000 in
theorem pw_434 : GoodIn lw_tbl [Cond.code yX8_areMosts cX8_areMosts 3 (some .boolean)] := goodIn_r _ [706] (by decide +kernel) (by decide +kernel)
set_option maxRecDepth 20000 in
theorem pw_435 : GoodIn lw_tbl [Cond.static yX8_areMosts] := goodIn_r _ [705] (by decide +kernel) (by decide +kernel)
set_option maxRecDepth 20000 in
theorem pw_436 : GoodIn lw_tbl [Cond.methodLink RX8 175 yX8_areMosts] := goodIn_r _ [704] (by decide +kernel) (by decide +kernel)
set_option maxRecDepth 20000 in
theorem pw_437 : GoodIn lw_tbl [Cond.fieldLink RX8 39 "NightBook" "tried" "LNightBook$Walk;"] := goodIn_r _ [367] (by decide +kernel) (by decide +kernel)
set_option maxRecDepth 20000 in
theorem pw_438 : GoodIn lw_tbl [Cond.fieldLink RX8 58 "NightBook" "tally" "LNightBook$Tally;"] := goodIn_r _ [371] (by decide +kernel) (by decide +kernel)
set_option maxRecDepth 20000 in
theorem pw_439 : GoodIn lw_tbl [Cond.fieldLink RX8 51 "NightBook" "choices" "LNightBook$Choices;"] := goodIn_r _ [370] (by decide +kernel) (by decide +kernel)
set_option maxRecDepth 20000 in
theorem pw_440 : GoodIn lw_tbl [Cond.constant RJ6 267 (252645135)] := goodIn_r _ [720] (by decide +kernel) (by decide +kernel)
set_option maxRecDepth 20000 in
theorem pw_441 : GoodIn lw_tbl [Cond.constant RJ6 266 (858993459)] := goodIn_r _ [719] (by decide +kernel) (by decide +kernel)
set_option maxRecDepth 20000 in
theorem pw_442 : GoodIn lw_tbl [Cond.constant RJ6 265 (1431655765)] := goodIn_r _ [718] (by decide +kernel) (by decide +kernel)
set_option maxRecDepth 20000 in
theorem pw_443 : GoodIn lw_tbl [Cond.code yJ6_bitCount_0f7a4 cJ6_bitCount_0f7a4 1 (some .int)] := goodIn_r _ [717] (by decide +kernel) (by decide +kernel)
set_option maxRecDepth 20000 in
theorem pw_444 : GoodIn lw_tbl [Cond.initialized RJ6] := goodIn_r _ [81] (by decide +kernel) (by decide +kernel)
set_option maxRecDepth 20000 in
theorem pw_445 : GoodIn lw_tbl [Cond.static yJ6_bitCount_0f7a4] := goodIn_r _ [716] (by decide +kernel) (by decide +kernel)
set_option maxRecDepth 20000 in
theorem pw_446 : GoodIn lw_tbl [Cond.methodLink RX0 31 yJ6_bitCount_0f7a4] := goodIn_r _ [715] (by decide +kernel) (by decide +kernel)
set_option maxRecDepth 20000 in
theorem pw_447 : GoodIn lw_tbl [Cond.code yX0_listSets cX0_listSets 5 (some .int)] := goodIn_r _ [714] (by decide +kernel) (by decide +kernel)
set_option maxRecDepth 20000 in
theorem pw_448 : GoodIn lw_tbl [Cond.static yX0_listSets] := goodIn_r _ [713] (by decide +kernel) (by decide +kernel)
set_option maxRecDepth 20000 in
theorem pw_449 : GoodIn lw_tbl [Cond.methodLink RX0 43 yX0_listSets] := goodIn_r _ [712] (by decide +kernel) (by decide +kernel)
set_option maxRecDepth 20000 in
theorem pw_450 : GoodIn lw_tbl [Cond.methodLink RX0 37 yX7_allFacts] := goodIn_r _ [711] (by decide +kernel) (by decide +kernel)
set_option maxRecDepth 20000 in
theorem pw_451 : GoodIn lw_tbl [Cond.fieldLink RX0 28 "NightBook$Choices" "peopleCount" "I"] := goodIn_r _ [259] (by decide +kernel) (by decide +kernel)
set_option maxRecDepth 20000 in
theorem pw_452 : GoodIn lw_tbl [Cond.fieldLink RX0 18 "NightBook$Choices" "peopleSets" "[I"] := goodIn_r _ [256] (by decide +kernel) (by decide +kernel)
set_option maxRecDepth 20000 in
theorem pw_453 : GoodIn lw_tbl [Cond.fieldLink RX0 25 "NightBook$Choices" "signCount" "I"] := goodIn_r _ [258] (by decide +kernel) (by decide +kernel)
set_option maxRecDepth 20000 in
theorem pw_454 : GoodIn lw_tbl [Cond.fieldLink RX0 15 "NightBook$Choices" "signSets" "[I"] := goodIn_r _ [255] (by decide +kernel) (by decide +kernel)
set_option maxRecDepth 20000 in
theorem pw_455 : GoodIn lw_tbl [Cond.fieldLink RX0 21 "NightBook$Choices" "factCount" "I"] := goodIn_r _ [257] (by decide +kernel) (by decide +kernel)
set_option maxRecDepth 20000 in
theorem pw_456 : GoodIn lw_tbl [Cond.fieldLink RX0 9 "NightBook$Choices" "factSets" "[I"] := goodIn_r _ [254] (by decide +kernel) (by decide +kernel)
set_option maxRecDepth 20000 in
theorem pw_457 : GoodIn lw_tbl [Cond.code yX0_prepare cX0_prepare 6 (some .int)] := goodIn_r _ [710] (by decide +kernel) (by decide +kernel)
set_option maxRecDepth 20000 in
theorem pw_458 : GoodIn lw_tbl [Cond.initialized RX0] := goodIn_r _ [66] (by decide +kernel) (by decide +kernel)
set_option maxRecDepth 20000 in
theorem pw_459 : GoodIn lw_tbl [Cond.selects RX0 yX0_prepare yX0_prepare] := goodIn_r _ [709] (by decide +kernel) (by decide +kernel)
set_option maxRecDepth 20000 in
theorem pw_460 : GoodIn lw_tbl [Cond.code yX5_start cX5_start 3 none] := goodIn_r _ [741] (by decide +kernel) (by decide +kernel)
set_option maxRecDepth 20000 in
theorem pw_461 : GoodIn lw_tbl [Cond.initialized RX5] := goodIn_r _ [67] (by decide +kernel) (by decide +kernel)
set_option maxRecDepth 20000 in
theorem pw_462 : GoodIn lw_tbl [Cond.selects RX5 yX5_start yX5_start] := goodIn_r _ [740] (by decide +kernel) (by decide +kernel)
set_option maxRecDepth 20000 in
theorem pw_463 : GoodIn lw_tbl [Cond.instanceMethod yX5_start] := goodIn_r _ [739] (by decide +kernel) (by decide +kernel)
set_option maxRecDepth 20000 in
theorem pw_464 : GoodIn lw_tbl [Cond.methodLink RX8 190 yX5_start] := goodIn_r _ [738] (by decide +kernel) (by decide +kernel)
set_option maxRecDepth 20000 in
theorem pw_465 : GoodIn lw_tbl [Cond.code yX0_writeFacts cX0_writeFacts 7 (some .int)] := goodIn_r _ [737] (by decide +kernel) (by decide +kernel)
set_option maxRecDepth 20000 in
theorem pw_466 : GoodIn lw_tbl [Cond.selects RX0 yX0_writeFacts yX0_writeFacts] := goodIn_r _ [21] (by decide +kernel) (by decide +kernel)
set_option maxRecDepth 20000 in
theorem pw_467 : GoodIn lw_tbl [Cond.instanceMethod yX0_writeFacts] := goodIn_r _ [736] (by decide +kernel) (by decide +kernel)
set_option maxRecDepth 20000 in
theorem pw_468 : GoodIn lw_tbl [Cond.methodLink RX0 54 yX0_writeFacts] := goodIn_r _ [734] (by decide +kernel) (by decide +kernel)
set_option maxRecDepth 20000 in
theorem pw_469 : GoodIn lw_tbl [Cond.constant RX0 53 (65536)] := goodIn_r _ [733] (by decide +kernel) (by decide +kernel)
set_option maxRecDepth 20000 in
theorem pw_470 : GoodIn lw_tbl [Cond.code yX0_writeTo cX0_writeTo 8 none] := goodIn_r _ [732] (by decide +kernel) (by decide +kernel)
set_option maxRecDepth 20000 in
theorem pw_471 : GoodIn lw_tbl [Cond.selects RX0 yX0_writeTo yX0_writeTo] := goodIn_r _ [731] (by decide +kernel) (by decide +kernel)
set_option maxRecDepth 20000 in
theorem pw_472 : GoodIn lw_tbl [Cond.instanceMethod yX0_writeTo] := goodIn_r _ [730] (by decide +kernel) (by decide +kernel)
set_option maxRecDepth 20000 in
theorem pw_473 : GoodIn lw_tbl [Cond.methodLink RX8 186 yX0_writeTo] := goodIn_r _ [729] (by decide +kernel) (by decide +kernel)
set_option maxRecDepth 20000 in
theorem pw_474 : GoodIn lw_tbl [Cond.fieldLink RX7 18 "NightBook$World" "people" "I"] := goodIn_r _ [103] (by decide +kernel) (by decide +kernel)
set_option maxRecDepth 20000 in
theorem pw_475 : GoodIn lw_tbl [Cond.code yX7_allPeople cX7_allPeople 1 (some .int)] := goodIn_r _ [728] (by decide +kernel) (by decide +kernel)
set_option maxRecDepth 20000 in
theorem pw_476 : GoodIn lw_tbl [Cond.selects RX7 yX7_allPeople yX7_allPeople] := goodIn_r _ [727] (by decide +kernel) (by decide +kernel)
set_option maxRecDepth 20000 in
theorem pw_477 : GoodIn lw_tbl [Cond.instanceMethod yX7_allPeople] := goodIn_r _ [726] (by decide +kernel) (by decide +kernel)
set_option maxRecDepth 20000 in
theorem pw_478 : GoodIn lw_tbl [Cond.methodLink RX0 50 yX7_allPeople] := goodIn_r _ [725] (by decide +kernel) (by decide +kernel)
set_option maxRecDepth 20000 in
theorem pw_479 : GoodIn lw_tbl [Cond.fieldLink RX7 15 "NightBook$World" "signs" "I"] := goodIn_r _ [100] (by decide +kernel) (by decide +kernel)
set_option maxRecDepth 20000 in
theorem pw_480 : GoodIn lw_tbl [Cond.code yX7_allSigns cX7_allSigns 1 (some .int)] := goodIn_r _ [724] (by decide +kernel) (by decide +kernel)
set_option maxRecDepth 20000 in
theorem pw_481 : GoodIn lw_tbl [Cond.selects RX7 yX7_allSigns yX7_allSigns] := goodIn_r _ [723] (by decide +kernel) (by decide +kernel)
set_option maxRecDepth 20000 in
theorem pw_482 : GoodIn lw_tbl [Cond.instanceMethod yX7_allSigns] := goodIn_r _ [722] (by decide +kernel) (by decide +kernel)
set_option maxRecDepth 20000 in
theorem pw_483 : GoodIn lw_tbl [Cond.methodLink RX0 47 yX7_allSigns] := goodIn_r _ [721] (by decide +kernel) (by decide +kernel)
set_option maxRecDepth 20000 in
theorem pw_484 : GoodIn lw_tbl [Cond.code yX8_tryRow cX8_tryRow 3 (some .int)] := goodIn_r _ [750] (by decide +kernel) (by decide +kernel)
set_option maxRecDepth 20000 in
theorem pw_485 : GoodIn lw_tbl [Cond.selects RX8 yX8_tryRow yX8_tryRow] := goodIn_r _ [22] (by decide +kernel) (by decide +kernel)
set_option maxRecDepth 20000 in
theorem pw_486 : GoodIn lw_tbl [Cond.instanceMethod yX8_tryRow] := goodIn_r _ [749] (by decide +kernel) (by decide +kernel)
set_option maxRecDepth 20000 in
theorem pw_487 : GoodIn lw_tbl [Cond.methodLink RX8 195 yX8_tryRow] := goodIn_r _ [747] (by decide +kernel) (by decide +kernel)
set_option maxRecDepth 20000 in
theorem pw_488 : GoodIn lw_tbl [Cond.fieldLink RX5 9 "NightBook$Tally" "rows" "[I"] := goodIn_r _ [279] (by decide +kernel) (by decide +kernel)
set_option maxRecDepth 20000 in
theorem pw_489 : GoodIn lw_tbl [Cond.code yX5_rowAt cX5_rowAt 2 (some .int)] := goodIn_r _ [746] (by decide +kernel) (by decide +kernel)
set_option maxRecDepth 20000 in
theorem pw_490 : GoodIn lw_tbl [Cond.selects RX5 yX5_rowAt yX5_rowAt] := goodIn_r _ [745] (by decide +kernel) (by decide +kernel)
set_option maxRecDepth 20000 in
theorem pw_491 : GoodIn lw_tbl [Cond.instanceMethod yX5_rowAt] := goodIn_r _ [744] (by decide +kernel) (by decide +kernel)
set_option maxRecDepth 20000 in
theorem pw_492 : GoodIn lw_tbl [Cond.methodLink RX8 192 yX5_rowAt] := goodIn_r _ [743] (by decide +kernel) (by decide +kernel)
set_option maxRecDepth 20000 in
theorem pw_493 : GoodIn lw_tbl [Cond.methodLink RX5 47 yJ7_fill_53178] := goodIn_r _ [742] (by decide +kernel) (by decide +kernel)
set_option maxRecDepth 20000 in
theorem pw_494 : GoodIn lw_tbl [Cond.fieldLink RX5 44 "NightBook$Tally" "badEnd" "I"] := goodIn_r _ [294] (by decide +kernel) (by decide +kernel)
set_option maxRecDepth 20000 in
theorem pw_495 : GoodIn lw_tbl [Cond.fieldLink RX5 41 "NightBook$Tally" "badRow" "I"] := goodIn_r _ [293] (by decide +kernel) (by decide +kernel)
set_option maxRecDepth 20000 in
theorem pw_496 : GoodIn lw_tbl [Cond.fieldLink RX5 38 "NightBook$Tally" "longest" "I"] := goodIn_r _ [292] (by decide +kernel) (by decide +kernel)
set_option maxRecDepth 20000 in
theorem pw_497 : GoodIn lw_tbl [Cond.fieldLink RX5 35 "NightBook$Tally" "mostTicks" "I"] := goodIn_r _ [291] (by decide +kernel) (by decide +kernel)
set_option maxRecDepth 20000 in
theorem pw_498 : GoodIn lw_tbl [Cond.fieldLink RX5 32 "NightBook$Tally" "leastTicks" "I"] := goodIn_r _ [290] (by decide +kernel) (by decide +kernel)
set_option maxRecDepth 20000 in
theorem pw_499 : GoodIn lw_tbl [Cond.fieldLink RX5 29 "NightBook$Tally" "bad" "I"] := goodIn_r _ [288] (by decide +kernel) (by decide +kernel)
set_option maxRecDepth 20000 in
theorem pw_500 : GoodIn lw_tbl [Cond.fieldLink RX5 26 "NightBook$Tally" "plays" "I"] := goodIn_r _ [286] (by decide +kernel) (by decide +kernel)
set_option maxRecDepth 20000 in
theorem pw_501 : GoodIn lw_tbl [Cond.fieldLink RX5 22 "NightBook$Tally" "book" "I"] := goodIn_r _ [284] (by decide +kernel) (by decide +kernel)
set_option maxRecDepth 20000 in
theorem pw_502 : GoodIn lw_tbl [Cond.fieldLink RX5 18 "NightBook$Tally" "told" "Z"] := goodIn_r _ [282] (by decide +kernel) (by decide +kernel)
set_option maxRecDepth 20000 in
theorem pw_503 : GoodIn lw_tbl [Cond.fieldLink RX5 15 "NightBook$Tally" "ends" "[I"] := goodIn_r _ [281] (by decide +kernel) (by decide +kernel)
set_option maxRecDepth 20000 in
theorem pw_504 : GoodIn lw_tbl [Cond.methodLink RX5 57 yX5_rowAt] := goodIn_r _ [759] (by decide +kernel) (by decide +kernel)
set_option maxRecDepth 20000 in
theorem pw_505 : GoodIn lw_tbl [Cond.code yX5_addCalm cX5_addCalm 3 none] := goodIn_r _ [758] (by decide +kernel) (by decide +kernel)
set_option maxRecDepth 20000 in
theorem pw_506 : GoodIn lw_tbl [Cond.selects RX5 yX5_addCalm yX5_addCalm] := goodIn_r _ [23] (by decide +kernel) (by decide +kernel)
set_option maxRecDepth 20000 in
theorem pw_507 : GoodIn lw_tbl [Cond.instanceMethod yX5_addCalm] := goodIn_r _ [757] (by decide +kernel) (by decide +kernel)
set_option maxRecDepth 20000 in
theorem pw_508 : GoodIn lw_tbl [Cond.methodLink RX5 53 yX5_addCalm] := goodIn_r _ [755] (by decide +kernel) (by decide +kernel)
set_option maxRecDepth 20000 in
theorem pw_509 : GoodIn lw_tbl [Cond.code yX5_add cX5_add 4 none] := goodIn_r _ [754] (by decide +kernel) (by decide +kernel)
set_option maxRecDepth 20000 in
theorem pw_510 : GoodIn lw_tbl [Cond.selects RX5 yX5_add yX5_add] := goodIn_r _ [753] (by decide +kernel) (by decide +kernel)
set_option maxRecDepth 20000 in
theorem pw_511 : GoodIn lw_tbl [Cond.instanceMethod yX5_add] := goodIn_r _ [752] (by decide +kernel) (by decide +kernel)
set_option maxRecDepth 20000 in
theorem pw_512 : GoodIn lw_tbl [Cond.methodLink RX8 202 yX5_add] := goodIn_r _ [751] (by decide +kernel) (by decide +kernel)
set_option maxRecDepth 20000 in
theorem pw_513 : GoodIn lw_tbl [Cond.code yX11_all cX11_all 8 (some .int)] := goodIn_r _ [1399] (by decide +kernel) (by decide +kernel)
set_option maxRecDepth 20000 in
theorem pw_514 : GoodIn lw_tbl [Cond.fieldLink RX11 67 "NightBookModel" "choice" "[I"] := goodIn_r _ [1081] (by decide +kernel) (by decide +kernel)
set_option maxRecDepth 20000 in
theorem pw_515 : GoodIn lw_tbl [Cond.fieldLink RX11 73 "NightBookModel" "allChoice" "[I"] := goodIn_r _ [1088] (by decide +kernel) (by decide +kernel)
set_option maxRecDepth 20000 in
theorem pw_516 : GoodIn lw_tbl [Cond.fieldLink RX11 79 "NightBookModel" "told" "[I"] := goodIn_r _ [1090] (by decide +kernel) (by decide +kernel)
set_option maxRecDepth 20000 in
theorem pw_517 : GoodIn lw_tbl [Cond.fieldLink RX11 76 "NightBookModel" "ended" "[I"] := goodIn_r _ [1089] (by decide +kernel) (by decide +kernel)
set_option maxRecDepth 20000 in
theorem pw_518 : GoodIn lw_tbl [Cond.fieldLink RX11 334 "NightBookModel" "allBad" "I"] := goodIn_r _ [1087] (by decide +kernel) (by decide +kernel)
set_option maxRecDepth 20000 in
theorem pw_519 : GoodIn lw_tbl [Cond.fieldLink RX11 331 "NightBookModel" "allMany" "I"] := goodIn_r _ [1086] (by decide +kernel) (by decide +kernel)
set_option maxRecDepth 20000 in
theorem pw_520 : GoodIn lw_tbl [Cond.fieldLink RX11 314 "NightBookModel" "choices" "I"] := goodIn_r _ [1083] (by decide +kernel) (by decide +kernel)
set_option maxRecDepth 20000 in
theorem pw_521 : GoodIn lw_tbl [Cond.fieldLink RX11 328 "NightBookModel" "allBook" "I"] := goodIn_r _ [1085] (by decide +kernel) (by decide +kernel)
set_option maxRecDepth 20000 in
theorem pw_522 : GoodIn lw_tbl [Cond.fieldLink RX11 325 "NightBookModel" "hasAll" "Z"] := goodIn_r _ [1084] (by decide +kernel) (by decide +kernel)
set_option maxRecDepth 20000 in
theorem pw_523 : GoodIn lw_tbl [Cond.code yX11_playsChoice cX11_playsChoice 3 (some .int)] := goodIn_r _ [1411] (by decide +kernel) (by decide +kernel)
set_option maxRecDepth 20000 in
theorem pw_524 : GoodIn lw_tbl [Cond.selects RX11 yX11_playsChoice yX11_playsChoice] := goodIn_r _ [51] (by decide +kernel) (by decide +kernel)
set_option maxRecDepth 20000 in
theorem pw_525 : GoodIn lw_tbl [Cond.instanceMethod yX11_playsChoice] := goodIn_r _ [1410] (by decide +kernel) (by decide +kernel)
set_option maxRecDepth 20000 in
theorem pw_526 : GoodIn lw_tbl [Cond.methodLink RX11 337 yX11_playsChoice] := goodIn_r _ [1408] (by decide +kernel) (by decide +kernel)
set_option maxRecDepth 20000 in
theorem pw_527 : GoodIn lw_tbl [Cond.code yX11_bits cX11_bits 3 (some .int)] := goodIn_r _ [1406] (by decide +kernel) (by decide +kernel)
set_option maxRecDepth 20000 in
theorem pw_528 : GoodIn lw_tbl [Cond.static yX11_bits] := goodIn_r _ [1405] (by decide +kernel) (by decide +kernel)
set_option maxRecDepth 20000 in
theorem pw_529 : GoodIn lw_tbl [Cond.methodLink RX11 317 yX11_bits] := goodIn_r _ [1404] (by decide +kernel) (by decide +kernel)
set_option maxRecDepth 20000 in
theorem pw_530 : GoodIn lw_tbl [Cond.fieldLink RX11 70 "NightBookModel" "sorted" "[I"] := goodIn_r _ [1082] (by decide +kernel) (by decide +kernel)
set_option maxRecDepth 20000 in
theorem pw_531 : GoodIn lw_tbl [Cond.constant RX11 320 (65536)] := goodIn_r _ [1407] (by decide +kernel) (by decide +kernel)
set_option maxRecDepth 20000 in
theorem pw_532 : GoodIn lw_tbl [Cond.code yX11_chooses cX11_chooses 9 (some .boolean)] := goodIn_r _ [1403] (by decide +kernel) (by decide +kernel)
set_option maxRecDepth 20000 in
theorem pw_533 : GoodIn lw_tbl [Cond.selects RX11 yX11_chooses yX11_chooses] := goodIn_r _ [50] (by decide +kernel) (by decide +kernel)
set_option maxRecDepth 20000 in
theorem pw_534 : GoodIn lw_tbl [Cond.instanceMethod yX11_chooses] := goodIn_r _ [1402] (by decide +kernel) (by decide +kernel)
set_option maxRecDepth 20000 in
theorem pw_535 : GoodIn lw_tbl [Cond.methodLink RX11 321 yX11_chooses] := goodIn_r _ [1400] (by decide +kernel) (by decide +kernel)
set_option maxRecDepth 20000 in
theorem pw_536 : GoodIn lw_tbl [Cond.code yX8_ended cX8_ended 2 (some .int)] := goodIn_r _ [763] (by decide +kernel) (by decide +kernel)
set_option maxRecDepth 20000 in
theorem pw_537 : GoodIn lw_tbl [Cond.code yX5_endedBy cX5_endedBy 2 (some .int)] := goodIn_r _ [767] (by decide +kernel) (by decide +kernel)
set_option maxRecDepth 20000 in
theorem pw_538 : GoodIn lw_tbl [Cond.selects RX5 yX5_endedBy yX5_endedBy] := goodIn_r _ [766] (by decide +kernel) (by decide +kernel)
set_option maxRecDepth 20000 in
theorem pw_539 : GoodIn lw_tbl [Cond.instanceMethod yX5_endedBy] := goodIn_r _ [765] (by decide +kernel) (by decide +kernel)
set_option maxRecDepth 20000 in
theorem pw_540 : GoodIn lw_tbl [Cond.methodLink RX8 209 yX5_endedBy] := goodIn_r _ [764] (by decide +kernel) (by decide +kernel)
set_option maxRecDepth 20000 in
theorem pw_541 : GoodIn lw_tbl [Cond.code yX11_ended cX11_ended 2 (some .int)] := goodIn_r _ [1415] (by decide +kernel) (by decide +kernel)
set_option maxRecDepth 20000 in
theorem pw_542 : GoodIn lw_tbl [Cond.code yX8_allOf cX8_allOf 2 (some .int)] := goodIn_r _ [771] (by decide +kernel) (by decide +kernel)
set_option maxRecDepth 20000 in
theorem pw_543 : GoodIn lw_tbl [Cond.code yX5_about cX5_about 2 (some .int)] := goodIn_r _ [775] (by decide +kernel) (by decide +kernel)
set_option maxRecDepth 20000 in
theorem pw_544 : GoodIn lw_tbl [Cond.selects RX5 yX5_about yX5_about] := goodIn_r _ [774] (by decide +kernel) (by decide +kernel)
set_option maxRecDepth 20000 in
theorem pw_545 : GoodIn lw_tbl [Cond.instanceMethod yX5_about] := goodIn_r _ [773] (by decide +kernel) (by decide +kernel)
set_option maxRecDepth 20000 in
theorem pw_546 : GoodIn lw_tbl [Cond.methodLink RX8 212 yX5_about] := goodIn_r _ [772] (by decide +kernel) (by decide +kernel)
set_option maxRecDepth 20000 in
theorem pw_547 : GoodIn lw_tbl [Cond.code yX11_allOf cX11_allOf 2 (some .int)] := goodIn_r _ [1419] (by decide +kernel) (by decide +kernel)
set_option maxRecDepth 20000 in
theorem pw_548 : GoodIn lw_tbl [Cond.code yX8_idle cX8_idle 2 (some .int)] := goodIn_r _ [779] (by decide +kernel) (by decide +kernel)
set_option maxRecDepth 20000 in
theorem pw_549 : GoodIn lw_tbl [Cond.code yX7_nextOf cX7_nextOf 4 (some .int)] := goodIn_r _ [788] (by decide +kernel) (by decide +kernel)
set_option maxRecDepth 20000 in
theorem pw_550 : GoodIn lw_tbl [Cond.selects RX7 yX7_nextOf yX7_nextOf] := goodIn_r _ [24] (by decide +kernel) (by decide +kernel)
set_option maxRecDepth 20000 in
theorem pw_551 : GoodIn lw_tbl [Cond.instanceMethod yX7_nextOf] := goodIn_r _ [787] (by decide +kernel) (by decide +kernel)
set_option maxRecDepth 20000 in
theorem pw_552 : GoodIn lw_tbl [Cond.methodLink RX7 59 yX7_nextOf] := goodIn_r _ [785] (by decide +kernel) (by decide +kernel)
set_option maxRecDepth 20000 in
theorem pw_553 : GoodIn lw_tbl [Cond.methodLink RX7 56 yX7_sizeOf] := goodIn_r _ [784] (by decide +kernel) (by decide +kernel)
set_option maxRecDepth 20000 in
theorem pw_554 : GoodIn lw_tbl [Cond.code yX7_reached cX7_reached 7 (some .int)] := goodIn_r _ [783] (by decide +kernel) (by decide +kernel)
set_option maxRecDepth 20000 in
theorem pw_555 : GoodIn lw_tbl [Cond.selects RX7 yX7_reached yX7_reached] := goodIn_r _ [782] (by decide +kernel) (by decide +kernel)
set_option maxRecDepth 20000 in
theorem pw_556 : GoodIn lw_tbl [Cond.instanceMethod yX7_reached] := goodIn_r _ [781] (by decide +kernel) (by decide +kernel)
set_option maxRecDepth 20000 in
theorem pw_557 : GoodIn lw_tbl [Cond.methodLink RX8 213 yX7_reached] := goodIn_r _ [780] (by decide +kernel) (by decide +kernel)
set_option maxRecDepth 20000 in
theorem pw_558 : GoodIn lw_tbl [Cond.methodLink RX8 216 yJ6_bitCount_0f7a4] := goodIn_r _ [789] (by decide +kernel) (by decide +kernel)
set_option maxRecDepth 20000 in
theorem pw_559 : GoodIn lw_tbl [Cond.code yX11_idle cX11_idle 4 (some .int)] := goodIn_r _ [1423] (by decide +kernel) (by decide +kernel)
set_option maxRecDepth 20000 in
theorem pw_560 : GoodIn lw_tbl [Cond.code yX11_reaches cX11_reaches 7 none] := goodIn_r _ [1427] (by decide +kernel) (by decide +kernel)
set_option maxRecDepth 20000 in
theorem pw_561 : GoodIn lw_tbl [Cond.selects RX11 yX11_reaches yX11_reaches] := goodIn_r _ [52] (by decide +kernel) (by decide +kernel)
set_option maxRecDepth 20000 in
theorem pw_562 : GoodIn lw_tbl [Cond.instanceMethod yX11_reaches] := goodIn_r _ [1426] (by decide +kernel) (by decide +kernel)
set_option maxRecDepth 20000 in
theorem pw_563 : GoodIn lw_tbl [Cond.methodLink RX11 340 yX11_reaches] := goodIn_r _ [1424] (by decide +kernel) (by decide +kernel)
set_option maxRecDepth 20000 in
theorem pw_564 : GoodIn lw_tbl [Cond.fieldLink RX11 82 "NightBookModel" "reached" "[Z"] := goodIn_r _ [1091] (by decide +kernel) (by decide +kernel)
set_option maxRecDepth 20000 in
theorem pw_565 : GoodIn lw_tbl [Cond.code yX8_look cX8_look 3 (some .int)] := goodIn_r _ [793] (by decide +kernel) (by decide +kernel)
set_option maxRecDepth 20000 in
theorem pw_566 : GoodIn lw_tbl [Cond.code yX7_skillsOf cX7_skillsOf 2 (some .int)] := goodIn_r _ [806] (by decide +kernel) (by decide +kernel)
set_option maxRecDepth 20000 in
theorem pw_567 : GoodIn lw_tbl [Cond.selects RX7 yX7_skillsOf yX7_skillsOf] := goodIn_r _ [805] (by decide +kernel) (by decide +kernel)
set_option maxRecDepth 20000 in
theorem pw_568 : GoodIn lw_tbl [Cond.instanceMethod yX7_skillsOf] := goodIn_r _ [804] (by decide +kernel) (by decide +kernel)
set_option maxRecDepth 20000 in
theorem pw_569 : GoodIn lw_tbl [Cond.methodLink RX7 40 yX7_skillsOf] := goodIn_r _ [803] (by decide +kernel) (by decide +kernel)
set_option maxRecDepth 20000 in
theorem pw_570 : GoodIn lw_tbl [Cond.code yX7_someoneCan cX7_someoneCan 4 (some .boolean)] := goodIn_r _ [802] (by decide +kernel) (by decide +kernel)
set_option maxRecDepth 20000 in
theorem pw_571 : GoodIn lw_tbl [Cond.selects RX7 yX7_someoneCan yX7_someoneCan] := goodIn_r _ [801] (by decide +kernel) (by decide +kernel)
set_option maxRecDepth 20000 in
theorem pw_572 : GoodIn lw_tbl [Cond.instanceMethod yX7_someoneCan] := goodIn_r _ [800] (by decide +kernel) (by decide +kernel)
set_option maxRecDepth 20000 in
theorem pw_573 : GoodIn lw_tbl [Cond.methodLink RX7 52 yX7_someoneCan] := goodIn_r _ [799] (by decide +kernel) (by decide +kernel)
set_option maxRecDepth 20000 in
theorem pw_574 : GoodIn lw_tbl [Cond.methodLink RX7 48 yX7_isDo] := goodIn_r _ [798] (by decide +kernel) (by decide +kernel)
set_option maxRecDepth 20000 in
theorem pw_575 : GoodIn lw_tbl [Cond.code yX7_isDoable cX7_isDoable 3 (some .boolean)] := goodIn_r _ [797] (by decide +kernel) (by decide +kernel)
set_option maxRecDepth 20000 in
theorem pw_576 : GoodIn lw_tbl [Cond.selects RX7 yX7_isDoable yX7_isDoable] := goodIn_r _ [796] (by decide +kernel) (by decide +kernel)
set_option maxRecDepth 20000 in
theorem pw_577 : GoodIn lw_tbl [Cond.instanceMethod yX7_isDoable] := goodIn_r _ [795] (by decide +kernel) (by decide +kernel)
set_option maxRecDepth 20000 in
theorem pw_578 : GoodIn lw_tbl [Cond.methodLink RX8 221 yX7_isDoable] := goodIn_r _ [794] (by decide +kernel) (by decide +kernel)
set_option maxRecDepth 20000 in
theorem pw_579 : GoodIn lw_tbl [Cond.code yX11_look cX11_look 5 (some .int)] := goodIn_r _ [1431] (by decide +kernel) (by decide +kernel)
set_option maxRecDepth 20000 in
theorem pw_580 : GoodIn lw_tbl [Cond.code yX8_mends cX8_mends 3 (some .int)] := goodIn_r _ [810] (by decide +kernel) (by decide +kernel)
set_option maxRecDepth 20000 in
theorem pw_581 : GoodIn lw_tbl [Cond.code yX8_countMends cX8_countMends 6 (some .int)] := goodIn_r _ [814] (by decide +kernel) (by decide +kernel)
set_option maxRecDepth 20000 in
theorem pw_582 : GoodIn lw_tbl [Cond.selects RX8 yX8_countMends yX8_countMends] := goodIn_r _ [25] (by decide +kernel) (by decide +kernel)
set_option maxRecDepth 20000 in
theorem pw_583 : GoodIn lw_tbl [Cond.instanceMethod yX8_countMends] := goodIn_r _ [813] (by decide +kernel) (by decide +kernel)
set_option maxRecDepth 20000 in
theorem pw_584 : GoodIn lw_tbl [Cond.methodLink RX8 245 yX8_countMends] := goodIn_r _ [811] (by decide +kernel) (by decide +kernel)
set_option maxRecDepth 20000 in
theorem pw_585 : GoodIn lw_tbl [Cond.fieldLink RX8 65 "NightBook" "cures" "LNightBook$Cures;"] := goodIn_r _ [372] (by decide +kernel) (by decide +kernel)
set_option maxRecDepth 20000 in
theorem pw_586 : GoodIn lw_tbl [Cond.fieldLink RX1 21 "NightBook$Cures" "change" "I"] := goodIn_r _ [328] (by decide +kernel) (by decide +kernel)
set_option maxRecDepth 20000 in
theorem pw_587 : GoodIn lw_tbl [Cond.fieldLink RX1 18 "NightBook$Cures" "which" "I"] := goodIn_r _ [327] (by decide +kernel) (by decide +kernel)
set_option maxRecDepth 20000 in
theorem pw_588 : GoodIn lw_tbl [Cond.fieldLink RX1 15 "NightBook$Cures" "kind" "I"] := goodIn_r _ [326] (by decide +kernel) (by decide +kernel)
set_option maxRecDepth 20000 in
theorem pw_589 : GoodIn lw_tbl [Cond.fieldLink RX1 9 "NightBook$Cures" "count" "I"] := goodIn_r _ [324] (by decide +kernel) (by decide +kernel)
set_option maxRecDepth 20000 in
theorem pw_590 : GoodIn lw_tbl [Cond.code yX1_forget cX1_forget 1 none] := goodIn_r _ [819] (by decide +kernel) (by decide +kernel)
set_option maxRecDepth 20000 in
theorem pw_591 : GoodIn lw_tbl [Cond.initialized RX1] := goodIn_r _ [68] (by decide +kernel) (by decide +kernel)
set_option maxRecDepth 20000 in
theorem pw_592 : GoodIn lw_tbl [Cond.selects RX1 yX1_forget yX1_forget] := goodIn_r _ [818] (by decide +kernel) (by decide +kernel)
set_option maxRecDepth 20000 in
theorem pw_593 : GoodIn lw_tbl [Cond.instanceMethod yX1_forget] := goodIn_r _ [817] (by decide +kernel) (by decide +kernel)
set_option maxRecDepth 20000 in
theorem pw_594 : GoodIn lw_tbl [Cond.methodLink RX8 248 yX1_forget] := goodIn_r _ [816] (by decide +kernel) (by decide +kernel)
set_option maxRecDepth 20000 in
theorem pw_595 : GoodIn lw_tbl [Cond.methodLink RX8 224 yX7_skillsOf] := goodIn_r _ [815] (by decide +kernel) (by decide +kernel)
set_option maxRecDepth 20000 in
theorem pw_596 : GoodIn lw_tbl [Cond.code yX8_allCalm cX8_allCalm 2 (some .boolean)] := goodIn_r _ [828] (by decide +kernel) (by decide +kernel)
set_option maxRecDepth 20000 in
theorem pw_597 : GoodIn lw_tbl [Cond.selects RX8 yX8_allCalm yX8_allCalm] := goodIn_r _ [27] (by decide +kernel) (by decide +kernel)
set_option maxRecDepth 20000 in
theorem pw_598 : GoodIn lw_tbl [Cond.instanceMethod yX8_allCalm] := goodIn_r _ [827] (by decide +kernel) (by decide +kernel)
set_option maxRecDepth 20000 in
theorem pw_599 : GoodIn lw_tbl [Cond.methodLink RX8 237 yX8_allCalm] := goodIn_r _ [825] (by decide +kernel) (by decide +kernel)
set_option maxRecDepth 20000 in
theorem pw_600 : GoodIn lw_tbl [Cond.methodLink RX8 233 yX7_setCell] := goodIn_r _ [824] (by decide +kernel) (by decide +kernel)
set_option maxRecDepth 20000 in
theorem pw_601 : GoodIn lw_tbl [Cond.code yX8_tryTargets cX8_tryTargets 6 none] := goodIn_r _ [823] (by decide +kernel) (by decide +kernel)
set_option maxRecDepth 20000 in
theorem pw_602 : GoodIn lw_tbl [Cond.selects RX8 yX8_tryTargets yX8_tryTargets] := goodIn_r _ [26] (by decide +kernel) (by decide +kernel)
set_option maxRecDepth 20000 in
theorem pw_603 : GoodIn lw_tbl [Cond.instanceMethod yX8_tryTargets] := goodIn_r _ [822] (by decide +kernel) (by decide +kernel)
set_option maxRecDepth 20000 in
theorem pw_604 : GoodIn lw_tbl [Cond.methodLink RX8 251 yX8_tryTargets] := goodIn_r _ [820] (by decide +kernel) (by decide +kernel)
set_option maxRecDepth 20000 in
theorem pw_605 : GoodIn lw_tbl [Cond.code yX8_trySkills cX8_trySkills 5 none] := goodIn_r _ [836] (by decide +kernel) (by decide +kernel)
set_option maxRecDepth 20000 in
theorem pw_606 : GoodIn lw_tbl [Cond.selects RX8 yX8_trySkills yX8_trySkills] := goodIn_r _ [28] (by decide +kernel) (by decide +kernel)
set_option maxRecDepth 20000 in
theorem pw_607 : GoodIn lw_tbl [Cond.instanceMethod yX8_trySkills] := goodIn_r _ [835] (by decide +kernel) (by decide +kernel)
set_option maxRecDepth 20000 in
theorem pw_608 : GoodIn lw_tbl [Cond.methodLink RX8 254 yX8_trySkills] := goodIn_r _ [833] (by decide +kernel) (by decide +kernel)
set_option maxRecDepth 20000 in
theorem pw_609 : GoodIn lw_tbl [Cond.code yX1_add cX1_add 4 none] := goodIn_r _ [832] (by decide +kernel) (by decide +kernel)
set_option maxRecDepth 20000 in
theorem pw_610 : GoodIn lw_tbl [Cond.selects RX1 yX1_add yX1_add] := goodIn_r _ [831] (by decide +kernel) (by decide +kernel)
set_option maxRecDepth 20000 in
theorem pw_611 : GoodIn lw_tbl [Cond.instanceMethod yX1_add] := goodIn_r _ [830] (by decide +kernel) (by decide +kernel)
set_option maxRecDepth 20000 in
theorem pw_612 : GoodIn lw_tbl [Cond.methodLink RX8 240 yX1_add] := goodIn_r _ [829] (by decide +kernel) (by decide +kernel)
set_option maxRecDepth 20000 in
theorem pw_613 : GoodIn lw_tbl [Cond.code yX11_mends cX11_mends 5 (some .int)] := goodIn_r _ [1435] (by decide +kernel) (by decide +kernel)
set_option maxRecDepth 20000 in
theorem pw_614 : GoodIn lw_tbl [Cond.fieldLink RX11 358 "NightBookModel" "hasMend" "Z"] := goodIn_r _ [1093] (by decide +kernel) (by decide +kernel)
set_option maxRecDepth 20000 in
theorem pw_615 : GoodIn lw_tbl [Cond.fieldLink RX11 344 "NightBookModel" "mends" "I"] := goodIn_r _ [1094] (by decide +kernel) (by decide +kernel)
set_option maxRecDepth 20000 in
theorem pw_616 : GoodIn lw_tbl [Cond.code yX11_cures cX11_cures 3 (some .boolean)] := goodIn_r _ [1443] (by decide +kernel) (by decide +kernel)
set_option maxRecDepth 20000 in
theorem pw_617 : GoodIn lw_tbl [Cond.selects RX11 yX11_cures yX11_cures] := goodIn_r _ [54] (by decide +kernel) (by decide +kernel)
set_option maxRecDepth 20000 in
theorem pw_618 : GoodIn lw_tbl [Cond.instanceMethod yX11_cures] := goodIn_r _ [1442] (by decide +kernel) (by decide +kernel)
set_option maxRecDepth 20000 in
theorem pw_619 : GoodIn lw_tbl [Cond.methodLink RX11 347 yX11_cures] := goodIn_r _ [1440] (by decide +kernel) (by decide +kernel)
set_option maxRecDepth 20000 in
theorem pw_620 : GoodIn lw_tbl [Cond.code yX11_targets cX11_targets 7 none] := goodIn_r _ [1439] (by decide +kernel) (by decide +kernel)
set_option maxRecDepth 20000 in
theorem pw_621 : GoodIn lw_tbl [Cond.selects RX11 yX11_targets yX11_targets] := goodIn_r _ [53] (by decide +kernel) (by decide +kernel)
set_option maxRecDepth 20000 in
theorem pw_622 : GoodIn lw_tbl [Cond.instanceMethod yX11_targets] := goodIn_r _ [1438] (by decide +kernel) (by decide +kernel)
set_option maxRecDepth 20000 in
theorem pw_623 : GoodIn lw_tbl [Cond.methodLink RX11 354 yX11_targets] := goodIn_r _ [1436] (by decide +kernel) (by decide +kernel)
set_option maxRecDepth 20000 in
theorem pw_624 : GoodIn lw_tbl [Cond.fieldLink RX11 86 "NightBookModel" "mend" "[I"] := goodIn_r _ [1092] (by decide +kernel) (by decide +kernel)
set_option maxRecDepth 20000 in
theorem pw_625 : GoodIn lw_tbl [Cond.code yX11_cured cX11_cured 4 none] := goodIn_r _ [1447] (by decide +kernel) (by decide +kernel)
set_option maxRecDepth 20000 in
theorem pw_626 : GoodIn lw_tbl [Cond.selects RX11 yX11_cured yX11_cured] := goodIn_r _ [55] (by decide +kernel) (by decide +kernel)
set_option maxRecDepth 20000 in
theorem pw_627 : GoodIn lw_tbl [Cond.instanceMethod yX11_cured] := goodIn_r _ [1446] (by decide +kernel) (by decide +kernel)
set_option maxRecDepth 20000 in
theorem pw_628 : GoodIn lw_tbl [Cond.methodLink RX11 351 yX11_cured] := goodIn_r _ [1444] (by decide +kernel) (by decide +kernel)
set_option maxRecDepth 20000 in
theorem pw_629 : GoodIn lw_tbl [Cond.code yX8_mend cX8_mend 2 (some .int)] := goodIn_r _ [840] (by decide +kernel) (by decide +kernel)
set_option maxRecDepth 20000 in
theorem pw_630 : GoodIn lw_tbl [Cond.code yX1_about cX1_about 2 (some .int)] := goodIn_r _ [844] (by decide +kernel) (by decide +kernel)
set_option maxRecDepth 20000 in
theorem pw_631 : GoodIn lw_tbl [Cond.selects RX1 yX1_about yX1_about] := goodIn_r _ [843] (by decide +kernel) (by decide +kernel)
set_option maxRecDepth 20000 in
theorem pw_632 : GoodIn lw_tbl [Cond.instanceMethod yX1_about] := goodIn_r _ [842] (by decide +kernel) (by decide +kernel)
set_option maxRecDepth 20000 in
theorem pw_633 : GoodIn lw_tbl [Cond.methodLink RX8 260 yX1_about] := goodIn_r _ [841] (by decide +kernel) (by decide +kernel)
set_option maxRecDepth 20000 in
theorem pw_634 : GoodIn lw_tbl [Cond.code yX11_mend cX11_mend 2 (some .int)] := goodIn_r _ [1451] (by decide +kernel) (by decide +kernel)
set_option maxRecDepth 20000 in
theorem pw_635 : GoodIn lw_tbl [Cond.code yX8_nights cX8_nights 9 (some .int)] := goodIn_r _ [848] (by decide +kernel) (by decide +kernel)
set_option maxRecDepth 20000 in
theorem pw_636 : GoodIn lw_tbl [Cond.code Lib.Math.max.name Lib.Math.max.code 2 (some .int)] := goodIn_r _ [851] (by decide +kernel) (by decide +kernel)
set_option maxRecDepth 20000 in
theorem pw_637 : GoodIn lw_tbl [Cond.initialized "java/lang/Math"] := goodIn_r _ [82] (by decide +kernel) (by decide +kernel)
set_option maxRecDepth 20000 in
theorem pw_638 : GoodIn lw_tbl [Cond.static Lib.Math.max.name] := goodIn_r _ [850] (by decide +kernel) (by decide +kernel)
set_option maxRecDepth 20000 in
theorem pw_639 : GoodIn lw_tbl [Cond.methodLink RX8 261 Lib.Math.max.name] := goodIn_r _ [849] (by decide +kernel) (by decide +kernel)
set_option maxRecDepth 20000 in
theorem pw_640 : GoodIn lw_tbl [Cond.fieldLink RX8 45 "NightBook" "secondNight" "LNightBook$Walk;"] := goodIn_r _ [369] (by decide +kernel) (by decide +kernel)
set_option maxRecDepth 20000 in
theorem pw_641 : GoodIn lw_tbl [Cond.fieldLink RX8 42 "NightBook" "firstNight" "LNightBook$Walk;"] := goodIn_r _ [368] (by decide +kernel) (by decide +kernel)
set_option maxRecDepth 20000 in
theorem pw_642 : GoodIn lw_tbl [Cond.code yX11_nights cX11_nights 9 (some .int)] := goodIn_r _ [1455] (by decide +kernel) (by decide +kernel)
set_option maxRecDepth 20000 in
theorem pw_643 : GoodIn lw_tbl [Cond.methodLink RX11 415 Lib.Math.max.name] := goodIn_r _ [1484] (by decide +kernel) (by decide +kernel)
set_option maxRecDepth 20000 in
theorem pw_644 : GoodIn lw_tbl [Cond.fieldLink RX11 411 "NightBookModel" "hasNights" "Z"] := goodIn_r _ [1098] (by decide +kernel) (by decide +kernel)
set_option maxRecDepth 20000 in
theorem pw_645 : GoodIn lw_tbl [Cond.fieldLink RX11 58 "NightBookModel" "otherMark" "[I"] := goodIn_r _ [1066] (by decide +kernel) (by decide +kernel)
set_option maxRecDepth 20000 in
theorem pw_646 : GoodIn lw_tbl [Cond.fieldLink RX11 96 "NightBookModel" "nightTwo" "LNightBookModel$Night;"] := goodIn_r _ [1096] (by decide +kernel) (by decide +kernel)
set_option maxRecDepth 20000 in
theorem pw_647 : GoodIn lw_tbl [Cond.fieldLink RX11 92 "NightBookModel" "nightOne" "LNightBookModel$Night;"] := goodIn_r _ [1095] (by decide +kernel) (by decide +kernel)
set_option maxRecDepth 20000 in
theorem pw_648 : GoodIn lw_tbl [Cond.fieldLink RX11 99 "NightBookModel" "busy" "[I"] := goodIn_r _ [1097] (by decide +kernel) (by decide +kernel)
set_option maxRecDepth 20000 in
theorem pw_649 : GoodIn lw_tbl [Cond.fieldLink RX9 33 "NightBookModel$Night" "isOn" "Z"] := goodIn_r _ [1010] (by decide +kernel) (by decide +kernel)
set_option maxRecDepth 20000 in
theorem pw_650 : GoodIn lw_tbl [Cond.fieldLink RX9 30 "NightBookModel$Night" "waits" "I"] := goodIn_r _ [1008] (by decide +kernel) (by decide +kernel)
set_option maxRecDepth 20000 in
theorem pw_651 : GoodIn lw_tbl [Cond.fieldLink RX9 27 "NightBookModel$Night" "ticks" "I"] := goodIn_r _ [1006] (by decide +kernel) (by decide +kernel)
set_option maxRecDepth 20000 in
theorem pw_652 : GoodIn lw_tbl [Cond.fieldLink RX9 24 "NightBookModel$Night" "end" "I"] := goodIn_r _ [1002] (by decide +kernel) (by decide +kernel)
set_option maxRecDepth 20000 in
theorem pw_653 : GoodIn lw_tbl [Cond.fieldLink RX9 21 "NightBookModel$Night" "step" "I"] := goodIn_r _ [994] (by decide +kernel) (by decide +kernel)
set_option maxRecDepth 20000 in
theorem pw_654 : GoodIn lw_tbl [Cond.fieldLink RX9 18 "NightBookModel$Night" "lies" "I"] := goodIn_r _ [1000] (by decide +kernel) (by decide +kernel)
set_option maxRecDepth 20000 in
theorem pw_655 : GoodIn lw_tbl [Cond.fieldLink RX9 15 "NightBookModel$Night" "bad" "I"] := goodIn_r _ [998] (by decide +kernel) (by decide +kernel)
set_option maxRecDepth 20000 in
theorem pw_656 : GoodIn lw_tbl [Cond.fieldLink RX9 9 "NightBookModel$Night" "book" "I"] := goodIn_r _ [992] (by decide +kernel) (by decide +kernel)
set_option maxRecDepth 20000 in
theorem pw_657 : GoodIn lw_tbl [Cond.code yX9_begin cX9_begin 4 none] := goodIn_r _ [1459] (by decide +kernel) (by decide +kernel)
set_option maxRecDepth 20000 in
theorem pw_658 : GoodIn lw_tbl [Cond.initialized RX9] := goodIn_r _ [75] (by decide +kernel) (by decide +kernel)
set_option maxRecDepth 20000 in
theorem pw_659 : GoodIn lw_tbl [Cond.selects RX9 yX9_begin yX9_begin] := goodIn_r _ [1458] (by decide +kernel) (by decide +kernel)
set_option maxRecDepth 20000 in
theorem pw_660 : GoodIn lw_tbl [Cond.instanceMethod yX9_begin] := goodIn_r _ [1457] (by decide +kernel) (by decide +kernel)
set_option maxRecDepth 20000 in
theorem pw_661 : GoodIn lw_tbl [Cond.methodLink RX11 404 yX9_begin] := goodIn_r _ [1456] (by decide +kernel) (by decide +kernel)
set_option maxRecDepth 20000 in
theorem pw_662 : GoodIn lw_tbl [Cond.code yX11_begins cX11_begins 5 none] := goodIn_r _ [1475] (by decide +kernel) (by decide +kernel)
set_option maxRecDepth 20000 in
theorem pw_663 : GoodIn lw_tbl [Cond.selects RX11 yX11_begins yX11_begins] := goodIn_r _ [58] (by decide +kernel) (by decide +kernel)
set_option maxRecDepth 20000 in
theorem pw_664 : GoodIn lw_tbl [Cond.instanceMethod yX11_begins] := goodIn_r _ [1474] (by decide +kernel) (by decide +kernel)
set_option maxRecDepth 20000 in
theorem pw_665 : GoodIn lw_tbl [Cond.methodLink RX11 388 yX11_begins] := goodIn_r _ [1472] (by decide +kernel) (by decide +kernel)
set_option maxRecDepth 20000 in
theorem pw_666 : GoodIn lw_tbl [Cond.code yX11_comesTo cX11_comesTo 4 none] := goodIn_r _ [1471] (by decide +kernel) (by decide +kernel)
set_option maxRecDepth 20000 in
theorem pw_667 : GoodIn lw_tbl [Cond.selects RX11 yX11_comesTo yX11_comesTo] := goodIn_r _ [57] (by decide +kernel) (by decide +kernel)
set_option maxRecDepth 20000 in
theorem pw_668 : GoodIn lw_tbl [Cond.instanceMethod yX11_comesTo] := goodIn_r _ [1470] (by decide +kernel) (by decide +kernel)
set_option maxRecDepth 20000 in
theorem pw_669 : GoodIn lw_tbl [Cond.methodLink RX11 384 yX11_comesTo] := goodIn_r _ [1468] (by decide +kernel) (by decide +kernel)
set_option maxRecDepth 20000 in
theorem pw_670 : GoodIn lw_tbl [Cond.code yX9_ends cX9_ends 3 none] := goodIn_r _ [1467] (by decide +kernel) (by decide +kernel)
set_option maxRecDepth 20000 in
theorem pw_671 : GoodIn lw_tbl [Cond.selects RX9 yX9_ends yX9_ends] := goodIn_r _ [1466] (by decide +kernel) (by decide +kernel)
set_option maxRecDepth 20000 in
theorem pw_672 : GoodIn lw_tbl [Cond.instanceMethod yX9_ends] := goodIn_r _ [1465] (by decide +kernel) (by decide +kernel)
set_option maxRecDepth 20000 in
theorem pw_673 : GoodIn lw_tbl [Cond.methodLink RX11 377 yX9_ends] := goodIn_r _ [1464] (by decide +kernel) (by decide +kernel)
set_option maxRecDepth 20000 in
theorem pw_674 : GoodIn lw_tbl [Cond.code yX11_goesOn cX11_goesOn 6 none] := goodIn_r _ [1463] (by decide +kernel) (by decide +kernel)
set_option maxRecDepth 20000 in
theorem pw_675 : GoodIn lw_tbl [Cond.selects RX11 yX11_goesOn yX11_goesOn] := goodIn_r _ [56] (by decide +kernel) (by decide +kernel)
set_option maxRecDepth 20000 in
theorem pw_676 : GoodIn lw_tbl [Cond.instanceMethod yX11_goesOn] := goodIn_r _ [1462] (by decide +kernel) (by decide +kernel)
set_option maxRecDepth 20000 in
theorem pw_677 : GoodIn lw_tbl [Cond.methodLink RX11 407 yX11_goesOn] := goodIn_r _ [1460] (by decide +kernel) (by decide +kernel)
set_option maxRecDepth 20000 in
theorem pw_678 : GoodIn lw_tbl [Cond.fieldLink RX9 37 "NightBookModel$Night" "isWaiting" "Z"] := goodIn_r _ [1012] (by decide +kernel) (by decide +kernel)
set_option maxRecDepth 20000 in
theorem pw_679 : GoodIn lw_tbl [Cond.code yX11_hands cX11_hands 7 none] := goodIn_r _ [1483] (by decide +kernel) (by decide +kernel)
set_option maxRecDepth 20000 in
theorem pw_680 : GoodIn lw_tbl [Cond.selects RX11 yX11_hands yX11_hands] := goodIn_r _ [59] (by decide +kernel) (by decide +kernel)
set_option maxRecDepth 20000 in
theorem pw_681 : GoodIn lw_tbl [Cond.instanceMethod yX11_hands] := goodIn_r _ [1482] (by decide +kernel) (by decide +kernel)
set_option maxRecDepth 20000 in
theorem pw_682 : GoodIn lw_tbl [Cond.methodLink RX11 397 yX11_hands] := goodIn_r _ [1480] (by decide +kernel) (by decide +kernel)
set_option maxRecDepth 20000 in
theorem pw_683 : GoodIn lw_tbl [Cond.fieldLink RX9 43 "NightBookModel$Night" "next" "I"] := goodIn_r _ [996] (by decide +kernel) (by decide +kernel)
set_option maxRecDepth 20000 in
theorem pw_684 : GoodIn lw_tbl [Cond.fieldLink RX9 40 "NightBookModel$Night" "until" "I"] := goodIn_r _ [1004] (by decide +kernel) (by decide +kernel)
set_option maxRecDepth 20000 in
theorem pw_685 : GoodIn lw_tbl [Cond.code yX9_takes cX9_takes 4 none] := goodIn_r _ [1479] (by decide +kernel) (by decide +kernel)
set_option maxRecDepth 20000 in
theorem pw_686 : GoodIn lw_tbl [Cond.selects RX9 yX9_takes yX9_takes] := goodIn_r _ [1478] (by decide +kernel) (by decide +kernel)
set_option maxRecDepth 20000 in
theorem pw_687 : GoodIn lw_tbl [Cond.instanceMethod yX9_takes] := goodIn_r _ [1477] (by decide +kernel) (by decide +kernel)
set_option maxRecDepth 20000 in
theorem pw_688 : GoodIn lw_tbl [Cond.methodLink RX11 395 yX9_takes] := goodIn_r _ [1476] (by decide +kernel) (by decide +kernel)
set_option maxRecDepth 20000 in
theorem pw_689 : GoodIn lw_tbl [Cond.code yX8_night cX8_night 4 (some .int)] := goodIn_r _ [855] (by decide +kernel) (by decide +kernel)
set_option maxRecDepth 20000 in
theorem pw_690 : GoodIn lw_tbl [Cond.code yX11_night cX11_night 4 (some .int)] := goodIn_r _ [1488] (by decide +kernel) (by decide +kernel)
set_option maxRecDepth 20000 in
theorem pw_691 : GoodIn lw_tbl [Cond.code yX8_log cX8_log 2 (some .int)] := goodIn_r _ [859] (by decide +kernel) (by decide +kernel)
set_option maxRecDepth 20000 in
theorem pw_692 : GoodIn lw_tbl [Cond.code yX2_write cX2_write 2 none] := goodIn_r _ [867] (by decide +kernel) (by decide +kernel)
set_option maxRecDepth 20000 in
theorem pw_693 : GoodIn lw_tbl [Cond.selects RX2 yX2_write yX2_write] := goodIn_r _ [866] (by decide +kernel) (by decide +kernel)
set_option maxRecDepth 20000 in
theorem pw_694 : GoodIn lw_tbl [Cond.instanceMethod yX2_write] := goodIn_r _ [865] (by decide +kernel) (by decide +kernel)
set_option maxRecDepth 20000 in
theorem pw_695 : GoodIn lw_tbl [Cond.methodLink RX8 272 yX2_write] := goodIn_r _ [864] (by decide +kernel) (by decide +kernel)
set_option maxRecDepth 20000 in
theorem pw_696 : GoodIn lw_tbl [Cond.fieldLink RX2 9 "NightBook$Diary" "entries" "[I"] := goodIn_r _ [344] (by decide +kernel) (by decide +kernel)
set_option maxRecDepth 20000 in
theorem pw_697 : GoodIn lw_tbl [Cond.fieldLink RX2 18 "NightBook$Diary" "size" "I"] := goodIn_r _ [346] (by decide +kernel) (by decide +kernel)
set_option maxRecDepth 20000 in
theorem pw_698 : GoodIn lw_tbl [Cond.code yX2_isFull cX2_isFull 1 (some .boolean)] := goodIn_r _ [863] (by decide +kernel) (by decide +kernel)
set_option maxRecDepth 20000 in
theorem pw_699 : GoodIn lw_tbl [Cond.initialized RX2] := goodIn_r _ [69] (by decide +kernel) (by decide +kernel)
set_option maxRecDepth 20000 in
theorem pw_700 : GoodIn lw_tbl [Cond.selects RX2 yX2_isFull yX2_isFull] := goodIn_r _ [862] (by decide +kernel) (by decide +kernel)
set_option maxRecDepth 20000 in
theorem pw_701 : GoodIn lw_tbl [Cond.instanceMethod yX2_isFull] := goodIn_r _ [861] (by decide +kernel) (by decide +kernel)
set_option maxRecDepth 20000 in
theorem pw_702 : GoodIn lw_tbl [Cond.methodLink RX8 269 yX2_isFull] := goodIn_r _ [860] (by decide +kernel) (by decide +kernel)
set_option maxRecDepth 20000 in
theorem pw_703 : GoodIn lw_tbl [Cond.fieldLink RX8 72 "NightBook" "diary" "LNightBook$Diary;"] := goodIn_r _ [373] (by decide +kernel) (by decide +kernel)
set_option maxRecDepth 20000 in
theorem pw_704 : GoodIn lw_tbl [Cond.code yX11_log cX11_log 2 (some .int)] := goodIn_r _ [1492] (by decide +kernel) (by decide +kernel)
set_option maxRecDepth 20000 in
theorem pw_705 : GoodIn lw_tbl [Cond.fieldLink RX11 102 "NightBookModel" "logStep" "[I"] := goodIn_r _ [1099] (by decide +kernel) (by decide +kernel)
set_option maxRecDepth 20000 in
theorem pw_706 : GoodIn lw_tbl [Cond.fieldLink RX11 420 "NightBookModel" "logged" "I"] := goodIn_r _ [1102] (by decide +kernel) (by decide +kernel)
set_option maxRecDepth 20000 in
theorem pw_707 : GoodIn lw_tbl [Cond.code yX8_clear cX8_clear 2 (some .int)] := goodIn_r _ [871] (by decide +kernel) (by decide +kernel)
set_option maxRecDepth 20000 in
theorem pw_708 : GoodIn lw_tbl [Cond.code yX11_clear cX11_clear 2 (some .int)] := goodIn_r _ [1496] (by decide +kernel) (by decide +kernel)
set_option maxRecDepth 20000 in
theorem pw_709 : GoodIn lw_tbl [Cond.code yX8_laid cX8_laid 1 (some .int)] := goodIn_r _ [875] (by decide +kernel) (by decide +kernel)
set_option maxRecDepth 20000 in
theorem pw_710 : GoodIn lw_tbl [Cond.fieldLink RX2 22 "NightBook$Diary" "left" "I"] := goodIn_r _ [348] (by decide +kernel) (by decide +kernel)
set_option maxRecDepth 20000 in
theorem pw_711 : GoodIn lw_tbl [Cond.fieldLink RX2 15 "NightBook$Diary" "best" "[I"] := goodIn_r _ [345] (by decide +kernel) (by decide +kernel)
set_option maxRecDepth 20000 in
theorem pw_712 : GoodIn lw_tbl [Cond.code Lib.Math.min.name Lib.Math.min.code 2 (some .int)] := goodIn_r _ [882] (by decide +kernel) (by decide +kernel)
set_option maxRecDepth 20000 in
theorem pw_713 : GoodIn lw_tbl [Cond.static Lib.Math.min.name] := goodIn_r _ [881] (by decide +kernel) (by decide +kernel)
set_option maxRecDepth 20000 in
theorem pw_714 : GoodIn lw_tbl [Cond.methodLink RX2 33 Lib.Math.min.name] := goodIn_r _ [880] (by decide +kernel) (by decide +kernel)
set_option maxRecDepth 20000 in
theorem pw_715 : GoodIn lw_tbl [Cond.code yX2_layBeside cX2_layBeside 4 (some .int)] := goodIn_r _ [879] (by decide +kernel) (by decide +kernel)
set_option maxRecDepth 20000 in
theorem pw_716 : GoodIn lw_tbl [Cond.selects RX2 yX2_layBeside yX2_layBeside] := goodIn_r _ [878] (by decide +kernel) (by decide +kernel)
set_option maxRecDepth 20000 in
theorem pw_717 : GoodIn lw_tbl [Cond.instanceMethod yX2_layBeside] := goodIn_r _ [877] (by decide +kernel) (by decide +kernel)
set_option maxRecDepth 20000 in
theorem pw_718 : GoodIn lw_tbl [Cond.methodLink RX8 278 yX2_layBeside] := goodIn_r _ [876] (by decide +kernel) (by decide +kernel)
set_option maxRecDepth 20000 in
theorem pw_719 : GoodIn lw_tbl [Cond.methodLink RX2 53 Lib.Math.max.name] := goodIn_r _ [889] (by decide +kernel) (by decide +kernel)
set_option maxRecDepth 20000 in
theorem pw_720 : GoodIn lw_tbl [Cond.code yX2_extend cX2_extend 5 none] := goodIn_r _ [888] (by decide +kernel) (by decide +kernel)
set_option maxRecDepth 20000 in
theorem pw_721 : GoodIn lw_tbl [Cond.selects RX2 yX2_extend yX2_extend] := goodIn_r _ [29] (by decide +kernel) (by decide +kernel)
set_option maxRecDepth 20000 in
theorem pw_722 : GoodIn lw_tbl [Cond.instanceMethod yX2_extend] := goodIn_r _ [887] (by decide +kernel) (by decide +kernel)
set_option maxRecDepth 20000 in
theorem pw_723 : GoodIn lw_tbl [Cond.methodLink RX2 49 yX2_extend] := goodIn_r _ [885] (by decide +kernel) (by decide +kernel)
set_option maxRecDepth 20000 in
theorem pw_724 : GoodIn lw_tbl [Cond.methodLink RX2 45 yX6_pathAt] := goodIn_r _ [884] (by decide +kernel) (by decide +kernel)
set_option maxRecDepth 20000 in
theorem pw_725 : GoodIn lw_tbl [Cond.methodLink RX2 39 yJ7_fill_53178] := goodIn_r _ [883] (by decide +kernel) (by decide +kernel)
set_option maxRecDepth 20000 in
theorem pw_726 : GoodIn lw_tbl [Cond.fieldLink RX2 25 "NightBook$Diary" "added" "I"] := goodIn_r _ [350] (by decide +kernel) (by decide +kernel)
set_option maxRecDepth 20000 in
theorem pw_727 : GoodIn lw_tbl [Cond.code yX11_laid cX11_laid 4 (some .int)] := goodIn_r _ [1500] (by decide +kernel) (by decide +kernel)
set_option maxRecDepth 20000 in
theorem pw_728 : GoodIn lw_tbl [Cond.fieldLink RX11 114 "NightBookModel" "added" "I"] := goodIn_r _ [1104] (by decide +kernel) (by decide +kernel)
set_option maxRecDepth 20000 in
theorem pw_729 : GoodIn lw_tbl [Cond.fieldLink RX11 111 "NightBookModel" "leftOver" "I"] := goodIn_r _ [1103] (by decide +kernel) (by decide +kernel)
set_option maxRecDepth 20000 in
theorem pw_730 : GoodIn lw_tbl [Cond.fieldLink RX11 108 "NightBookModel" "below" "[I"] := goodIn_r _ [1101] (by decide +kernel) (by decide +kernel)
set_option maxRecDepth 20000 in
theorem pw_731 : GoodIn lw_tbl [Cond.fieldLink RX11 105 "NightBookModel" "above" "[I"] := goodIn_r _ [1100] (by decide +kernel) (by decide +kernel)
set_option maxRecDepth 20000 in
theorem pw_732 : GoodIn lw_tbl [Cond.methodLink RX11 423 Lib.Math.min.name] := goodIn_r _ [1501] (by decide +kernel) (by decide +kernel)
set_option maxRecDepth 20000 in
theorem pw_733 : GoodIn lw_tbl [Cond.code yX8_apart cX8_apart 2 (some .int)] := goodIn_r _ [893] (by decide +kernel) (by decide +kernel)
set_option maxRecDepth 20000 in
theorem pw_734 : GoodIn lw_tbl [Cond.code yX11_apart cX11_apart 2 (some .int)] := goodIn_r _ [1505] (by decide +kernel) (by decide +kernel)
set_option maxRecDepth 20000 in
theorem pw_735 : GoodIn lw_tbl [Cond.code yX8_differ cX8_differ 10 (some .int)] := goodIn_r _ [897] (by decide +kernel) (by decide +kernel)
set_option maxRecDepth 20000 in
theorem pw_736 : GoodIn lw_tbl [Cond.fieldLink RX8 76 "NightBook" "differRows" "[I"] := goodIn_r _ [374] (by decide +kernel) (by decide +kernel)
set_option maxRecDepth 20000 in
theorem pw_737 : GoodIn lw_tbl [Cond.code yX8_isUnlike cX8_isUnlike 6 (some .boolean)] := goodIn_r _ [901] (by decide +kernel) (by decide +kernel)
set_option maxRecDepth 20000 in
theorem pw_738 : GoodIn lw_tbl [Cond.selects RX8 yX8_isUnlike yX8_isUnlike] := goodIn_r _ [30] (by decide +kernel) (by decide +kernel)
set_option maxRecDepth 20000 in
theorem pw_739 : GoodIn lw_tbl [Cond.instanceMethod yX8_isUnlike] := goodIn_r _ [900] (by decide +kernel) (by decide +kernel)
set_option maxRecDepth 20000 in
theorem pw_740 : GoodIn lw_tbl [Cond.methodLink RX8 288 yX8_isUnlike] := goodIn_r _ [898] (by decide +kernel) (by decide +kernel)
set_option maxRecDepth 20000 in
theorem pw_741 : GoodIn lw_tbl [Cond.code yX11_differ cX11_differ 12 (some .int)] := goodIn_r _ [1509] (by decide +kernel) (by decide +kernel)
set_option maxRecDepth 20000 in
theorem pw_742 : GoodIn lw_tbl [Cond.code yX8_count cX8_count 2 (some .int)] := goodIn_r _ [905] (by decide +kernel) (by decide +kernel)
set_option maxRecDepth 20000 in
theorem pw_743 : GoodIn lw_tbl [Cond.code yX11_count cX11_count 2 (some .int)] := goodIn_r _ [1513] (by decide +kernel) (by decide +kernel)
set_option maxRecDepth 20000 in
theorem pw_744 : GoodIn lw_tbl [Cond.code yX8_trouble cX8_trouble 1 (some .int)] := goodIn_r _ [909] (by decide +kernel) (by decide +kernel)
set_option maxRecDepth 20000 in
theorem pw_745 : GoodIn lw_tbl [Cond.code yX11_trouble cX11_trouble 1 (some .int)] := goodIn_r _ [1517] (by decide +kernel) (by decide +kernel)
set_option maxRecDepth 20000 in
theorem pw_746 : GoodIn lw_tbl [Cond.code yX8_init cX8_init 1 none] := goodIn_r _ [87] (by decide +kernel) (by decide +kernel)
set_option maxRecDepth 20000 in
theorem pw_747 : GoodIn lw_tbl [Cond.instantiable RX0 6] := goodIn_r _ [249] (by decide +kernel) (by decide +kernel)
set_option maxRecDepth 20000 in
theorem pw_748 : GoodIn lw_tbl [Cond.classLink RX8 48 RX0] := goodIn_r _ [248] (by decide +kernel) (by decide +kernel)
set_option maxRecDepth 20000 in
theorem pw_749 : GoodIn lw_tbl [Cond.instantiable RX6 12] := goodIn_r _ [201] (by decide +kernel) (by decide +kernel)
set_option maxRecDepth 20000 in
theorem pw_750 : GoodIn lw_tbl [Cond.classLink RX8 30 RX6] := goodIn_r _ [200] (by decide +kernel) (by decide +kernel)
set_option maxRecDepth 20000 in
theorem pw_751 : GoodIn lw_tbl [Cond.instantiable RX3 1] := goodIn_r _ [191] (by decide +kernel) (by decide +kernel)
set_option maxRecDepth 20000 in
theorem pw_752 : GoodIn lw_tbl [Cond.classLink RX8 23 RX3] := goodIn_r _ [190] (by decide +kernel) (by decide +kernel)
set_option maxRecDepth 20000 in
theorem pw_753 : GoodIn lw_tbl [Cond.instantiable RX4 14] := goodIn_r _ [139] (by decide +kernel) (by decide +kernel)
set_option maxRecDepth 20000 in
theorem pw_754 : GoodIn lw_tbl [Cond.classLink RX8 16 RX4] := goodIn_r _ [138] (by decide +kernel) (by decide +kernel)
set_option maxRecDepth 20000 in
theorem pw_755 : GoodIn lw_tbl [Cond.instantiable RX7 9] := goodIn_r _ [92] (by decide +kernel) (by decide +kernel)
set_option maxRecDepth 20000 in
theorem pw_756 : GoodIn lw_tbl [Cond.classLink RX8 9 RX7] := goodIn_r _ [91] (by decide +kernel) (by decide +kernel)
set_option maxRecDepth 20000 in
theorem pw_757 : GoodIn lw_tbl [Cond.code objectInit ⟨#[0xb1]⟩ 1 none] := goodIn_r _ [90] (by decide +kernel) (by decide +kernel)
set_option maxRecDepth 20000 in
theorem pw_758 : GoodIn lw_tbl [Cond.instanceMethod objectInit] := goodIn_r _ [89] (by decide +kernel) (by decide +kernel)
set_option maxRecDepth 20000 in
theorem pw_759 : GoodIn lw_tbl [Cond.methodLink RX8 3 objectInit] := goodIn_r _ [88] (by decide +kernel) (by decide +kernel)
set_option maxRecDepth 20000 in
theorem pw_760 : GoodIn lw_tbl [Cond.methodLink RX7 3 objectInit] := goodIn_r _ [96] (by decide +kernel) (by decide +kernel)
set_option maxRecDepth 20000 in
theorem pw_761 : GoodIn lw_tbl [Cond.code yX7_init cX7_init 1 none] := goodIn_r _ [95] (by decide +kernel) (by decide +kernel)
set_option maxRecDepth 20000 in
theorem pw_762 : GoodIn lw_tbl [Cond.instanceMethod yX7_init] := goodIn_r _ [94] (by decide +kernel) (by decide +kernel)
set_option maxRecDepth 20000 in
theorem pw_763 : GoodIn lw_tbl [Cond.arrayClass .int] := goodIn_r _ [137] (by decide +kernel) (by decide +kernel)
set_option maxRecDepth 20000 in
theorem pw_764 : GoodIn lw_tbl [Cond.instantiable RX2 5] := goodIn_r _ [339] (by decide +kernel) (by decide +kernel)
set_option maxRecDepth 20000 in
theorem pw_765 : GoodIn lw_tbl [Cond.classLink RX8 69 RX2] := goodIn_r _ [338] (by decide +kernel) (by decide +kernel)
set_option maxRecDepth 20000 in
theorem pw_766 : GoodIn lw_tbl [Cond.instantiable RX1 4] := goodIn_r _ [319] (by decide +kernel) (by decide +kernel)
set_option maxRecDepth 20000 in
theorem pw_767 : GoodIn lw_tbl [Cond.classLink RX8 62 RX1] := goodIn_r _ [318] (by decide +kernel) (by decide +kernel)
set_option maxRecDepth 20000 in
theorem pw_768 : GoodIn lw_tbl [Cond.instantiable RX5 11] := goodIn_r _ [274] (by decide +kernel) (by decide +kernel)
set_option maxRecDepth 20000 in
theorem pw_769 : GoodIn lw_tbl [Cond.classLink RX8 55 RX5] := goodIn_r _ [273] (by decide +kernel) (by decide +kernel)
set_option maxRecDepth 20000 in
theorem pw_770 : GoodIn lw_tbl [Cond.code yX3_init cX3_init 1 none] := goodIn_r _ [194] (by decide +kernel) (by decide +kernel)
set_option maxRecDepth 20000 in
theorem pw_771 : GoodIn lw_tbl [Cond.instanceMethod yX3_init] := goodIn_r _ [193] (by decide +kernel) (by decide +kernel)
set_option maxRecDepth 20000 in
theorem pw_772 : GoodIn lw_tbl [Cond.methodLink RX4 3 objectInit] := goodIn_r _ [143] (by decide +kernel) (by decide +kernel)
set_option maxRecDepth 20000 in
theorem pw_773 : GoodIn lw_tbl [Cond.code yX4_init cX4_init 1 none] := goodIn_r _ [142] (by decide +kernel) (by decide +kernel)
set_option maxRecDepth 20000 in
theorem pw_774 : GoodIn lw_tbl [Cond.instanceMethod yX4_init] := goodIn_r _ [141] (by decide +kernel) (by decide +kernel)
set_option maxRecDepth 20000 in
theorem pw_775 : GoodIn lw_tbl [Cond.fieldLink RX7 24 "NightBook$World" "goal" "I"] := goodIn_r _ [109] (by decide +kernel) (by decide +kernel)
set_option maxRecDepth 20000 in
theorem pw_776 : GoodIn lw_tbl [Cond.methodLink RX0 3 objectInit] := goodIn_r _ [253] (by decide +kernel) (by decide +kernel)
set_option maxRecDepth 20000 in
theorem pw_777 : GoodIn lw_tbl [Cond.code yX0_init cX0_init 1 none] := goodIn_r _ [252] (by decide +kernel) (by decide +kernel)
set_option maxRecDepth 20000 in
theorem pw_778 : GoodIn lw_tbl [Cond.instanceMethod yX0_init] := goodIn_r _ [251] (by decide +kernel) (by decide +kernel)
set_option maxRecDepth 20000 in
theorem pw_779 : GoodIn lw_tbl [Cond.arrayClass .long] := goodIn_r _ [247] (by decide +kernel) (by decide +kernel)
set_option maxRecDepth 20000 in
theorem pw_780 : GoodIn lw_tbl [Cond.methodLink RX6 3 objectInit] := goodIn_r _ [205] (by decide +kernel) (by decide +kernel)
set_option maxRecDepth 20000 in
theorem pw_781 : GoodIn lw_tbl [Cond.code yX6_init cX6_init 2 none] := goodIn_r _ [204] (by decide +kernel) (by decide +kernel)
set_option maxRecDepth 20000 in
theorem pw_782 : GoodIn lw_tbl [Cond.instanceMethod yX6_init] := goodIn_r _ [203] (by decide +kernel) (by decide +kernel)
set_option maxRecDepth 20000 in
theorem pw_783 : GoodIn lw_tbl [Cond.methodLink RX8 32 yX6_init] := goodIn_r _ [202] (by decide +kernel) (by decide +kernel)
set_option maxRecDepth 20000 in
theorem pw_784 : GoodIn lw_tbl [Cond.methodLink RX3 3 objectInit] := goodIn_r _ [195] (by decide +kernel) (by decide +kernel)
set_option maxRecDepth 20000 in
theorem pw_785 : GoodIn lw_tbl [Cond.methodLink RX1 3 objectInit] := goodIn_r _ [323] (by decide +kernel) (by decide +kernel)
set_option maxRecDepth 20000 in
theorem pw_786 : GoodIn lw_tbl [Cond.code yX1_init cX1_init 1 none] := goodIn_r _ [322] (by decide +kernel) (by decide +kernel)
set_option maxRecDepth 20000 in
theorem pw_787 : GoodIn lw_tbl [Cond.instanceMethod yX1_init] := goodIn_r _ [321] (by decide +kernel) (by decide +kernel)
set_option maxRecDepth 20000 in
theorem pw_788 : GoodIn lw_tbl [Cond.methodLink RX5 3 objectInit] := goodIn_r _ [278] (by decide +kernel) (by decide +kernel)
set_option maxRecDepth 20000 in
theorem pw_789 : GoodIn lw_tbl [Cond.code yX5_init cX5_init 1 none] := goodIn_r _ [277] (by decide +kernel) (by decide +kernel)
set_option maxRecDepth 20000 in
theorem pw_790 : GoodIn lw_tbl [Cond.instanceMethod yX5_init] := goodIn_r _ [276] (by decide +kernel) (by decide +kernel)
set_option maxRecDepth 20000 in
theorem pw_791 : GoodIn lw_tbl [Cond.methodLink RX2 3 objectInit] := goodIn_r _ [343] (by decide +kernel) (by decide +kernel)
set_option maxRecDepth 20000 in
theorem pw_792 : GoodIn lw_tbl [Cond.code yX2_init cX2_init 1 none] := goodIn_r _ [342] (by decide +kernel) (by decide +kernel)
set_option maxRecDepth 20000 in
theorem pw_793 : GoodIn lw_tbl [Cond.instanceMethod yX2_init] := goodIn_r _ [341] (by decide +kernel) (by decide +kernel)
set_option maxRecDepth 20000 in
theorem pw_794 : GoodIn lw_tbl [Cond.code yX11_init cX11_init 1 none] := goodIn_r _ [914] (by decide +kernel) (by decide +kernel)
set_option maxRecDepth 20000 in
theorem pw_795 : GoodIn lw_tbl [Cond.arrayClass .byte] := goodIn_r _ [586] (by decide +kernel) (by decide +kernel)
set_option maxRecDepth 20000 in
theorem pw_796 : GoodIn lw_tbl [Cond.fieldLink RX11 44 "NightBookModel" "stop" "LNightBookModel$Stop;"] := goodIn_r _ [1055] (by decide +kernel) (by decide +kernel)
set_option maxRecDepth 20000 in
theorem pw_797 : GoodIn lw_tbl [Cond.initialized RX10] := goodIn_r _ [74] (by decide +kernel) (by decide +kernel)
set_option maxRecDepth 20000 in
theorem pw_798 : GoodIn lw_tbl [Cond.instantiable RX10 8] := goodIn_r _ [917] (by decide +kernel) (by decide +kernel)
set_option maxRecDepth 20000 in
theorem pw_799 : GoodIn lw_tbl [Cond.classLink RX11 41 RX10] := goodIn_r _ [916] (by decide +kernel) (by decide +kernel)
set_option maxRecDepth 20000 in
theorem pw_800 : GoodIn lw_tbl [Cond.methodLink RX11 1 objectInit] := goodIn_r _ [915] (by decide +kernel) (by decide +kernel)
set_option maxRecDepth 20000 in
theorem pw_801 : GoodIn lw_tbl [Cond.instanceMethod yX9_init] := goodIn_r _ [989] (by decide +kernel) (by decide +kernel)
set_option maxRecDepth 20000 in
theorem pw_802 : GoodIn lw_tbl [Cond.code yX10_init cX10_init 1 none] := goodIn_r _ [957] (by decide +kernel) (by decide +kernel)
set_option maxRecDepth 20000 in
theorem pw_803 : GoodIn lw_tbl [Cond.instanceMethod yX10_init] := goodIn_r _ [956] (by decide +kernel) (by decide +kernel)
set_option maxRecDepth 20000 in
theorem pw_804 : GoodIn lw_tbl [Cond.methodLink RX11 43 yX10_init] := goodIn_r _ [955] (by decide +kernel) (by decide +kernel)
set_option maxRecDepth 20000 in
theorem pw_805 : GoodIn lw_tbl [Cond.instantiable RX9 11] := goodIn_r _ [987] (by decide +kernel) (by decide +kernel)
set_option maxRecDepth 20000 in
theorem pw_806 : GoodIn lw_tbl [Cond.classLink RX11 89 RX9] := goodIn_r _ [986] (by decide +kernel) (by decide +kernel)
set_option maxRecDepth 20000 in
theorem pw_807 : GoodIn lw_tbl [Cond.arrayClass .boolean] := goodIn_r _ [1037] (by decide +kernel) (by decide +kernel)
set_option maxRecDepth 20000 in
theorem pw_808 : GoodIn lw_tbl [Cond.methodLink RX9 3 objectInit] := goodIn_r _ [991] (by decide +kernel) (by decide +kernel)
set_option maxRecDepth 20000 in
theorem pw_809 : GoodIn lw_tbl [Cond.code yX9_init cX9_init 1 none] := goodIn_r _ [990] (by decide +kernel) (by decide +kernel)
set_option maxRecDepth 20000 in
theorem pw_810 : GoodIn lw_tbl [Cond.methodLink RL 13 yX8_fact] := goodIn_r _ [403] (by decide +kernel) (by decide +kernel)
set_option maxRecDepth 20000 in
theorem pw_811 : GoodIn lw_tbl [Cond.instanceMethod yX8_fact] := goodIn_r _ [404] (by decide +kernel) (by decide +kernel)
set_option maxRecDepth 20000 in
theorem pw_812 : GoodIn lw_tbl [Cond.selects RX8 yX8_fact yX8_fact] := goodIn_r _ [405] (by decide +kernel) (by decide +kernel)
set_option maxRecDepth 20000 in
theorem pw_813 : GoodIn lw_tbl [Cond.methodLink RL 17 yX11_fact] := goodIn_r _ [1242] (by decide +kernel) (by decide +kernel)
set_option maxRecDepth 20000 in
theorem pw_814 : GoodIn lw_tbl [Cond.instanceMethod yX11_fact] := goodIn_r _ [1243] (by decide +kernel) (by decide +kernel)
set_option maxRecDepth 20000 in
theorem pw_815 : GoodIn lw_tbl [Cond.selects RX11 yX11_fact yX11_fact] := goodIn_r _ [1244] (by decide +kernel) (by decide +kernel)
set_option maxRecDepth 20000 in
theorem pw_816 : GoodIn lw_tbl [Cond.methodLink RL 18 yX8_sign] := goodIn_r _ [415] (by decide +kernel) (by decide +kernel)
set_option maxRecDepth 20000 in
theorem pw_817 : GoodIn lw_tbl [Cond.instanceMethod yX8_sign] := goodIn_r _ [416] (by decide +kernel) (by decide +kernel)
set_option maxRecDepth 20000 in
theorem pw_818 : GoodIn lw_tbl [Cond.selects RX8 yX8_sign yX8_sign] := goodIn_r _ [417] (by decide +kernel) (by decide +kernel)
set_option maxRecDepth 20000 in
theorem pw_819 : GoodIn lw_tbl [Cond.methodLink RL 22 yX11_sign] := goodIn_r _ [1254] (by decide +kernel) (by decide +kernel)
set_option maxRecDepth 20000 in
theorem pw_820 : GoodIn lw_tbl [Cond.instanceMethod yX11_sign] := goodIn_r _ [1255] (by decide +kernel) (by decide +kernel)
set_option maxRecDepth 20000 in
theorem pw_821 : GoodIn lw_tbl [Cond.selects RX11 yX11_sign yX11_sign] := goodIn_r _ [1256] (by decide +kernel) (by decide +kernel)
set_option maxRecDepth 20000 in
theorem pw_822 : GoodIn lw_tbl [Cond.methodLink RL 23 yX8_person] := goodIn_r _ [419] (by decide +kernel) (by decide +kernel)
set_option maxRecDepth 20000 in
theorem pw_823 : GoodIn lw_tbl [Cond.instanceMethod yX8_person] := goodIn_r _ [420] (by decide +kernel) (by decide +kernel)
set_option maxRecDepth 20000 in
theorem pw_824 : GoodIn lw_tbl [Cond.selects RX8 yX8_person yX8_person] := goodIn_r _ [421] (by decide +kernel) (by decide +kernel)
set_option maxRecDepth 20000 in
theorem pw_825 : GoodIn lw_tbl [Cond.methodLink RL 26 yX11_person] := goodIn_r _ [1258] (by decide +kernel) (by decide +kernel)
set_option maxRecDepth 20000 in
theorem pw_826 : GoodIn lw_tbl [Cond.instanceMethod yX11_person] := goodIn_r _ [1259] (by decide +kernel) (by decide +kernel)
set_option maxRecDepth 20000 in
theorem pw_827 : GoodIn lw_tbl [Cond.selects RX11 yX11_person yX11_person] := goodIn_r _ [1260] (by decide +kernel) (by decide +kernel)
set_option maxRecDepth 20000 in
theorem pw_828 : GoodIn lw_tbl [Cond.methodLink RL 27 yX8_goal] := goodIn_r _ [430] (by decide +kernel) (by decide +kernel)
set_option maxRecDepth 20000 in
theorem pw_829 : GoodIn lw_tbl [Cond.instanceMethod yX8_goal] := goodIn_r _ [431] (by decide +kernel) (by decide +kernel)
set_option maxRecDepth 20000 in
theorem pw_830 : GoodIn lw_tbl [Cond.selects RX8 yX8_goal yX8_goal] := goodIn_r _ [432] (by decide +kernel) (by decide +kernel)
set_option maxRecDepth 20000 in
theorem pw_831 : GoodIn lw_tbl [Cond.methodLink RL 31 yX11_goal] := goodIn_r _ [1265] (by decide +kernel) (by decide +kernel)
set_option maxRecDepth 20000 in
theorem pw_832 : GoodIn lw_tbl [Cond.instanceMethod yX11_goal] := goodIn_r _ [1266] (by decide +kernel) (by decide +kernel)
set_option maxRecDepth 20000 in
theorem pw_833 : GoodIn lw_tbl [Cond.selects RX11 yX11_goal yX11_goal] := goodIn_r _ [1267] (by decide +kernel) (by decide +kernel)
set_option maxRecDepth 20000 in
theorem pw_834 : GoodIn lw_tbl [Cond.methodLink RL 32 yX8_feed] := goodIn_r _ [434] (by decide +kernel) (by decide +kernel)
set_option maxRecDepth 20000 in
theorem pw_835 : GoodIn lw_tbl [Cond.instanceMethod yX8_feed] := goodIn_r _ [435] (by decide +kernel) (by decide +kernel)
set_option maxRecDepth 20000 in
theorem pw_836 : GoodIn lw_tbl [Cond.selects RX8 yX8_feed yX8_feed] := goodIn_r _ [436] (by decide +kernel) (by decide +kernel)
set_option maxRecDepth 20000 in
theorem pw_837 : GoodIn lw_tbl [Cond.methodLink RL 36 yX11_feed] := goodIn_r _ [1269] (by decide +kernel) (by decide +kernel)
set_option maxRecDepth 20000 in
theorem pw_838 : GoodIn lw_tbl [Cond.instanceMethod yX11_feed] := goodIn_r _ [1270] (by decide +kernel) (by decide +kernel)
set_option maxRecDepth 20000 in
theorem pw_839 : GoodIn lw_tbl [Cond.selects RX11 yX11_feed yX11_feed] := goodIn_r _ [1271] (by decide +kernel) (by decide +kernel)
set_option maxRecDepth 20000 in
theorem pw_840 : GoodIn lw_tbl [Cond.methodLink RL 37 yX8_book] := goodIn_r _ [446] (by decide +kernel) (by decide +kernel)
set_option maxRecDepth 20000 in
theorem pw_841 : GoodIn lw_tbl [Cond.instanceMethod yX8_book] := goodIn_r _ [447] (by decide +kernel) (by decide +kernel)
set_option maxRecDepth 20000 in
theorem pw_842 : GoodIn lw_tbl [Cond.selects RX8 yX8_book yX8_book] := goodIn_r _ [448] (by decide +kernel) (by decide +kernel)
set_option maxRecDepth 20000 in
theorem pw_843 : GoodIn lw_tbl [Cond.methodLink RL 41 yX8_fault] := goodIn_r _ [587] (by decide +kernel) (by decide +kernel)
set_option maxRecDepth 20000 in
theorem pw_844 : GoodIn lw_tbl [Cond.instanceMethod yX8_fault] := goodIn_r _ [588] (by decide +kernel) (by decide +kernel)
set_option maxRecDepth 20000 in
theorem pw_845 : GoodIn lw_tbl [Cond.selects RX8 yX8_fault yX8_fault] := goodIn_r _ [589] (by decide +kernel) (by decide +kernel)
set_option maxRecDepth 20000 in
theorem pw_846 : GoodIn lw_tbl [Cond.methodLink RL 44 yX11_fault] := goodIn_r _ [1337] (by decide +kernel) (by decide +kernel)
set_option maxRecDepth 20000 in
theorem pw_847 : GoodIn lw_tbl [Cond.instanceMethod yX11_fault] := goodIn_r _ [1338] (by decide +kernel) (by decide +kernel)
set_option maxRecDepth 20000 in
theorem pw_848 : GoodIn lw_tbl [Cond.selects RX11 yX11_fault yX11_fault] := goodIn_r _ [1339] (by decide +kernel) (by decide +kernel)
set_option maxRecDepth 20000 in
theorem pw_849 : GoodIn lw_tbl [Cond.methodLink RL 45 yX8_where] := goodIn_r _ [591] (by decide +kernel) (by decide +kernel)
set_option maxRecDepth 20000 in
theorem pw_850 : GoodIn lw_tbl [Cond.instanceMethod yX8_where] := goodIn_r _ [592] (by decide +kernel) (by decide +kernel)
set_option maxRecDepth 20000 in
theorem pw_851 : GoodIn lw_tbl [Cond.selects RX8 yX8_where yX8_where] := goodIn_r _ [593] (by decide +kernel) (by decide +kernel)
set_option maxRecDepth 20000 in
theorem pw_852 : GoodIn lw_tbl [Cond.methodLink RL 48 yX11_where] := goodIn_r _ [1341] (by decide +kernel) (by decide +kernel)
set_option maxRecDepth 20000 in
theorem pw_853 : GoodIn lw_tbl [Cond.instanceMethod yX11_where] := goodIn_r _ [1342] (by decide +kernel) (by decide +kernel)
set_option maxRecDepth 20000 in
theorem pw_854 : GoodIn lw_tbl [Cond.selects RX11 yX11_where yX11_where] := goodIn_r _ [1343] (by decide +kernel) (by decide +kernel)
set_option maxRecDepth 20000 in
theorem pw_855 : GoodIn lw_tbl [Cond.methodLink RL 49 yX8_steps] := goodIn_r _ [595] (by decide +kernel) (by decide +kernel)
set_option maxRecDepth 20000 in
theorem pw_856 : GoodIn lw_tbl [Cond.instanceMethod yX8_steps] := goodIn_r _ [596] (by decide +kernel) (by decide +kernel)
set_option maxRecDepth 20000 in
theorem pw_857 : GoodIn lw_tbl [Cond.selects RX8 yX8_steps yX8_steps] := goodIn_r _ [597] (by decide +kernel) (by decide +kernel)
set_option maxRecDepth 20000 in
theorem pw_858 : GoodIn lw_tbl [Cond.methodLink RL 52 yX11_steps] := goodIn_r _ [1345] (by decide +kernel) (by decide +kernel)
set_option maxRecDepth 20000 in
theorem pw_859 : GoodIn lw_tbl [Cond.instanceMethod yX11_steps] := goodIn_r _ [1346] (by decide +kernel) (by decide +kernel)
set_option maxRecDepth 20000 in
theorem pw_860 : GoodIn lw_tbl [Cond.selects RX11 yX11_steps yX11_steps] := goodIn_r _ [1347] (by decide +kernel) (by decide +kernel)
set_option maxRecDepth 20000 in
theorem pw_861 : GoodIn lw_tbl [Cond.methodLink RL 53 yX8_step] := goodIn_r _ [607] (by decide +kernel) (by decide +kernel)
set_option maxRecDepth 20000 in
theorem pw_862 : GoodIn lw_tbl [Cond.instanceMethod yX8_step] := goodIn_r _ [608] (by decide +kernel) (by decide +kernel)
set_option maxRecDepth 20000 in
theorem pw_863 : GoodIn lw_tbl [Cond.selects RX8 yX8_step yX8_step] := goodIn_r _ [609] (by decide +kernel) (by decide +kernel)
set_option maxRecDepth 20000 in
theorem pw_864 : GoodIn lw_tbl [Cond.methodLink RL 57 yX11_step] := goodIn_r _ [1353] (by decide +kernel) (by decide +kernel)
set_option maxRecDepth 20000 in
theorem pw_865 : GoodIn lw_tbl [Cond.instanceMethod yX11_step] := goodIn_r _ [1354] (by decide +kernel) (by decide +kernel)
set_option maxRecDepth 20000 in
theorem pw_866 : GoodIn lw_tbl [Cond.selects RX11 yX11_step yX11_step] := goodIn_r _ [1355] (by decide +kernel) (by decide +kernel)
set_option maxRecDepth 20000 in
theorem pw_867 : GoodIn lw_tbl [Cond.methodLink RL 58 yX8_play] := goodIn_r _ [619] (by decide +kernel) (by decide +kernel)
set_option maxRecDepth 20000 in
theorem pw_868 : GoodIn lw_tbl [Cond.instanceMethod yX8_play] := goodIn_r _ [620] (by decide +kernel) (by decide +kernel)
set_option maxRecDepth 20000 in
theorem pw_869 : GoodIn lw_tbl [Cond.selects RX8 yX8_play yX8_play] := goodIn_r _ [621] (by decide +kernel) (by decide +kernel)
set_option maxRecDepth 20000 in
theorem pw_870 : GoodIn lw_tbl [Cond.methodLink RL 62 yX11_play] := goodIn_r _ [1357] (by decide +kernel) (by decide +kernel)
set_option maxRecDepth 20000 in
theorem pw_871 : GoodIn lw_tbl [Cond.instanceMethod yX11_play] := goodIn_r _ [1358] (by decide +kernel) (by decide +kernel)
set_option maxRecDepth 20000 in
theorem pw_872 : GoodIn lw_tbl [Cond.selects RX11 yX11_play yX11_play] := goodIn_r _ [1359] (by decide +kernel) (by decide +kernel)
set_option maxRecDepth 20000 in
theorem pw_873 : GoodIn lw_tbl [Cond.methodLink RL 63 yX8_played] := goodIn_r _ [680] (by decide +kernel) (by decide +kernel)
set_option maxRecDepth 20000 in
theorem pw_874 : GoodIn lw_tbl [Cond.instanceMethod yX8_played] := goodIn_r _ [681] (by decide +kernel) (by decide +kernel)
set_option maxRecDepth 20000 in
theorem pw_875 : GoodIn lw_tbl [Cond.selects RX8 yX8_played yX8_played] := goodIn_r _ [682] (by decide +kernel) (by decide +kernel)
set_option maxRecDepth 20000 in
theorem pw_876 : GoodIn lw_tbl [Cond.methodLink RL 66 yX11_played] := goodIn_r _ [1388] (by decide +kernel) (by decide +kernel)
set_option maxRecDepth 20000 in
theorem pw_877 : GoodIn lw_tbl [Cond.instanceMethod yX11_played] := goodIn_r _ [1389] (by decide +kernel) (by decide +kernel)
set_option maxRecDepth 20000 in
theorem pw_878 : GoodIn lw_tbl [Cond.selects RX11 yX11_played yX11_played] := goodIn_r _ [1390] (by decide +kernel) (by decide +kernel)
set_option maxRecDepth 20000 in
theorem pw_879 : GoodIn lw_tbl [Cond.methodLink RL 67 yX8_path] := goodIn_r _ [692] (by decide +kernel) (by decide +kernel)
set_option maxRecDepth 20000 in
theorem pw_880 : GoodIn lw_tbl [Cond.instanceMethod yX8_path] := goodIn_r _ [693] (by decide +kernel) (by decide +kernel)
set_option maxRecDepth 20000 in
theorem pw_881 : GoodIn lw_tbl [Cond.selects RX8 yX8_path yX8_path] := goodIn_r _ [694] (by decide +kernel) (by decide +kernel)
set_option maxRecDepth 20000 in
theorem pw_882 : GoodIn lw_tbl [Cond.methodLink RL 70 yX11_path] := goodIn_r _ [1392] (by decide +kernel) (by decide +kernel)
set_option maxRecDepth 20000 in
theorem pw_883 : GoodIn lw_tbl [Cond.instanceMethod yX11_path] := goodIn_r _ [1393] (by decide +kernel) (by decide +kernel)
set_option maxRecDepth 20000 in
theorem pw_884 : GoodIn lw_tbl [Cond.selects RX11 yX11_path yX11_path] := goodIn_r _ [1394] (by decide +kernel) (by decide +kernel)
set_option maxRecDepth 20000 in
theorem pw_885 : GoodIn lw_tbl [Cond.methodLink RL 71 yX8_all] := goodIn_r _ [700] (by decide +kernel) (by decide +kernel)
set_option maxRecDepth 20000 in
theorem pw_886 : GoodIn lw_tbl [Cond.instanceMethod yX8_all] := goodIn_r _ [701] (by decide +kernel) (by decide +kernel)
set_option maxRecDepth 20000 in
theorem pw_887 : GoodIn lw_tbl [Cond.selects RX8 yX8_all yX8_all] := goodIn_r _ [702] (by decide +kernel) (by decide +kernel)
set_option maxRecDepth 20000 in
theorem pw_888 : GoodIn lw_tbl [Cond.methodLink RL 74 yX11_all] := goodIn_r _ [1396] (by decide +kernel) (by decide +kernel)
set_option maxRecDepth 20000 in
theorem pw_889 : GoodIn lw_tbl [Cond.instanceMethod yX11_all] := goodIn_r _ [1397] (by decide +kernel) (by decide +kernel)
set_option maxRecDepth 20000 in
theorem pw_890 : GoodIn lw_tbl [Cond.selects RX11 yX11_all yX11_all] := goodIn_r _ [1398] (by decide +kernel) (by decide +kernel)
set_option maxRecDepth 20000 in
theorem pw_891 : GoodIn lw_tbl [Cond.methodLink RL 75 yX8_ended] := goodIn_r _ [760] (by decide +kernel) (by decide +kernel)
set_option maxRecDepth 20000 in
theorem pw_892 : GoodIn lw_tbl [Cond.instanceMethod yX8_ended] := goodIn_r _ [761] (by decide +kernel) (by decide +kernel)
set_option maxRecDepth 20000 in
theorem pw_893 : GoodIn lw_tbl [Cond.selects RX8 yX8_ended yX8_ended] := goodIn_r _ [762] (by decide +kernel) (by decide +kernel)
set_option maxRecDepth 20000 in
theorem pw_894 : GoodIn lw_tbl [Cond.methodLink RL 78 yX11_ended] := goodIn_r _ [1412] (by decide +kernel) (by decide +kernel)
set_option maxRecDepth 20000 in
theorem pw_895 : GoodIn lw_tbl [Cond.instanceMethod yX11_ended] := goodIn_r _ [1413] (by decide +kernel) (by decide +kernel)
set_option maxRecDepth 20000 in
theorem pw_896 : GoodIn lw_tbl [Cond.selects RX11 yX11_ended yX11_ended] := goodIn_r _ [1414] (by decide +kernel) (by decide +kernel)
set_option maxRecDepth 20000 in
theorem pw_897 : GoodIn lw_tbl [Cond.methodLink RL 79 yX8_allOf] := goodIn_r _ [768] (by decide +kernel) (by decide +kernel)
set_option maxRecDepth 20000 in
theorem pw_898 : GoodIn lw_tbl [Cond.instanceMethod yX8_allOf] := goodIn_r _ [769] (by decide +kernel) (by decide +kernel)
set_option maxRecDepth 20000 in
theorem pw_899 : GoodIn lw_tbl [Cond.selects RX8 yX8_allOf yX8_allOf] := goodIn_r _ [770] (by decide +kernel) (by decide +kernel)
set_option maxRecDepth 20000 in
theorem pw_900 : GoodIn lw_tbl [Cond.methodLink RL 82 yX11_allOf] := goodIn_r _ [1416] (by decide +kernel) (by decide +kernel)
set_option maxRecDepth 20000 in
theorem pw_901 : GoodIn lw_tbl [Cond.instanceMethod yX11_allOf] := goodIn_r _ [1417] (by decide +kernel) (by decide +kernel)
set_option maxRecDepth 20000 in
theorem pw_902 : GoodIn lw_tbl [Cond.selects RX11 yX11_allOf yX11_allOf] := goodIn_r _ [1418] (by decide +kernel) (by decide +kernel)
set_option maxRecDepth 20000 in
theorem pw_903 : GoodIn lw_tbl [Cond.methodLink RL 83 yX8_idle] := goodIn_r _ [776] (by decide +kernel) (by decide +kernel)
set_option maxRecDepth 20000 in
theorem pw_904 : GoodIn lw_tbl [Cond.instanceMethod yX8_idle] := goodIn_r _ [777] (by decide +kernel) (by decide +kernel)
set_option maxRecDepth 20000 in
theorem pw_905 : GoodIn lw_tbl [Cond.selects RX8 yX8_idle yX8_idle] := goodIn_r _ [778] (by decide +kernel) (by decide +kernel)
set_option maxRecDepth 20000 in
theorem pw_906 : GoodIn lw_tbl [Cond.methodLink RL 86 yX11_idle] := goodIn_r _ [1420] (by decide +kernel) (by decide +kernel)
set_option maxRecDepth 20000 in
theorem pw_907 : GoodIn lw_tbl [Cond.instanceMethod yX11_idle] := goodIn_r _ [1421] (by decide +kernel) (by decide +kernel)
set_option maxRecDepth 20000 in
theorem pw_908 : GoodIn lw_tbl [Cond.selects RX11 yX11_idle yX11_idle] := goodIn_r _ [1422] (by decide +kernel) (by decide +kernel)
set_option maxRecDepth 20000 in
theorem pw_909 : GoodIn lw_tbl [Cond.methodLink RL 87 yX8_look] := goodIn_r _ [790] (by decide +kernel) (by decide +kernel)
set_option maxRecDepth 20000 in
theorem pw_910 : GoodIn lw_tbl [Cond.instanceMethod yX8_look] := goodIn_r _ [791] (by decide +kernel) (by decide +kernel)
set_option maxRecDepth 20000 in
theorem pw_911 : GoodIn lw_tbl [Cond.selects RX8 yX8_look yX8_look] := goodIn_r _ [792] (by decide +kernel) (by decide +kernel)
set_option maxRecDepth 20000 in
theorem pw_912 : GoodIn lw_tbl [Cond.methodLink RL 91 yX11_look] := goodIn_r _ [1428] (by decide +kernel) (by decide +kernel)
set_option maxRecDepth 20000 in
theorem pw_913 : GoodIn lw_tbl [Cond.instanceMethod yX11_look] := goodIn_r _ [1429] (by decide +kernel) (by decide +kernel)
set_option maxRecDepth 20000 in
theorem pw_914 : GoodIn lw_tbl [Cond.selects RX11 yX11_look yX11_look] := goodIn_r _ [1430] (by decide +kernel) (by decide +kernel)
set_option maxRecDepth 20000 in
theorem pw_915 : GoodIn lw_tbl [Cond.methodLink RL 92 yX8_mends] := goodIn_r _ [807] (by decide +kernel) (by decide +kernel)
set_option maxRecDepth 20000 in
theorem pw_916 : GoodIn lw_tbl [Cond.instanceMethod yX8_mends] := goodIn_r _ [808] (by decide +kernel) (by decide +kernel)
set_option maxRecDepth 20000 in
theorem pw_917 : GoodIn lw_tbl [Cond.selects RX8 yX8_mends yX8_mends] := goodIn_r _ [809] (by decide +kernel) (by decide +kernel)
set_option maxRecDepth 20000 in
theorem pw_918 : GoodIn lw_tbl [Cond.methodLink RL 95 yX11_mends] := goodIn_r _ [1432] (by decide +kernel) (by decide +kernel)
set_option maxRecDepth 20000 in
theorem pw_919 : GoodIn lw_tbl [Cond.instanceMethod yX11_mends] := goodIn_r _ [1433] (by decide +kernel) (by decide +kernel)
set_option maxRecDepth 20000 in
theorem pw_920 : GoodIn lw_tbl [Cond.selects RX11 yX11_mends yX11_mends] := goodIn_r _ [1434] (by decide +kernel) (by decide +kernel)
set_option maxRecDepth 20000 in
theorem pw_921 : GoodIn lw_tbl [Cond.methodLink RL 96 yX8_mend] := goodIn_r _ [837] (by decide +kernel) (by decide +kernel)
set_option maxRecDepth 20000 in
theorem pw_922 : GoodIn lw_tbl [Cond.instanceMethod yX8_mend] := goodIn_r _ [838] (by decide +kernel) (by decide +kernel)
set_option maxRecDepth 20000 in
theorem pw_923 : GoodIn lw_tbl [Cond.selects RX8 yX8_mend yX8_mend] := goodIn_r _ [839] (by decide +kernel) (by decide +kernel)
set_option maxRecDepth 20000 in
theorem pw_924 : GoodIn lw_tbl [Cond.methodLink RL 99 yX11_mend] := goodIn_r _ [1448] (by decide +kernel) (by decide +kernel)
set_option maxRecDepth 20000 in
theorem pw_925 : GoodIn lw_tbl [Cond.instanceMethod yX11_mend] := goodIn_r _ [1449] (by decide +kernel) (by decide +kernel)
set_option maxRecDepth 20000 in
theorem pw_926 : GoodIn lw_tbl [Cond.selects RX11 yX11_mend yX11_mend] := goodIn_r _ [1450] (by decide +kernel) (by decide +kernel)
set_option maxRecDepth 20000 in
theorem pw_927 : GoodIn lw_tbl [Cond.methodLink RL 100 yX8_nights] := goodIn_r _ [845] (by decide +kernel) (by decide +kernel)
set_option maxRecDepth 20000 in
theorem pw_928 : GoodIn lw_tbl [Cond.instanceMethod yX8_nights] := goodIn_r _ [846] (by decide +kernel) (by decide +kernel)
set_option maxRecDepth 20000 in
theorem pw_929 : GoodIn lw_tbl [Cond.selects RX8 yX8_nights yX8_nights] := goodIn_r _ [847] (by decide +kernel) (by decide +kernel)
set_option maxRecDepth 20000 in
theorem pw_930 : GoodIn lw_tbl [Cond.methodLink RL 104 yX11_nights] := goodIn_r _ [1452] (by decide +kernel) (by decide +kernel)
set_option maxRecDepth 20000 in
theorem pw_931 : GoodIn lw_tbl [Cond.instanceMethod yX11_nights] := goodIn_r _ [1453] (by decide +kernel) (by decide +kernel)
set_option maxRecDepth 20000 in
theorem pw_932 : GoodIn lw_tbl [Cond.selects RX11 yX11_nights yX11_nights] := goodIn_r _ [1454] (by decide +kernel) (by decide +kernel)
set_option maxRecDepth 20000 in
theorem pw_933 : GoodIn lw_tbl [Cond.methodLink RL 105 yX8_night] := goodIn_r _ [852] (by decide +kernel) (by decide +kernel)
set_option maxRecDepth 20000 in
theorem pw_934 : GoodIn lw_tbl [Cond.instanceMethod yX8_night] := goodIn_r _ [853] (by decide +kernel) (by decide +kernel)
set_option maxRecDepth 20000 in
theorem pw_935 : GoodIn lw_tbl [Cond.selects RX8 yX8_night yX8_night] := goodIn_r _ [854] (by decide +kernel) (by decide +kernel)
set_option maxRecDepth 20000 in
theorem pw_936 : GoodIn lw_tbl [Cond.methodLink RL 109 yX11_night] := goodIn_r _ [1485] (by decide +kernel) (by decide +kernel)
set_option maxRecDepth 20000 in
theorem pw_937 : GoodIn lw_tbl [Cond.instanceMethod yX11_night] := goodIn_r _ [1486] (by decide +kernel) (by decide +kernel)
set_option maxRecDepth 20000 in
theorem pw_938 : GoodIn lw_tbl [Cond.selects RX11 yX11_night yX11_night] := goodIn_r _ [1487] (by decide +kernel) (by decide +kernel)
set_option maxRecDepth 20000 in
theorem pw_939 : GoodIn lw_tbl [Cond.methodLink RL 110 yX8_log] := goodIn_r _ [856] (by decide +kernel) (by decide +kernel)
set_option maxRecDepth 20000 in
theorem pw_940 : GoodIn lw_tbl [Cond.instanceMethod yX8_log] := goodIn_r _ [857] (by decide +kernel) (by decide +kernel)
set_option maxRecDepth 20000 in
theorem pw_941 : GoodIn lw_tbl [Cond.selects RX8 yX8_log yX8_log] := goodIn_r _ [858] (by decide +kernel) (by decide +kernel)
set_option maxRecDepth 20000 in
theorem pw_942 : GoodIn lw_tbl [Cond.methodLink RL 113 yX11_log] := goodIn_r _ [1489] (by decide +kernel) (by decide +kernel)
set_option maxRecDepth 20000 in
theorem pw_943 : GoodIn lw_tbl [Cond.instanceMethod yX11_log] := goodIn_r _ [1490] (by decide +kernel) (by decide +kernel)
set_option maxRecDepth 20000 in
theorem pw_944 : GoodIn lw_tbl [Cond.selects RX11 yX11_log yX11_log] := goodIn_r _ [1491] (by decide +kernel) (by decide +kernel)
set_option maxRecDepth 20000 in
theorem pw_945 : GoodIn lw_tbl [Cond.methodLink RL 114 yX8_clear] := goodIn_r _ [868] (by decide +kernel) (by decide +kernel)
set_option maxRecDepth 20000 in
theorem pw_946 : GoodIn lw_tbl [Cond.instanceMethod yX8_clear] := goodIn_r _ [869] (by decide +kernel) (by decide +kernel)
set_option maxRecDepth 20000 in
theorem pw_947 : GoodIn lw_tbl [Cond.selects RX8 yX8_clear yX8_clear] := goodIn_r _ [870] (by decide +kernel) (by decide +kernel)
set_option maxRecDepth 20000 in
theorem pw_948 : GoodIn lw_tbl [Cond.methodLink RL 117 yX11_clear] := goodIn_r _ [1493] (by decide +kernel) (by decide +kernel)
set_option maxRecDepth 20000 in
theorem pw_949 : GoodIn lw_tbl [Cond.instanceMethod yX11_clear] := goodIn_r _ [1494] (by decide +kernel) (by decide +kernel)
set_option maxRecDepth 20000 in
theorem pw_950 : GoodIn lw_tbl [Cond.selects RX11 yX11_clear yX11_clear] := goodIn_r _ [1495] (by decide +kernel) (by decide +kernel)
set_option maxRecDepth 20000 in
theorem pw_951 : GoodIn lw_tbl [Cond.methodLink RL 118 yX8_laid] := goodIn_r _ [872] (by decide +kernel) (by decide +kernel)
set_option maxRecDepth 20000 in
theorem pw_952 : GoodIn lw_tbl [Cond.instanceMethod yX8_laid] := goodIn_r _ [873] (by decide +kernel) (by decide +kernel)
set_option maxRecDepth 20000 in
theorem pw_953 : GoodIn lw_tbl [Cond.selects RX8 yX8_laid yX8_laid] := goodIn_r _ [874] (by decide +kernel) (by decide +kernel)
set_option maxRecDepth 20000 in
theorem pw_954 : GoodIn lw_tbl [Cond.methodLink RL 121 yX11_laid] := goodIn_r _ [1497] (by decide +kernel) (by decide +kernel)
set_option maxRecDepth 20000 in
theorem pw_955 : GoodIn lw_tbl [Cond.instanceMethod yX11_laid] := goodIn_r _ [1498] (by decide +kernel) (by decide +kernel)
set_option maxRecDepth 20000 in
theorem pw_956 : GoodIn lw_tbl [Cond.selects RX11 yX11_laid yX11_laid] := goodIn_r _ [1499] (by decide +kernel) (by decide +kernel)
set_option maxRecDepth 20000 in
theorem pw_957 : GoodIn lw_tbl [Cond.methodLink RL 122 yX8_apart] := goodIn_r _ [890] (by decide +kernel) (by decide +kernel)
set_option maxRecDepth 20000 in
theorem pw_958 : GoodIn lw_tbl [Cond.instanceMethod yX8_apart] := goodIn_r _ [891] (by decide +kernel) (by decide +kernel)
set_option maxRecDepth 20000 in
theorem pw_959 : GoodIn lw_tbl [Cond.selects RX8 yX8_apart yX8_apart] := goodIn_r _ [892] (by decide +kernel) (by decide +kernel)
set_option maxRecDepth 20000 in
theorem pw_960 : GoodIn lw_tbl [Cond.methodLink RL 126 yX11_apart] := goodIn_r _ [1502] (by decide +kernel) (by decide +kernel)
set_option maxRecDepth 20000 in
theorem pw_961 : GoodIn lw_tbl [Cond.instanceMethod yX11_apart] := goodIn_r _ [1503] (by decide +kernel) (by decide +kernel)
set_option maxRecDepth 20000 in
theorem pw_962 : GoodIn lw_tbl [Cond.selects RX11 yX11_apart yX11_apart] := goodIn_r _ [1504] (by decide +kernel) (by decide +kernel)
set_option maxRecDepth 20000 in
theorem pw_963 : GoodIn lw_tbl [Cond.methodLink RL 127 yX8_differ] := goodIn_r _ [894] (by decide +kernel) (by decide +kernel)
set_option maxRecDepth 20000 in
theorem pw_964 : GoodIn lw_tbl [Cond.instanceMethod yX8_differ] := goodIn_r _ [895] (by decide +kernel) (by decide +kernel)
set_option maxRecDepth 20000 in
theorem pw_965 : GoodIn lw_tbl [Cond.selects RX8 yX8_differ yX8_differ] := goodIn_r _ [896] (by decide +kernel) (by decide +kernel)
set_option maxRecDepth 20000 in
theorem pw_966 : GoodIn lw_tbl [Cond.methodLink RL 131 yX11_differ] := goodIn_r _ [1506] (by decide +kernel) (by decide +kernel)
set_option maxRecDepth 20000 in
theorem pw_967 : GoodIn lw_tbl [Cond.instanceMethod yX11_differ] := goodIn_r _ [1507] (by decide +kernel) (by decide +kernel)
set_option maxRecDepth 20000 in
theorem pw_968 : GoodIn lw_tbl [Cond.selects RX11 yX11_differ yX11_differ] := goodIn_r _ [1508] (by decide +kernel) (by decide +kernel)
set_option maxRecDepth 20000 in
theorem pw_969 : GoodIn lw_tbl [Cond.methodLink RL 132 yX8_count] := goodIn_r _ [902] (by decide +kernel) (by decide +kernel)
set_option maxRecDepth 20000 in
theorem pw_970 : GoodIn lw_tbl [Cond.instanceMethod yX8_count] := goodIn_r _ [903] (by decide +kernel) (by decide +kernel)
set_option maxRecDepth 20000 in
theorem pw_971 : GoodIn lw_tbl [Cond.selects RX8 yX8_count yX8_count] := goodIn_r _ [904] (by decide +kernel) (by decide +kernel)
set_option maxRecDepth 20000 in
theorem pw_972 : GoodIn lw_tbl [Cond.methodLink RL 135 yX11_count] := goodIn_r _ [1510] (by decide +kernel) (by decide +kernel)
set_option maxRecDepth 20000 in
theorem pw_973 : GoodIn lw_tbl [Cond.instanceMethod yX11_count] := goodIn_r _ [1511] (by decide +kernel) (by decide +kernel)
set_option maxRecDepth 20000 in
theorem pw_974 : GoodIn lw_tbl [Cond.selects RX11 yX11_count yX11_count] := goodIn_r _ [1512] (by decide +kernel) (by decide +kernel)
set_option maxRecDepth 20000 in
theorem pw_975 : GoodIn lw_tbl [Cond.methodLink RL 136 yX8_trouble] := goodIn_r _ [906] (by decide +kernel) (by decide +kernel)
set_option maxRecDepth 20000 in
theorem pw_976 : GoodIn lw_tbl [Cond.instanceMethod yX8_trouble] := goodIn_r _ [907] (by decide +kernel) (by decide +kernel)
set_option maxRecDepth 20000 in
theorem pw_977 : GoodIn lw_tbl [Cond.selects RX8 yX8_trouble yX8_trouble] := goodIn_r _ [908] (by decide +kernel) (by decide +kernel)
set_option maxRecDepth 20000 in
theorem pw_978 : GoodIn lw_tbl [Cond.methodLink RL 139 yX11_trouble] := goodIn_r _ [1514] (by decide +kernel) (by decide +kernel)
set_option maxRecDepth 20000 in
theorem pw_979 : GoodIn lw_tbl [Cond.instanceMethod yX11_trouble] := goodIn_r _ [1515] (by decide +kernel) (by decide +kernel)
set_option maxRecDepth 20000 in
theorem pw_980 : GoodIn lw_tbl [Cond.selects RX11 yX11_trouble yX11_trouble] := goodIn_r _ [1516] (by decide +kernel) (by decide +kernel)
