/-! THE START -/
theorem in_by {big ws : List Cond} (ps : List Nat) (hp : ws = ps.filterMap (fun i => big[i]?)) : ∀ w ∈ ws, w ∈ big := by
  intro w hw
  rw [hp] at hw
  obtain ⟨i, -, hi⟩ := List.mem_filterMap.mp hw
  exact List.mem_of_getElem? hi
def nFl : List Cond := flatC (Jvm.Cond.and given_1 narrow_1)
def nIxA (i : Nat) : Nat := ([101, 103, 105, 107, 109, 146, 148, 153, 155, 157, 162, 164] : List Nat).getD i 0
def nIxB (i : Nat) : Nat := ([204, 206, 208, 210, 212, 224, 222, 226, 232, 234, 235, 240] : List Nat).getD i 0
def nTm (i : Nat) : Term := .string RX4 (nIxA i)
def nVl (i : Nat) : Term := .field (nTm i) "java/lang/String" "value" "[B"
set_option maxRecDepth 100000 in
theorem fl_ex : ∀ w ∈ (List.range 12).map (fun i => Cond.exactly (nTm i) "java/lang/String"), w ∈ nFl := in_by [22, 28, 36, 46, 55, 67, 81, 96, 112, 126, 143, 161] (by decide +kernel)
set_option maxRecDepth 100000 in
theorem fl_co : ∀ w ∈ (List.range 12).map (fun i => Cond.eq (.field (nTm i) "java/lang/String" "coder" "B") (.int 0)), w ∈ nFl := in_by [23, 29, 37, 47, 56, 68, 82, 97, 113, 127, 144, 162] (by decide +kernel)
set_option maxRecDepth 100000 in
theorem fl_ar : ∀ w ∈ (List.range 12).map (fun i => Cond.arrayOf (nVl i) .byte), w ∈ nFl := in_by [24, 30, 38, 48, 57, 69, 83, 98, 114, 128, 145, 163] (by decide +kernel)
set_option maxRecDepth 100000 in
theorem fl_le : ∀ w ∈ (List.range 12).map (fun i => Cond.eq (.length (nVl i)) (.int (Int32.ofNat (nLen.getD i 0)))), w ∈ nFl := in_by [25, 31, 39, 49, 58, 70, 84, 99, 115, 129, 146, 164] (by decide +kernel)
def nPr : List (Nat × Nat) := [(0, 0), (0, 1), (1, 0), (1, 1), (1, 2), (2, 0), (2, 1), (2, 2), (2, 3), (3, 0), (3, 1), (4, 0), (4, 1), (4, 2), (4, 3), (5, 0), (5, 1), (5, 2), (5, 3), (5, 4), (6, 0), (6, 1), (6, 2), (6, 3), (6, 4), (7, 0), (7, 1), (7, 2), (7, 3), (7, 4), (8, 0), (8, 1), (9, 0), (9, 1), (9, 2), (9, 3), (10, 0), (10, 1), (10, 2), (10, 3), (11, 0), (11, 1), (11, 2), (11, 3)]
set_option maxRecDepth 100000 in
theorem fl_el : ∀ w ∈ nPr.map (fun q => Cond.eq (.elem (nVl q.1) (.int (Int32.ofNat q.2))) (.int ((nByt.getD q.1 []).getD q.2 0))), w ∈ nFl := in_by [26, 27, 32, 33, 34, 40, 41, 42, 43, 50, 51, 59, 60, 61, 62, 71, 72, 73, 74, 75, 85, 86, 87, 88, 89, 100, 101, 102, 103, 104, 116, 117, 130, 131, 132, 133, 147, 148, 149, 150, 165, 166, 167, 168] (by decide +kernel)
theorem nPr_in : ∀ i, i < 12 → ∀ j, j < nLen.getD i 0 → (i, j) ∈ nPr := by decide +kernel
def nNe : List (Nat × Nat) := [(0, 1), (0, 2), (0, 3), (0, 4), (0, 5), (0, 6), (0, 7), (0, 8), (0, 9), (0, 10), (0, 11), (1, 2), (1, 3), (1, 4), (1, 5), (1, 6), (1, 7), (1, 8), (1, 9), (1, 10), (1, 11), (2, 3), (2, 4), (2, 5), (2, 6), (2, 7), (2, 8), (2, 9), (2, 10), (2, 11), (3, 4), (3, 5), (3, 6), (3, 7), (3, 8), (3, 9), (3, 10), (3, 11), (4, 5), (4, 6), (4, 7), (4, 8), (4, 9), (4, 10), (4, 11), (5, 6), (5, 7), (5, 8), (5, 9), (5, 10), (5, 11), (6, 7), (6, 8), (6, 9), (6, 10), (6, 11), (7, 8), (7, 9), (7, 10), (7, 11), (8, 9), (8, 10), (8, 11), (9, 10), (9, 11), (10, 11)]
set_option maxRecDepth 100000 in
theorem fl_ne : ∀ w ∈ nNe.map (fun q => Cond.not (Cond.eq (nTm q.1) (nTm q.2))), w ∈ nFl := in_by [35, 44, 52, 63, 76, 90, 105, 118, 134, 151, 169, 45, 53, 64, 77, 91, 106, 119, 135, 152, 170, 54, 65, 78, 92, 107, 120, 136, 153, 171, 66, 79, 93, 108, 121, 137, 154, 172, 80, 94, 109, 122, 138, 155, 173, 95, 110, 123, 139, 156, 174, 111, 124, 140, 157, 175, 125, 141, 158, 176, 142, 159, 177, 160, 178, 179] (by decide +kernel)
theorem nNe_in2 : ∀ i, i < 12 → ∀ j, j < 12 → (i == j || nNe.contains (i, j) || nNe.contains (j, i)) = true := by decide +kernel
theorem nNe_in : ∀ i, i < 12 → ∀ j, j < 12 → i ≠ j → (i, j) ∈ nNe ∨ (j, i) ∈ nNe := by
  intro i hi j hj hij
  have h := nNe_in2 i hi j hj
  simp only [Bool.or_eq_true, List.contains_iff_mem, beq_iff_eq] at h
  rcases h with (h | h) | h
  · exact absurd h hij
  · exact Or.inl h
  · exact Or.inr h
set_option maxRecDepth 100000 in
theorem fl_eq : ∀ w ∈ (List.range 12).map (fun i => Cond.eq (nTm i) (.string RX11 (nIxB i))), w ∈ nFl := in_by [186, 206, 228, 249, 273, 325, 300, 354, 380, 409, 439, 470] (by decide +kernel)
set_option maxRecDepth 100000 in
theorem fl_st : ∀ w ∈ [Cond.eq (.static "java/lang/String" "COMPACT_STRINGS" "Z") (.int 1), Cond.isRef (.static "jdk/internal/util/Preconditions" "SIOOBE_FORMATTER" "Ljava/util/function/BiFunction;"), Cond.isRef (.static "java/lang/Throwable" "UNASSIGNED_STACK" "[Ljava/lang/StackTraceElement;"), Cond.isRef (.static "java/lang/Throwable" "SUPPRESSED_SENTINEL" "Ljava/util/List;")], w ∈ nFl := in_by [4, 5, 9, 10] (by decide +kernel)
set_option maxRecDepth 100000 in
theorem tb_nest : ∀ w ∈ nNest.map nNw, w ∈ lw_tbl := in_by [98, 99, 101, 102, 104, 105, 107, 108, 110, 111, 113, 115, 146, 155, 157, 215, 217, 219, 221, 280, 283, 285, 287, 289, 325, 347, 349, 351, 967, 968, 993, 995, 997, 999, 1001, 1003, 1005, 1007, 1009, 1011, 1013] (by decide +kernel)
set_option maxRecDepth 100000 in
theorem tb_nestM : ∀ w ∈ nNestM.map (fun q => Cond.methodLinkNest q.1 q.2.1 q.2.2.1 q.2.2.2), w ∈ lw_tbl := in_by [93, 140, 192, 250, 275, 320, 340, 988] (by decide +kernel)
set_option maxRecDepth 100000 in
theorem tb_str : ∀ w ∈ nStr.map (fun q => Cond.stringRef q.1 q.2.1 q.2.2.1), w ∈ lw_tbl := in_by [475, 528, 529, 530, 531, 559, 560, 565, 566, 567, 572, 577, 1296, 1306, 1307, 1308, 1309, 1322, 1323, 1324, 1329, 1330, 1331, 1336] (by decide +kernel)
def nMisc : List Cond := [.laysStatic "java/lang/String" "COMPACT_STRINGS" "Z", .initialized "java/lang/String", .laysStatic "jdk/internal/util/Preconditions" "SIOOBE_FORMATTER" "Ljava/util/function/BiFunction;", .initialized "jdk/internal/util/Preconditions", .laysStatic "java/lang/Throwable" "UNASSIGNED_STACK" "[Ljava/lang/StackTraceElement;", .laysStatic "java/lang/Throwable" "SUPPRESSED_SENTINEL" "Ljava/util/List;", .initialized "java/lang/Throwable", .arrayClass .int, .arrayClass .long, .arrayClass .byte, .arrayClass .boolean, .classLink RL 7 RX8, .classLink RL 10 RX11, .initialized RX8, .initialized RX11, .methodLink RL 9 yX8_init, .methodLink RL 12 yX11_init, .instanceMethod yX8_init, .instanceMethod yX11_init, .instantiable RX0 6, .instantiable RX1 4, .instantiable RX2 5, .instantiable RX3 1, .instantiable RX4 14, .instantiable RX5 11, .instantiable RX6 12, .instantiable RX7 9, .instantiable RX8 13, .instantiable RX9 11, .instantiable RX10 8, .instantiable RX11 68]
set_option maxRecDepth 100000 in
theorem tb_misc : ∀ w ∈ nMisc, w ∈ lw_tbl := in_by [489, 76, 505, 78, 943, 945, 71, 137, 247, 586, 1037, 83, 910, 61, 70, 85, 912, 86, 913, 249, 319, 339, 191, 139, 274, 201, 92, 84, 987, 917, 911] (by decide +kernel)
set_option maxRecDepth 100000 in
theorem gB_stop : GoodIn lw_tbl ([.methodLink RX11 195 yX11_stop, .instanceMethod yX11_stop, .selects RX11 yX11_stop yX11_stop] ++ (wsX11_stop ++ [.classLink RX11 41 RX10])) := goodIn_r _ [1310, 1312, 38, 1313, 1055, 1105, 1107, 1109, 1111, 1113, 1115, 1117, 1119, 1121, 1123, 1125, 1127, 1129, 1131, 1133, 1135, 1137, 1139, 1141, 1143, 1145, 1147, 1149, 1151, 1153, 1155, 1157, 1159, 1161, 1163, 1165, 1167, 1169, 1171, 1173, 1175, 1177, 1179, 1181, 1183, 1185, 1187, 1189, 1191, 1193, 1195, 1197, 1199, 1201, 1203, 1205, 1207, 1209, 1211, 1213, 1215, 1217, 1219, 1221, 1223, 1225, 1227, 1229, 1231, 1233, 1235, 1237, 1239, 927, 929, 931, 933, 935, 982, 974, 976, 916] (by decide +kernel) (by decide +kernel)
set_option maxRecDepth 100000 in
theorem gB_bk : GoodIn lw_tbl [.methodLink RL 40 yX11_book, .instanceMethod yX11_book, .selects RX11 yX11_book yX11_book, .initialized RX11, .codeWith yX11_book cX11_book 3 (some .int) [(43, 47, 50, 41)]] := goodIn_r _ [1273, 1274, 1275, 70, 1276] (by decide +kernel) (by decide +kernel)
theorem gB_book : GoodIn lw_tbl (wsV RL 40 RX11 yX11_book wT_X11_book) := (goodIn_app gB_bk (goodIn_app gM_X11_book gB_stop) : GoodIn lw_tbl ([.methodLink RL 40 yX11_book, .instanceMethod yX11_book, .selects RX11 yX11_book yX11_book, .initialized RX11, .codeWith yX11_book cX11_book 3 (some .int) [(43, 47, 50, 41)]] ++ (wsX11_book ++ ([.methodLink RX11 195 yX11_stop, .instanceMethod yX11_stop, .selects RX11 yX11_stop yX11_stop] ++ (wsX11_stop ++ [.classLink RX11 41 RX10])))))
set_option maxRecDepth 100000 in
theorem gB_stopC : GoodIn lw_tbl wStopC := goodIn_r _ [955, 956, 74, 957, 958, 959, 73, 960, 961, 962, 72, 963, 964, 965, 71, 966, 941, 89, 90, 971, 942, 972, 944, 973, 970, 927, 929, 931, 933, 935, 982, 974, 976] (by decide +kernel) (by decide +kernel)
theorem gB_X11_init : GoodIn lw_tbl wI_X11 := goodIn_app gM_X11_init gB_stopC
