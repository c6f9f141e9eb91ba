theorem dX4_clearStep_5 : decode cX4_clearStep 5 = .ok (.iload_n 1, 1) := by decide +kernel
theorem dX4_clearStep_6 : decode cX4_clearStep 6 = .ok (.iconst 1, 1) := by decide +kernel
theorem dX4_clearStep_7 : decode cX4_clearStep 7 = .ok (.iconst 0, 1) := by decide +kernel
theorem dX4_clearStep_8 : decode cX4_clearStep 8 = .ok (.invokevirtual 93, 3) := by decide +kernel
theorem dX4_clearStep_11 : decode cX4_clearStep 11 = .ok (.aload_n 0, 1) := by decide +kernel
theorem dX4_clearStep_12 : decode cX4_clearStep 12 = .ok (.aload_n 0, 1) := by decide +kernel
theorem dX4_clearStep_13 : decode cX4_clearStep 13 = .ok (.getfield 88, 3) := by decide +kernel
theorem dX4_clearStep_16 : decode cX4_clearStep 16 = .ok (.iload_n 1, 1) := by decide +kernel
theorem dX4_clearStep_17 : decode cX4_clearStep 17 = .ok (.iconst 2, 1) := by decide +kernel
theorem dX4_clearStep_18 : decode cX4_clearStep 18 = .ok (.iconst 0, 1) := by decide +kernel
theorem dX4_clearStep_19 : decode cX4_clearStep 19 = .ok (.invokevirtual 93, 3) := by decide +kernel
theorem dX4_clearStep_22 : decode cX4_clearStep 22 = .ok (.aload_n 0, 1) := by decide +kernel
theorem dX4_clearStep_23 : decode cX4_clearStep 23 = .ok (.aload_n 0, 1) := by decide +kernel
theorem dX4_clearStep_24 : decode cX4_clearStep 24 = .ok (.getfield 88, 3) := by decide +kernel
theorem dX4_clearStep_27 : decode cX4_clearStep 27 = .ok (.iload_n 1, 1) := by decide +kernel
theorem dX4_clearStep_28 : decode cX4_clearStep 28 = .ok (.iconst 3, 1) := by decide +kernel
theorem dX4_clearStep_29 : decode cX4_clearStep 29 = .ok (.iconst 0, 1) := by decide +kernel
theorem dX4_clearStep_30 : decode cX4_clearStep 30 = .ok (.invokevirtual 93, 3) := by decide +kernel
theorem dX4_clearStep_33 : decode cX4_clearStep 33 = .ok (.aload_n 0, 1) := by decide +kernel
theorem dX4_clearStep_34 : decode cX4_clearStep 34 = .ok (.aload_n 0, 1) := by decide +kernel
theorem dX4_clearStep_35 : decode cX4_clearStep 35 = .ok (.getfield 88, 3) := by decide +kernel
theorem dX4_clearStep_38 : decode cX4_clearStep 38 = .ok (.iload_n 1, 1) := by decide +kernel
theorem dX4_clearStep_39 : decode cX4_clearStep 39 = .ok (.iconst 4, 1) := by decide +kernel
theorem dX4_clearStep_40 : decode cX4_clearStep 40 = .ok (.iconst (-1), 1) := by decide +kernel
theorem dX4_clearStep_41 : decode cX4_clearStep 41 = .ok (.invokevirtual 93, 3) := by decide +kernel
theorem dX4_clearStep_44 : decode cX4_clearStep 44 = .ok (.return_, 1) := by decide +kernel
set_option maxRecDepth 20000 in
theorem ggX4_readDo_X4_advance : GoodIn wsX4_readDo wsX4_advance := goodIn_r _ [5, 6, 7, 8, 9, 10, 11, 12, 13, 4, 14, 15, 16, 17, 18, 19, 20, 21, 22, 23, 24, 113, 114, 115, 116, 117, 118, 119, 120, 121, 122, 123, 124, 125, 126] (by decide +kernel) (by decide +kernel)
set_option maxRecDepth 20000 in
theorem gX4_readDo_X4_advance : GoodIn wsX4_readDo (wsV RX4 85 RX4 yX4_advance wsX4_advance) := goodIn_app (goodIn_of _ (by decide +kernel)) ggX4_readDo_X4_advance
set_option maxRecDepth 20000 in
theorem ggX4_readDo_X4_takeNumber : GoodIn wsX4_readDo wsX4_takeNumber := goodIn_r _ [28, 9, 10, 29, 8, 30, 31, 32, 33, 4, 34, 35, 36, 1, 2, 3, 5, 6, 7, 11, 12, 13, 14, 15, 16, 17, 18, 19, 20, 21, 22, 23, 24, 113, 114, 115, 116, 117, 118, 119, 120, 121, 122, 123, 124, 125, 126] (by decide +kernel) (by decide +kernel)
set_option maxRecDepth 20000 in
theorem gX4_readDo_X4_takeNumber : GoodIn wsX4_readDo (wsV RX4 136 RX4 yX4_takeNumber wsX4_takeNumber) := goodIn_app (goodIn_of _ (by decide +kernel)) ggX4_readDo_X4_takeNumber
set_option maxRecDepth 20000 in
theorem ggX4_readDo_X4_keep : GoodIn wsX4_readDo wsX4_keep := goodIn_r _ [40, 29, 41, 42, 43, 44, 45, 46, 104, 105, 106, 107, 108, 109, 110, 111, 112, 113, 114, 115, 116, 117, 118, 119, 120, 121, 122, 123, 124, 125, 126] (by decide +kernel) (by decide +kernel)
set_option maxRecDepth 20000 in
theorem gX4_readDo_X4_keep : GoodIn wsX4_readDo (wsV RX4 97 RX4 yX4_keep wsX4_keep) := goodIn_app (goodIn_of _ (by decide +kernel)) ggX4_readDo_X4_keep
set_option maxRecDepth 20000 in
theorem ggX4_readDo_X4_isWord : GoodIn wsX4_readDo wsX4_isWord := goodIn_r _ [50, 9, 6, 8, 51, 52, 53, 54, 55, 56, 57, 58, 59, 60, 61, 62, 11, 12, 13, 4, 14, 7, 15, 63, 64, 65, 66, 67, 68, 69, 70, 71, 72, 73, 74, 75, 76, 77, 78, 79, 80, 81, 82, 83, 84, 85, 86, 87, 88, 89, 90, 91, 92, 93, 94, 95, 96, 97, 98, 99, 113, 114, 115, 116, 117, 118, 119, 120, 121, 122, 123, 124, 125, 126] (by decide +kernel) (by decide +kernel)
set_option maxRecDepth 20000 in
theorem gX4_readDo_X4_isWord : GoodIn wsX4_readDo (wsV RX4 78 RX4 yX4_isWord wsX4_isWord) := goodIn_app (goodIn_of _ (by decide +kernel)) ggX4_readDo_X4_isWord
set_option maxRecDepth 20000 in
theorem ggX4_readDo_X7_setCell : GoodIn wsX4_readDo wsX7_setCell := goodIn_r _ [45, 46, 104, 105, 106, 107, 108, 109, 110, 111, 112] (by decide +kernel) (by decide +kernel)
set_option maxRecDepth 20000 in
theorem gX4_readDo_X7_setCell : GoodIn wsX4_readDo (wsV RX4 93 RX7 yX7_setCell wsX7_setCell) := goodIn_app (goodIn_of _ (by decide +kernel)) ggX4_readDo_X7_setCell
set_option maxRecDepth 20000 in
theorem ggX4_readDo_X4_takeWord : GoodIn wsX4_readDo wsX4_takeWord := goodIn_r _ [103, 47, 48, 49, 4, 50, 9, 6, 8, 51, 52, 53, 54, 55, 56, 57, 58, 59, 60, 61, 62, 11, 12, 13, 14, 7, 15, 63, 64, 65, 66, 67, 68, 69, 70, 71, 72, 73, 74, 75, 76, 77, 78, 79, 80, 81, 82, 83, 84, 85, 86, 87, 88, 89, 90, 91, 92, 93, 94, 95, 96, 97, 98, 99, 31, 32, 33, 34, 35, 36, 1, 2, 3, 5, 10, 16, 17, 18, 19, 20, 21, 22, 23, 24, 113, 114, 115, 116, 117, 118, 119, 120, 121, 122, 123, 124, 125, 126] (by decide +kernel) (by decide +kernel)
set_option maxRecDepth 20000 in
theorem gX4_readDo_X4_takeWord : GoodIn wsX4_readDo (wsV RX4 143 RX4 yX4_takeWord wsX4_takeWord) := goodIn_app (goodIn_of _ (by decide +kernel)) ggX4_readDo_X4_takeWord
theorem dX4_readDo_0 : decode cX4_readDo 0 = .ok (.aload_n 0, 1) := by decide +kernel
theorem dX4_readDo_1 : decode cX4_readDo 1 = .ok (.invokevirtual 85, 3) := by decide +kernel
theorem dX4_readDo_4 : decode cX4_readDo 4 = .ok (.aload_n 0, 1) := by decide +kernel
theorem dX4_readDo_5 : decode cX4_readDo 5 = .ok (.iconst 0, 1) := by decide +kernel
theorem dX4_readDo_6 : decode cX4_readDo 6 = .ok (.bipush 7, 2) := by decide +kernel
theorem dX4_readDo_8 : decode cX4_readDo 8 = .ok (.invokevirtual 136, 3) := by decide +kernel
theorem dX4_readDo_11 : decode cX4_readDo 11 = .ok (.ifCond .ne 5, 3) := by decide +kernel
theorem dX4_readDo_14 : decode cX4_readDo 14 = .ok (.iconst 0, 1) := by decide +kernel
theorem dX4_readDo_15 : decode cX4_readDo 15 = .ok (.ireturn, 1) := by decide +kernel
theorem dX4_readDo_16 : decode cX4_readDo 16 = .ok (.aload_n 0, 1) := by decide +kernel
theorem dX4_readDo_17 : decode cX4_readDo 17 = .ok (.aload_n 1, 1) := by decide +kernel
theorem dX4_readDo_18 : decode cX4_readDo 18 = .ok (.iload_n 2, 1) := by decide +kernel
theorem dX4_readDo_19 : decode cX4_readDo 19 = .ok (.iconst 1, 1) := by decide +kernel
theorem dX4_readDo_20 : decode cX4_readDo 20 = .ok (.invokevirtual 97, 3) := by decide +kernel
theorem dX4_readDo_23 : decode cX4_readDo 23 = .ok (.pop, 1) := by decide +kernel
theorem dX4_readDo_24 : decode cX4_readDo 24 = .ok (.aload_n 0, 1) := by decide +kernel
theorem dX4_readDo_25 : decode cX4_readDo 25 = .ok (.ldc 146, 2) := by decide +kernel
theorem dX4_readDo_27 : decode cX4_readDo 27 = .ok (.invokevirtual 78, 3) := by decide +kernel
theorem dX4_readDo_30 : decode cX4_readDo 30 = .ok (.istore_n 3, 1) := by decide +kernel
theorem dX4_readDo_31 : decode cX4_readDo 31 = .ok (.aload_n 1, 1) := by decide +kernel
theorem dX4_readDo_32 : decode cX4_readDo 32 = .ok (.aload_n 1, 1) := by decide +kernel
theorem dX4_readDo_33 : decode cX4_readDo 33 = .ok (.getfield 88, 3) := by decide +kernel
theorem dX4_readDo_36 : decode cX4_readDo 36 = .ok (.iload_n 2, 1) := by decide +kernel
theorem dX4_readDo_37 : decode cX4_readDo 37 = .ok (.iconst 0, 1) := by decide +kernel
theorem dX4_readDo_38 : decode cX4_readDo 38 = .ok (.iload_n 3, 1) := by decide +kernel
theorem dX4_readDo_39 : decode cX4_readDo 39 = .ok (.ifCond .eq 7, 3) := by decide +kernel
theorem dX4_readDo_42 : decode cX4_readDo 42 = .ok (.iconst 1, 1) := by decide +kernel
theorem dX4_readDo_43 : decode cX4_readDo 43 = .ok (.goto 4, 3) := by decide +kernel
theorem dX4_readDo_46 : decode cX4_readDo 46 = .ok (.iconst 0, 1) := by decide +kernel
theorem dX4_readDo_47 : decode cX4_readDo 47 = .ok (.invokevirtual 93, 3) := by decide +kernel
theorem dX4_readDo_50 : decode cX4_readDo 50 = .ok (.aload_n 0, 1) := by decide +kernel
theorem dX4_readDo_51 : decode cX4_readDo 51 = .ok (.iload_n 3, 1) := by decide +kernel
theorem dX4_readDo_52 : decode cX4_readDo 52 = .ok (.ifCond .eq 8, 3) := by decide +kernel
theorem dX4_readDo_55 : decode cX4_readDo 55 = .ok (.ldc 146, 2) := by decide +kernel
theorem dX4_readDo_57 : decode cX4_readDo 57 = .ok (.goto 5, 3) := by decide +kernel
theorem dX4_readDo_60 : decode cX4_readDo 60 = .ok (.ldc 148, 2) := by decide +kernel
theorem dX4_readDo_62 : decode cX4_readDo 62 = .ok (.invokevirtual 143, 3) := by decide +kernel
theorem dX4_readDo_65 : decode cX4_readDo 65 = .ok (.ifCond .eq 17, 3) := by decide +kernel
theorem dX4_readDo_68 : decode cX4_readDo 68 = .ok (.aload_n 0, 1) := by decide +kernel
theorem dX4_readDo_69 : decode cX4_readDo 69 = .ok (.iconst 0, 1) := by decide +kernel
theorem dX4_readDo_70 : decode cX4_readDo 70 = .ok (.aload_n 1, 1) := by decide +kernel
theorem dX4_readDo_71 : decode cX4_readDo 71 = .ok (.getfield 150, 3) := by decide +kernel
theorem dX4_readDo_74 : decode cX4_readDo 74 = .ok (.iconst 1, 1) := by decide +kernel
theorem dX4_readDo_75 : decode cX4_readDo 75 = .ok (.isub, 1) := by decide +kernel
theorem dX4_readDo_76 : decode cX4_readDo 76 = .ok (.invokevirtual 136, 3) := by decide +kernel
theorem dX4_readDo_79 : decode cX4_readDo 79 = .ok (.ifCond .ne 5, 3) := by decide +kernel
theorem dX4_readDo_82 : decode cX4_readDo 82 = .ok (.iconst 0, 1) := by decide +kernel
theorem dX4_readDo_83 : decode cX4_readDo 83 = .ok (.ireturn, 1) := by decide +kernel
theorem dX4_readDo_84 : decode cX4_readDo 84 = .ok (.aload_n 0, 1) := by decide +kernel
theorem dX4_readDo_85 : decode cX4_readDo 85 = .ok (.aload_n 1, 1) := by decide +kernel
theorem dX4_readDo_86 : decode cX4_readDo 86 = .ok (.iload_n 2, 1) := by decide +kernel
theorem dX4_readDo_87 : decode cX4_readDo 87 = .ok (.iconst 2, 1) := by decide +kernel
theorem dX4_readDo_88 : decode cX4_readDo 88 = .ok (.invokevirtual 97, 3) := by decide +kernel
theorem dX4_readDo_91 : decode cX4_readDo 91 = .ok (.pop, 1) := by decide +kernel
theorem dX4_readDo_92 : decode cX4_readDo 92 = .ok (.aload_n 0, 1) := by decide +kernel
theorem dX4_readDo_93 : decode cX4_readDo 93 = .ok (.ldc 153, 2) := by decide +kernel
theorem dX4_readDo_95 : decode cX4_readDo 95 = .ok (.invokevirtual 143, 3) := by decide +kernel
theorem dX4_readDo_98 : decode cX4_readDo 98 = .ok (.ifCond .eq 13, 3) := by decide +kernel
theorem dX4_readDo_101 : decode cX4_readDo 101 = .ok (.aload_n 0, 1) := by decide +kernel
theorem dX4_readDo_102 : decode cX4_readDo 102 = .ok (.iconst 1, 1) := by decide +kernel
theorem dX4_readDo_103 : decode cX4_readDo 103 = .ok (.bipush 60, 2) := by decide +kernel
theorem dX4_readDo_105 : decode cX4_readDo 105 = .ok (.invokevirtual 136, 3) := by decide +kernel
theorem dX4_readDo_108 : decode cX4_readDo 108 = .ok (.ifCond .ne 5, 3) := by decide +kernel
theorem dX4_readDo_111 : decode cX4_readDo 111 = .ok (.iconst 0, 1) := by decide +kernel
theorem dX4_readDo_112 : decode cX4_readDo 112 = .ok (.ireturn, 1) := by decide +kernel
theorem dX4_readDo_113 : decode cX4_readDo 113 = .ok (.aload_n 0, 1) := by decide +kernel
theorem dX4_readDo_114 : decode cX4_readDo 114 = .ok (.aload_n 1, 1) := by decide +kernel
theorem dX4_readDo_115 : decode cX4_readDo 115 = .ok (.iload_n 2, 1) := by decide +kernel
theorem dX4_readDo_116 : decode cX4_readDo 116 = .ok (.iconst 3, 1) := by decide +kernel
theorem dX4_readDo_117 : decode cX4_readDo 117 = .ok (.invokevirtual 97, 3) := by decide +kernel
theorem dX4_readDo_120 : decode cX4_readDo 120 = .ok (.pop, 1) := by decide +kernel
theorem dX4_readDo_121 : decode cX4_readDo 121 = .ok (.aload_n 0, 1) := by decide +kernel
theorem dX4_readDo_122 : decode cX4_readDo 122 = .ok (.ldc 155, 2) := by decide +kernel
theorem dX4_readDo_124 : decode cX4_readDo 124 = .ok (.invokevirtual 78, 3) := by decide +kernel
theorem dX4_readDo_127 : decode cX4_readDo 127 = .ok (.ifCond .ne 5, 3) := by decide +kernel
theorem dX4_readDo_130 : decode cX4_readDo 130 = .ok (.iconst 1, 1) := by decide +kernel
theorem dX4_readDo_131 : decode cX4_readDo 131 = .ok (.ireturn, 1) := by decide +kernel
theorem dX4_readDo_132 : decode cX4_readDo 132 = .ok (.aload_n 0, 1) := by decide +kernel
theorem dX4_readDo_133 : decode cX4_readDo 133 = .ok (.invokevirtual 85, 3) := by decide +kernel
theorem dX4_readDo_136 : decode cX4_readDo 136 = .ok (.aload_n 0, 1) := by decide +kernel
theorem dX4_readDo_137 : decode cX4_readDo 137 = .ok (.iconst 0, 1) := by decide +kernel
theorem dX4_readDo_138 : decode cX4_readDo 138 = .ok (.aload_n 1, 1) := by decide +kernel
theorem dX4_readDo_139 : decode cX4_readDo 139 = .ok (.getfield 150, 3) := by decide +kernel
theorem dX4_readDo_142 : decode cX4_readDo 142 = .ok (.iconst 1, 1) := by decide +kernel
theorem dX4_readDo_143 : decode cX4_readDo 143 = .ok (.isub, 1) := by decide +kernel
theorem dX4_readDo_144 : decode cX4_readDo 144 = .ok (.invokevirtual 136, 3) := by decide +kernel
theorem dX4_readDo_147 : decode cX4_readDo 147 = .ok (.ifCond .eq 26, 3) := by decide +kernel
theorem dX4_readDo_150 : decode cX4_readDo 150 = .ok (.aload_n 0, 1) := by decide +kernel
theorem dX4_readDo_151 : decode cX4_readDo 151 = .ok (.aload_n 1, 1) := by decide +kernel
theorem dX4_readDo_152 : decode cX4_readDo 152 = .ok (.iload_n 2, 1) := by decide +kernel
theorem dX4_readDo_153 : decode cX4_readDo 153 = .ok (.iconst 4, 1) := by decide +kernel
theorem dX4_readDo_154 : decode cX4_readDo 154 = .ok (.invokevirtual 97, 3) := by decide +kernel
theorem dX4_readDo_157 : decode cX4_readDo 157 = .ok (.ifCond .eq 16, 3) := by decide +kernel
theorem dX4_readDo_160 : decode cX4_readDo 160 = .ok (.aload_n 0, 1) := by decide +kernel
theorem dX4_readDo_161 : decode cX4_readDo 161 = .ok (.ldc 157, 2) := by decide +kernel
theorem dX4_readDo_163 : decode cX4_readDo 163 = .ok (.invokevirtual 143, 3) := by decide +kernel
theorem dX4_readDo_166 : decode cX4_readDo 166 = .ok (.ifCond .eq 7, 3) := by decide +kernel
theorem dX4_readDo_169 : decode cX4_readDo 169 = .ok (.iconst 1, 1) := by decide +kernel
theorem dX4_readDo_170 : decode cX4_readDo 170 = .ok (.goto 4, 3) := by decide +kernel
theorem dX4_readDo_173 : decode cX4_readDo 173 = .ok (.iconst 0, 1) := by decide +kernel
theorem dX4_readDo_174 : decode cX4_readDo 174 = .ok (.ireturn, 1) := by decide +kernel
set_option maxRecDepth 20000 in
theorem ggX4_readAsk_X7_setCell : GoodIn wsX4_readAsk wsX7_setCell := goodIn_r _ [5, 6, 111, 112, 113, 114, 115, 116, 117, 118, 119] (by decide +kernel) (by decide +kernel)
set_option maxRecDepth 20000 in
theorem gX4_readAsk_X7_setCell : GoodIn wsX4_readAsk (wsV RX4 93 RX7 yX7_setCell wsX7_setCell) := goodIn_app (goodIn_of _ (by decide +kernel)) ggX4_readAsk_X7_setCell
set_option maxRecDepth 20000 in
theorem ggX4_readAsk_X4_advance : GoodIn wsX4_readAsk wsX4_advance := goodIn_r _ [11, 12, 13, 14, 15, 16, 17, 18, 19, 10, 20, 21, 22, 23, 24, 25, 26, 27, 28, 29, 30, 120, 121, 122, 123, 124, 125, 126, 127, 128, 129, 130, 131, 132, 133] (by decide +kernel) (by decide +kernel)
set_option maxRecDepth 20000 in
theorem gX4_readAsk_X4_advance : GoodIn wsX4_readAsk (wsV RX4 85 RX4 yX4_advance wsX4_advance) := goodIn_app (goodIn_of _ (by decide +kernel)) ggX4_readAsk_X4_advance
set_option maxRecDepth 20000 in
theorem ggX4_readAsk_X4_takeNumber : GoodIn wsX4_readAsk wsX4_takeNumber := goodIn_r _ [34, 15, 16, 35, 14, 36, 37, 38, 39, 10, 40, 41, 42, 7, 8, 9, 11, 12, 13, 17, 18, 19, 20, 21, 22, 23, 24, 25, 26, 27, 28, 29, 30, 120, 121, 122, 123, 124, 125, 126, 127, 128, 129, 130, 131, 132, 133] (by decide +kernel) (by decide +kernel)
set_option maxRecDepth 20000 in
theorem gX4_readAsk_X4_takeNumber : GoodIn wsX4_readAsk (wsV RX4 136 RX4 yX4_takeNumber wsX4_takeNumber) := goodIn_app (goodIn_of _ (by decide +kernel)) ggX4_readAsk_X4_takeNumber
set_option maxRecDepth 20000 in
theorem ggX4_readAsk_X4_keep : GoodIn wsX4_readAsk wsX4_keep := goodIn_r _ [46, 35, 1, 2, 3, 4, 5, 6, 111, 112, 113, 114, 115, 116, 117, 118, 119, 120, 121, 122, 123, 124, 125, 126, 127, 128, 129, 130, 131, 132, 133] (by decide +kernel) (by decide +kernel)
set_option maxRecDepth 20000 in
theorem gX4_readAsk_X4_keep : GoodIn wsX4_readAsk (wsV RX4 97 RX4 yX4_keep wsX4_keep) := goodIn_app (goodIn_of _ (by decide +kernel)) ggX4_readAsk_X4_keep
set_option maxRecDepth 20000 in
theorem ggX4_readAsk_X4_takeWord : GoodIn wsX4_readAsk wsX4_takeWord := goodIn_r _ [50, 51, 52, 53, 10, 54, 15, 12, 14, 55, 56, 57, 58, 59, 60, 61, 62, 63, 64, 65, 66, 17, 18, 19, 20, 13, 21, 67, 68, 69, 70, 71, 72, 73, 74, 75, 76, 77, 78, 79, 80, 81, 82, 83, 84, 85, 86, 87, 88, 89, 90, 91, 92, 93, 94, 95, 96, 97, 98, 99, 100, 101, 102, 103, 37, 38, 39, 40, 41, 42, 7, 8, 9, 11, 16, 22, 23, 24, 25, 26, 27, 28, 29, 30, 120, 121, 122, 123, 124, 125, 126, 127, 128, 129, 130, 131, 132, 133] (by decide +kernel) (by decide +kernel)
set_option maxRecDepth 20000 in
theorem gX4_readAsk_X4_takeWord : GoodIn wsX4_readAsk (wsV RX4 143 RX4 yX4_takeWord wsX4_takeWord) := goodIn_app (goodIn_of _ (by decide +kernel)) ggX4_readAsk_X4_takeWord
set_option maxRecDepth 20000 in
theorem ggX4_readAsk_X4_keepTarget : GoodIn wsX4_readAsk wsX4_keepTarget := goodIn_r _ [107, 108, 109, 35, 110, 36, 43, 44, 45, 10, 46, 1, 2, 3, 4, 5, 6, 120, 121, 122, 123, 124, 125, 126, 127, 128, 129, 130, 131, 132, 133, 111, 112, 113, 114, 115, 116, 117, 118, 119] (by decide +kernel) (by decide +kernel)
set_option maxRecDepth 20000 in
theorem gX4_readAsk_X4_keepTarget : GoodIn wsX4_readAsk (wsV RX4 140 RX4 yX4_keepTarget wsX4_keepTarget) := goodIn_app (goodIn_of _ (by decide +kernel)) ggX4_readAsk_X4_keepTarget
theorem dX4_readAsk_0 : decode cX4_readAsk 0 = .ok (.aload_n 1, 1) := by decide +kernel
theorem dX4_readAsk_1 : decode cX4_readAsk 1 = .ok (.aload_n 1, 1) := by decide +kernel
theorem dX4_readAsk_2 : decode cX4_readAsk 2 = .ok (.getfield 88, 3) := by decide +kernel
theorem dX4_readAsk_5 : decode cX4_readAsk 5 = .ok (.iload_n 2, 1) := by decide +kernel
theorem dX4_readAsk_6 : decode cX4_readAsk 6 = .ok (.iconst 0, 1) := by decide +kernel
theorem dX4_readAsk_7 : decode cX4_readAsk 7 = .ok (.iconst 2, 1) := by decide +kernel
theorem dX4_readAsk_8 : decode cX4_readAsk 8 = .ok (.invokevirtual 93, 3) := by decide +kernel
theorem dX4_readAsk_11 : decode cX4_readAsk 11 = .ok (.aload_n 0, 1) := by decide +kernel
theorem dX4_readAsk_12 : decode cX4_readAsk 12 = .ok (.invokevirtual 85, 3) := by decide +kernel
theorem dX4_readAsk_15 : decode cX4_readAsk 15 = .ok (.aload_n 0, 1) := by decide +kernel
theorem dX4_readAsk_16 : decode cX4_readAsk 16 = .ok (.iconst 0, 1) := by decide +kernel
theorem dX4_readAsk_17 : decode cX4_readAsk 17 = .ok (.aload_n 1, 1) := by decide +kernel
theorem dX4_readAsk_18 : decode cX4_readAsk 18 = .ok (.getfield 159, 3) := by decide +kernel
theorem dX4_readAsk_21 : decode cX4_readAsk 21 = .ok (.iconst 1, 1) := by decide +kernel
theorem dX4_readAsk_22 : decode cX4_readAsk 22 = .ok (.isub, 1) := by decide +kernel
theorem dX4_readAsk_23 : decode cX4_readAsk 23 = .ok (.invokevirtual 136, 3) := by decide +kernel
theorem dX4_readAsk_26 : decode cX4_readAsk 26 = .ok (.ifCond .eq 75, 3) := by decide +kernel
theorem dX4_readAsk_29 : decode cX4_readAsk 29 = .ok (.aload_n 0, 1) := by decide +kernel
theorem dX4_readAsk_30 : decode cX4_readAsk 30 = .ok (.aload_n 1, 1) := by decide +kernel
theorem dX4_readAsk_31 : decode cX4_readAsk 31 = .ok (.iload_n 2, 1) := by decide +kernel
theorem dX4_readAsk_32 : decode cX4_readAsk 32 = .ok (.iconst 1, 1) := by decide +kernel
theorem dX4_readAsk_33 : decode cX4_readAsk 33 = .ok (.invokevirtual 97, 3) := by decide +kernel
theorem dX4_readAsk_36 : decode cX4_readAsk 36 = .ok (.ifCond .eq 65, 3) := by decide +kernel
theorem dX4_readAsk_39 : decode cX4_readAsk 39 = .ok (.aload_n 0, 1) := by decide +kernel
theorem dX4_readAsk_40 : decode cX4_readAsk 40 = .ok (.ldc 162, 2) := by decide +kernel
theorem dX4_readAsk_42 : decode cX4_readAsk 42 = .ok (.invokevirtual 143, 3) := by decide +kernel
theorem dX4_readAsk_45 : decode cX4_readAsk 45 = .ok (.ifCond .eq 56, 3) := by decide +kernel
theorem dX4_readAsk_48 : decode cX4_readAsk 48 = .ok (.aload_n 0, 1) := by decide +kernel
theorem dX4_readAsk_49 : decode cX4_readAsk 49 = .ok (.iconst 0, 1) := by decide +kernel
theorem dX4_readAsk_50 : decode cX4_readAsk 50 = .ok (.bipush 99, 2) := by decide +kernel
theorem dX4_readAsk_52 : decode cX4_readAsk 52 = .ok (.invokevirtual 136, 3) := by decide +kernel
theorem dX4_readAsk_55 : decode cX4_readAsk 55 = .ok (.ifCond .eq 46, 3) := by decide +kernel
theorem dX4_readAsk_58 : decode cX4_readAsk 58 = .ok (.aload_n 0, 1) := by decide +kernel
theorem dX4_readAsk_59 : decode cX4_readAsk 59 = .ok (.aload_n 1, 1) := by decide +kernel
theorem dX4_readAsk_60 : decode cX4_readAsk 60 = .ok (.iload_n 2, 1) := by decide +kernel
theorem dX4_readAsk_61 : decode cX4_readAsk 61 = .ok (.iconst 2, 1) := by decide +kernel
theorem dX4_readAsk_62 : decode cX4_readAsk 62 = .ok (.invokevirtual 140, 3) := by decide +kernel
theorem dX4_readAsk_65 : decode cX4_readAsk 65 = .ok (.ifCond .eq 36, 3) := by decide +kernel
theorem dX4_readAsk_68 : decode cX4_readAsk 68 = .ok (.aload_n 0, 1) := by decide +kernel
theorem dX4_readAsk_69 : decode cX4_readAsk 69 = .ok (.ldc 164, 2) := by decide +kernel
theorem dX4_readAsk_71 : decode cX4_readAsk 71 = .ok (.invokevirtual 143, 3) := by decide +kernel
theorem dX4_readAsk_74 : decode cX4_readAsk 74 = .ok (.ifCond .eq 27, 3) := by decide +kernel
theorem dX4_readAsk_77 : decode cX4_readAsk 77 = .ok (.aload_n 0, 1) := by decide +kernel
theorem dX4_readAsk_78 : decode cX4_readAsk 78 = .ok (.iconst 0, 1) := by decide +kernel
theorem dX4_readAsk_79 : decode cX4_readAsk 79 = .ok (.bipush 99, 2) := by decide +kernel
theorem dX4_readAsk_81 : decode cX4_readAsk 81 = .ok (.invokevirtual 136, 3) := by decide +kernel
theorem dX4_readAsk_84 : decode cX4_readAsk 84 = .ok (.ifCond .eq 17, 3) := by decide +kernel
theorem dX4_readAsk_87 : decode cX4_readAsk 87 = .ok (.aload_n 0, 1) := by decide +kernel
theorem dX4_readAsk_88 : decode cX4_readAsk 88 = .ok (.aload_n 1, 1) := by decide +kernel
theorem dX4_readAsk_89 : decode cX4_readAsk 89 = .ok (.iload_n 2, 1) := by decide +kernel
theorem dX4_readAsk_90 : decode cX4_readAsk 90 = .ok (.iconst 3, 1) := by decide +kernel
theorem dX4_readAsk_91 : decode cX4_readAsk 91 = .ok (.invokevirtual 140, 3) := by decide +kernel
theorem dX4_readAsk_94 : decode cX4_readAsk 94 = .ok (.ifCond .eq 7, 3) := by decide +kernel
theorem dX4_readAsk_97 : decode cX4_readAsk 97 = .ok (.iconst 1, 1) := by decide +kernel
theorem dX4_readAsk_98 : decode cX4_readAsk 98 = .ok (.goto 4, 3) := by decide +kernel
theorem dX4_readAsk_101 : decode cX4_readAsk 101 = .ok (.iconst 0, 1) := by decide +kernel
theorem dX4_readAsk_102 : decode cX4_readAsk 102 = .ok (.ireturn, 1) := by decide +kernel
theorem dX5_init_0 : decode cX5_init 0 = .ok (.aload_n 0, 1) := by decide +kernel
theorem dX5_init_1 : decode cX5_init 1 = .ok (.invokespecial 3, 3) := by decide +kernel
theorem dX5_init_4 : decode cX5_init 4 = .ok (.aload_n 0, 1) := by decide +kernel
theorem dX5_init_5 : decode cX5_init 5 = .ok (.sipush 500, 3) := by decide +kernel
theorem dX5_init_8 : decode cX5_init 8 = .ok (.newarray .int, 2) := by decide +kernel
theorem dX5_init_10 : decode cX5_init 10 = .ok (.putfield 9, 3) := by decide +kernel
theorem dX5_init_13 : decode cX5_init 13 = .ok (.aload_n 0, 1) := by decide +kernel
theorem dX5_init_14 : decode cX5_init 14 = .ok (.bipush 7, 2) := by decide +kernel
theorem dX5_init_16 : decode cX5_init 16 = .ok (.newarray .int, 2) := by decide +kernel
theorem dX5_init_18 : decode cX5_init 18 = .ok (.putfield 15, 3) := by decide +kernel
theorem dX5_init_21 : decode cX5_init 21 = .ok (.aload_n 0, 1) := by decide +kernel
theorem dX5_init_22 : decode cX5_init 22 = .ok (.iconst 0, 1) := by decide +kernel
theorem dX5_init_23 : decode cX5_init 23 = .ok (.putfield 18, 3) := by decide +kernel
theorem dX5_init_26 : decode cX5_init 26 = .ok (.aload_n 0, 1) := by decide +kernel
theorem dX5_init_27 : decode cX5_init 27 = .ok (.iconst 0, 1) := by decide +kernel
theorem dX5_init_28 : decode cX5_init 28 = .ok (.putfield 22, 3) := by decide +kernel
theorem dX5_init_31 : decode cX5_init 31 = .ok (.aload_n 0, 1) := by decide +kernel
theorem dX5_init_32 : decode cX5_init 32 = .ok (.iconst 0, 1) := by decide +kernel
theorem dX5_init_33 : decode cX5_init 33 = .ok (.putfield 26, 3) := by decide +kernel
theorem dX5_init_36 : decode cX5_init 36 = .ok (.aload_n 0, 1) := by decide +kernel
theorem dX5_init_37 : decode cX5_init 37 = .ok (.iconst 0, 1) := by decide +kernel
theorem dX5_init_38 : decode cX5_init 38 = .ok (.putfield 29, 3) := by decide +kernel
theorem dX5_init_41 : decode cX5_init 41 = .ok (.aload_n 0, 1) := by decide +kernel
theorem dX5_init_42 : decode cX5_init 42 = .ok (.iconst (-1), 1) := by decide +kernel
theorem dX5_init_43 : decode cX5_init 43 = .ok (.putfield 32, 3) := by decide +kernel
theorem dX5_init_46 : decode cX5_init 46 = .ok (.aload_n 0, 1) := by decide +kernel
theorem dX5_init_47 : decode cX5_init 47 = .ok (.iconst (-1), 1) := by decide +kernel
theorem dX5_init_48 : decode cX5_init 48 = .ok (.putfield 35, 3) := by decide +kernel
theorem dX5_init_51 : decode cX5_init 51 = .ok (.aload_n 0, 1) := by decide +kernel
theorem dX5_init_52 : decode cX5_init 52 = .ok (.iconst (-1), 1) := by decide +kernel
theorem dX5_init_53 : decode cX5_init 53 = .ok (.putfield 38, 3) := by decide +kernel
theorem dX5_init_56 : decode cX5_init 56 = .ok (.aload_n 0, 1) := by decide +kernel
theorem dX5_init_57 : decode cX5_init 57 = .ok (.iconst 0, 1) := by decide +kernel
theorem dX5_init_58 : decode cX5_init 58 = .ok (.putfield 41, 3) := by decide +kernel
theorem dX5_init_61 : decode cX5_init 61 = .ok (.aload_n 0, 1) := by decide +kernel
theorem dX5_init_62 : decode cX5_init 62 = .ok (.iconst (-1), 1) := by decide +kernel
theorem dX5_init_63 : decode cX5_init 63 = .ok (.putfield 44, 3) := by decide +kernel
theorem dX5_init_66 : decode cX5_init 66 = .ok (.return_, 1) := by decide +kernel
set_option maxRecDepth 20000 in
theorem ggX5_start_J7_fill_53178 : GoodIn wsX5_start wsJ7_fill_53178 := goodIn_r _ [14] (by decide +kernel) (by decide +kernel)
set_option maxRecDepth 20000 in
theorem gX5_start_J7_fill_53178 : GoodIn wsX5_start (va_wsS RX5 47 yJ7_fill_53178 wsJ7_fill_53178) := goodIn_app (goodIn_of _ (by decide +kernel)) ggX5_start_J7_fill_53178
theorem dX5_start_0 : decode cX5_start 0 = .ok (.aload_n 0, 1) := by decide +kernel
theorem dX5_start_1 : decode cX5_start 1 = .ok (.getfield 15, 3) := by decide +kernel
theorem dX5_start_4 : decode cX5_start 4 = .ok (.iconst 0, 1) := by decide +kernel
theorem dX5_start_5 : decode cX5_start 5 = .ok (.invokestatic 47, 3) := by decide +kernel
theorem dX5_start_8 : decode cX5_start 8 = .ok (.aload_n 0, 1) := by decide +kernel
theorem dX5_start_9 : decode cX5_start 9 = .ok (.iconst 1, 1) := by decide +kernel
theorem dX5_start_10 : decode cX5_start 10 = .ok (.putfield 18, 3) := by decide +kernel
theorem dX5_start_13 : decode cX5_start 13 = .ok (.aload_n 0, 1) := by decide +kernel
theorem dX5_start_14 : decode cX5_start 14 = .ok (.iload_n 1, 1) := by decide +kernel
theorem dX5_start_15 : decode cX5_start 15 = .ok (.putfield 22, 3) := by decide +kernel
theorem dX5_start_18 : decode cX5_start 18 = .ok (.aload_n 0, 1) := by decide +kernel
theorem dX5_start_19 : decode cX5_start 19 = .ok (.iload_n 2, 1) := by decide +kernel
theorem dX5_start_20 : decode cX5_start 20 = .ok (.putfield 26, 3) := by decide +kernel
theorem dX5_start_23 : decode cX5_start 23 = .ok (.aload_n 0, 1) := by decide +kernel
theorem dX5_start_24 : decode cX5_start 24 = .ok (.iconst 0, 1) := by decide +kernel
theorem dX5_start_25 : decode cX5_start 25 = .ok (.putfield 29, 3) := by decide +kernel
theorem dX5_start_28 : decode cX5_start 28 = .ok (.aload_n 0, 1) := by decide +kernel
theorem dX5_start_29 : decode cX5_start 29 = .ok (.iconst (-1), 1) := by decide +kernel
theorem dX5_start_30 : decode cX5_start 30 = .ok (.putfield 32, 3) := by decide +kernel
theorem dX5_start_33 : decode cX5_start 33 = .ok (.aload_n 0, 1) := by decide +kernel
theorem dX5_start_34 : decode cX5_start 34 = .ok (.iconst (-1), 1) := by decide +kernel
theorem dX5_start_35 : decode cX5_start 35 = .ok (.putfield 35, 3) := by decide +kernel
theorem dX5_start_38 : decode cX5_start 38 = .ok (.aload_n 0, 1) := by decide +kernel
theorem dX5_start_39 : decode cX5_start 39 = .ok (.iconst (-1), 1) := by decide +kernel
theorem dX5_start_40 : decode cX5_start 40 = .ok (.putfield 38, 3) := by decide +kernel
theorem dX5_start_43 : decode cX5_start 43 = .ok (.aload_n 0, 1) := by decide +kernel
theorem dX5_start_44 : decode cX5_start 44 = .ok (.iconst 0, 1) := by decide +kernel
theorem dX5_start_45 : decode cX5_start 45 = .ok (.putfield 41, 3) := by decide +kernel
theorem dX5_start_48 : decode cX5_start 48 = .ok (.aload_n 0, 1) := by decide +kernel
theorem dX5_start_49 : decode cX5_start 49 = .ok (.iconst (-1), 1) := by decide +kernel
theorem dX5_start_50 : decode cX5_start 50 = .ok (.putfield 44, 3) := by decide +kernel
theorem dX5_start_53 : decode cX5_start 53 = .ok (.return_, 1) := by decide +kernel
theorem dX5_rowAt_0 : decode cX5_rowAt 0 = .ok (.iload_n 1, 1) := by decide +kernel
theorem dX5_rowAt_1 : decode cX5_rowAt 1 = .ok (.ifCond .lt 21, 3) := by decide +kernel
theorem dX5_rowAt_4 : decode cX5_rowAt 4 = .ok (.iload_n 1, 1) := by decide +kernel
theorem dX5_rowAt_5 : decode cX5_rowAt 5 = .ok (.aload_n 0, 1) := by decide +kernel
theorem dX5_rowAt_6 : decode cX5_rowAt 6 = .ok (.getfield 9, 3) := by decide +kernel
theorem dX5_rowAt_9 : decode cX5_rowAt 9 = .ok (.arraylength, 1) := by decide +kernel
theorem dX5_rowAt_10 : decode cX5_rowAt 10 = .ok (.if_icmp .ge 12, 3) := by decide +kernel
theorem dX5_rowAt_13 : decode cX5_rowAt 13 = .ok (.aload_n 0, 1) := by decide +kernel
theorem dX5_rowAt_14 : decode cX5_rowAt 14 = .ok (.getfield 9, 3) := by decide +kernel
theorem dX5_rowAt_17 : decode cX5_rowAt 17 = .ok (.iload_n 1, 1) := by decide +kernel
theorem dX5_rowAt_18 : decode cX5_rowAt 18 = .ok (.iaload, 1) := by decide +kernel
theorem dX5_rowAt_19 : decode cX5_rowAt 19 = .ok (.goto 4, 3) := by decide +kernel
theorem dX5_rowAt_22 : decode cX5_rowAt 22 = .ok (.iconst 0, 1) := by decide +kernel
theorem dX5_rowAt_23 : decode cX5_rowAt 23 = .ok (.ireturn, 1) := by decide +kernel
set_option maxRecDepth 20000 in
theorem ggX5_add_X5_addCalm : GoodIn wsX5_add wsX5_addCalm := goodIn_r _ [9, 10, 11, 12, 18, 19, 20, 21, 22, 23, 24, 25, 26, 27, 28] (by decide +kernel) (by decide +kernel)
set_option maxRecDepth 20000 in
theorem gX5_add_X5_addCalm : GoodIn wsX5_add (wsV RX5 53 RX5 yX5_addCalm wsX5_addCalm) := goodIn_app (goodIn_of _ (by decide +kernel)) ggX5_add_X5_addCalm
set_option maxRecDepth 20000 in
theorem ggX5_add_X5_rowAt : GoodIn wsX5_add wsX5_rowAt := goodIn_r _ [16, 17, 18, 19, 20, 21, 22, 23, 24, 25, 26, 27, 28] (by decide +kernel) (by decide +kernel)
set_option maxRecDepth 20000 in
theorem gX5_add_X5_rowAt : GoodIn wsX5_add (wsV RX5 57 RX5 yX5_rowAt wsX5_rowAt) := goodIn_app (goodIn_of _ (by decide +kernel)) ggX5_add_X5_rowAt
theorem dX5_add_0 : decode cX5_add 0 = .ok (.iload_n 2, 1) := by decide +kernel
theorem dX5_add_1 : decode cX5_add 1 = .ok (.ifCond .lt 22, 3) := by decide +kernel
theorem dX5_add_4 : decode cX5_add 4 = .ok (.iload_n 2, 1) := by decide +kernel
theorem dX5_add_5 : decode cX5_add 5 = .ok (.aload_n 0, 1) := by decide +kernel
theorem dX5_add_6 : decode cX5_add 6 = .ok (.getfield 15, 3) := by decide +kernel
theorem dX5_add_9 : decode cX5_add 9 = .ok (.arraylength, 1) := by decide +kernel
theorem dX5_add_10 : decode cX5_add 10 = .ok (.if_icmp .ge 13, 3) := by decide +kernel
theorem dX5_add_13 : decode cX5_add 13 = .ok (.aload_n 0, 1) := by decide +kernel
theorem dX5_add_14 : decode cX5_add 14 = .ok (.getfield 15, 3) := by decide +kernel
theorem dX5_add_17 : decode cX5_add 17 = .ok (.iload_n 2, 1) := by decide +kernel
theorem dX5_add_18 : decode cX5_add 18 = .ok (.dup2, 1) := by decide +kernel
theorem dX5_add_19 : decode cX5_add 19 = .ok (.iaload, 1) := by decide +kernel
theorem dX5_add_20 : decode cX5_add 20 = .ok (.iconst 1, 1) := by decide +kernel
theorem dX5_add_21 : decode cX5_add 21 = .ok (.iadd, 1) := by decide +kernel
theorem dX5_add_22 : decode cX5_add 22 = .ok (.iastore, 1) := by decide +kernel
theorem dX5_add_23 : decode cX5_add 23 = .ok (.iload_n 2, 1) := by decide +kernel
theorem dX5_add_24 : decode cX5_add 24 = .ok (.ifCond .ne 10, 3) := by decide +kernel
theorem dX5_add_27 : decode cX5_add 27 = .ok (.aload_n 0, 1) := by decide +kernel
theorem dX5_add_28 : decode cX5_add 28 = .ok (.iload_n 1, 1) := by decide +kernel
theorem dX5_add_29 : decode cX5_add 29 = .ok (.iload_n 3, 1) := by decide +kernel
theorem dX5_add_30 : decode cX5_add 30 = .ok (.invokevirtual 53, 3) := by decide +kernel
theorem dX5_add_33 : decode cX5_add 33 = .ok (.return_, 1) := by decide +kernel
theorem dX5_add_34 : decode cX5_add 34 = .ok (.aload_n 0, 1) := by decide +kernel
theorem dX5_add_35 : decode cX5_add 35 = .ok (.getfield 29, 3) := by decide +kernel
theorem dX5_add_38 : decode cX5_add 38 = .ok (.ifCond .ne 17, 3) := by decide +kernel
theorem dX5_add_41 : decode cX5_add 41 = .ok (.aload_n 0, 1) := by decide +kernel
theorem dX5_add_42 : decode cX5_add 42 = .ok (.aload_n 0, 1) := by decide +kernel
theorem dX5_add_43 : decode cX5_add 43 = .ok (.iload_n 1, 1) := by decide +kernel
theorem dX5_add_44 : decode cX5_add 44 = .ok (.invokevirtual 57, 3) := by decide +kernel
theorem dX5_add_47 : decode cX5_add 47 = .ok (.putfield 41, 3) := by decide +kernel
theorem dX5_add_50 : decode cX5_add 50 = .ok (.aload_n 0, 1) := by decide +kernel
theorem dX5_add_51 : decode cX5_add 51 = .ok (.iload_n 2, 1) := by decide +kernel
theorem dX5_add_52 : decode cX5_add 52 = .ok (.putfield 44, 3) := by decide +kernel
theorem dX5_add_55 : decode cX5_add 55 = .ok (.aload_n 0, 1) := by decide +kernel
theorem dX5_add_56 : decode cX5_add 56 = .ok (.dup, 1) := by decide +kernel
theorem dX5_add_57 : decode cX5_add 57 = .ok (.getfield 29, 3) := by decide +kernel
theorem dX5_add_60 : decode cX5_add 60 = .ok (.iconst 1, 1) := by decide +kernel
theorem dX5_add_61 : decode cX5_add 61 = .ok (.iadd, 1) := by decide +kernel
theorem dX5_add_62 : decode cX5_add 62 = .ok (.putfield 29, 3) := by decide +kernel
theorem dX5_add_65 : decode cX5_add 65 = .ok (.return_, 1) := by decide +kernel
theorem dX5_addCalm_0 : decode cX5_addCalm 0 = .ok (.aload_n 0, 1) := by decide +kernel
theorem dX5_addCalm_1 : decode cX5_addCalm 1 = .ok (.getfield 32, 3) := by decide +kernel
theorem dX5_addCalm_4 : decode cX5_addCalm 4 = .ok (.iconst (-1), 1) := by decide +kernel
theorem dX5_addCalm_5 : decode cX5_addCalm 5 = .ok (.if_icmp .eq 11, 3) := by decide +kernel
theorem dX5_addCalm_8 : decode cX5_addCalm 8 = .ok (.iload_n 2, 1) := by decide +kernel
theorem dX5_addCalm_9 : decode cX5_addCalm 9 = .ok (.aload_n 0, 1) := by decide +kernel
theorem dX5_addCalm_10 : decode cX5_addCalm 10 = .ok (.getfield 32, 3) := by decide +kernel
theorem dX5_addCalm_13 : decode cX5_addCalm 13 = .ok (.if_icmp .ge 8, 3) := by decide +kernel
theorem dX5_addCalm_16 : decode cX5_addCalm 16 = .ok (.aload_n 0, 1) := by decide +kernel
theorem dX5_addCalm_17 : decode cX5_addCalm 17 = .ok (.iload_n 2, 1) := by decide +kernel
theorem dX5_addCalm_18 : decode cX5_addCalm 18 = .ok (.putfield 32, 3) := by decide +kernel
theorem dX5_addCalm_21 : decode cX5_addCalm 21 = .ok (.iload_n 2, 1) := by decide +kernel
theorem dX5_addCalm_22 : decode cX5_addCalm 22 = .ok (.aload_n 0, 1) := by decide +kernel
theorem dX5_addCalm_23 : decode cX5_addCalm 23 = .ok (.getfield 35, 3) := by decide +kernel
theorem dX5_addCalm_26 : decode cX5_addCalm 26 = .ok (.if_icmp .le 13, 3) := by decide +kernel
theorem dX5_addCalm_29 : decode cX5_addCalm 29 = .ok (.aload_n 0, 1) := by decide +kernel
theorem dX5_addCalm_30 : decode cX5_addCalm 30 = .ok (.iload_n 2, 1) := by decide +kernel
theorem dX5_addCalm_31 : decode cX5_addCalm 31 = .ok (.putfield 35, 3) := by decide +kernel
theorem dX5_addCalm_34 : decode cX5_addCalm 34 = .ok (.aload_n 0, 1) := by decide +kernel
theorem dX5_addCalm_35 : decode cX5_addCalm 35 = .ok (.iload_n 1, 1) := by decide +kernel
theorem dX5_addCalm_36 : decode cX5_addCalm 36 = .ok (.putfield 38, 3) := by decide +kernel
theorem dX5_addCalm_39 : decode cX5_addCalm 39 = .ok (.return_, 1) := by decide +kernel
theorem dX5_endedBy_0 : decode cX5_endedBy 0 = .ok (.aload_n 0, 1) := by decide +kernel
theorem dX5_endedBy_1 : decode cX5_endedBy 1 = .ok (.getfield 18, 3) := by decide +kernel
theorem dX5_endedBy_4 : decode cX5_endedBy 4 = .ok (.ifCond .eq 25, 3) := by decide +kernel
theorem dX5_endedBy_7 : decode cX5_endedBy 7 = .ok (.iload_n 1, 1) := by decide +kernel
theorem dX5_endedBy_8 : decode cX5_endedBy 8 = .ok (.ifCond .lt 21, 3) := by decide +kernel
theorem dX5_endedBy_11 : decode cX5_endedBy 11 = .ok (.iload_n 1, 1) := by decide +kernel
theorem dX5_endedBy_12 : decode cX5_endedBy 12 = .ok (.aload_n 0, 1) := by decide +kernel
theorem dX5_endedBy_13 : decode cX5_endedBy 13 = .ok (.getfield 15, 3) := by decide +kernel
theorem dX5_endedBy_16 : decode cX5_endedBy 16 = .ok (.arraylength, 1) := by decide +kernel
theorem dX5_endedBy_17 : decode cX5_endedBy 17 = .ok (.if_icmp .ge 12, 3) := by decide +kernel
theorem dX5_endedBy_20 : decode cX5_endedBy 20 = .ok (.aload_n 0, 1) := by decide +kernel
theorem dX5_endedBy_21 : decode cX5_endedBy 21 = .ok (.getfield 15, 3) := by decide +kernel
theorem dX5_endedBy_24 : decode cX5_endedBy 24 = .ok (.iload_n 1, 1) := by decide +kernel
theorem dX5_endedBy_25 : decode cX5_endedBy 25 = .ok (.iaload, 1) := by decide +kernel
theorem dX5_endedBy_26 : decode cX5_endedBy 26 = .ok (.goto 4, 3) := by decide +kernel
theorem dX5_endedBy_29 : decode cX5_endedBy 29 = .ok (.iconst (-1), 1) := by decide +kernel
theorem dX5_endedBy_30 : decode cX5_endedBy 30 = .ok (.ireturn, 1) := by decide +kernel
theorem dX5_about_0 : decode cX5_about 0 = .ok (.aload_n 0, 1) := by decide +kernel
theorem dX5_about_1 : decode cX5_about 1 = .ok (.getfield 18, 3) := by decide +kernel
theorem dX5_about_4 : decode cX5_about 4 = .ok (.ifCond .ne 5, 3) := by decide +kernel
theorem dX5_about_7 : decode cX5_about 7 = .ok (.iconst (-1), 1) := by decide +kernel
theorem dX5_about_8 : decode cX5_about 8 = .ok (.ireturn, 1) := by decide +kernel
theorem dX5_about_9 : decode cX5_about 9 = .ok (.iload_n 1, 1) := by decide +kernel
theorem dX5_about_10 : decode cX5_about 10 = .ok (.tableswitch 137 0 7 #[46, 51, 56, 61, 81, 104, 127, 132], 46) := by decide +kernel
theorem dX5_about_56 : decode cX5_about 56 = .ok (.aload_n 0, 1) := by decide +kernel
theorem dX5_about_57 : decode cX5_about 57 = .ok (.getfield 26, 3) := by decide +kernel
theorem dX5_about_60 : decode cX5_about 60 = .ok (.ireturn, 1) := by decide +kernel
theorem dX5_about_61 : decode cX5_about 61 = .ok (.aload_n 0, 1) := by decide +kernel
theorem dX5_about_62 : decode cX5_about 62 = .ok (.getfield 32, 3) := by decide +kernel
theorem dX5_about_65 : decode cX5_about 65 = .ok (.ireturn, 1) := by decide +kernel
theorem dX5_about_66 : decode cX5_about 66 = .ok (.aload_n 0, 1) := by decide +kernel
theorem dX5_about_67 : decode cX5_about 67 = .ok (.getfield 35, 3) := by decide +kernel
theorem dX5_about_70 : decode cX5_about 70 = .ok (.ireturn, 1) := by decide +kernel
theorem dX5_about_71 : decode cX5_about 71 = .ok (.aload_n 0, 1) := by decide +kernel
theorem dX5_about_72 : decode cX5_about 72 = .ok (.getfield 29, 3) := by decide +kernel
theorem dX5_about_75 : decode cX5_about 75 = .ok (.ifCond .ne 7, 3) := by decide +kernel
theorem dX5_about_78 : decode cX5_about 78 = .ok (.iconst (-1), 1) := by decide +kernel
theorem dX5_about_79 : decode cX5_about 79 = .ok (.goto 11, 3) := by decide +kernel
theorem dX5_about_82 : decode cX5_about 82 = .ok (.aload_n 0, 1) := by decide +kernel
theorem dX5_about_83 : decode cX5_about 83 = .ok (.getfield 41, 3) := by decide +kernel
theorem dX5_about_86 : decode cX5_about 86 = .ok (.sipush 255, 3) := by decide +kernel
theorem dX5_about_89 : decode cX5_about 89 = .ok (.iand, 1) := by decide +kernel
theorem dX5_about_90 : decode cX5_about 90 = .ok (.ireturn, 1) := by decide +kernel
theorem dX5_about_91 : decode cX5_about 91 = .ok (.aload_n 0, 1) := by decide +kernel
theorem dX5_about_92 : decode cX5_about 92 = .ok (.getfield 29, 3) := by decide +kernel
theorem dX5_about_95 : decode cX5_about 95 = .ok (.ifCond .ne 7, 3) := by decide +kernel
theorem dX5_about_98 : decode cX5_about 98 = .ok (.iconst (-1), 1) := by decide +kernel
theorem dX5_about_99 : decode cX5_about 99 = .ok (.goto 14, 3) := by decide +kernel
theorem dX5_about_102 : decode cX5_about 102 = .ok (.aload_n 0, 1) := by decide +kernel
theorem dX5_about_103 : decode cX5_about 103 = .ok (.getfield 41, 3) := by decide +kernel
theorem dX5_about_106 : decode cX5_about 106 = .ok (.bipush 8, 2) := by decide +kernel
theorem dX5_about_108 : decode cX5_about 108 = .ok (.ishr, 1) := by decide +kernel
theorem dX5_about_109 : decode cX5_about 109 = .ok (.sipush 255, 3) := by decide +kernel
theorem dX5_about_112 : decode cX5_about 112 = .ok (.iand, 1) := by decide +kernel
theorem dX5_about_113 : decode cX5_about 113 = .ok (.ireturn, 1) := by decide +kernel
theorem dX5_about_114 : decode cX5_about 114 = .ok (.aload_n 0, 1) := by decide +kernel
theorem dX5_about_115 : decode cX5_about 115 = .ok (.getfield 29, 3) := by decide +kernel
theorem dX5_about_118 : decode cX5_about 118 = .ok (.ifCond .ne 7, 3) := by decide +kernel
theorem dX5_about_121 : decode cX5_about 121 = .ok (.iconst (-1), 1) := by decide +kernel
theorem dX5_about_122 : decode cX5_about 122 = .ok (.goto 14, 3) := by decide +kernel
theorem dX5_about_125 : decode cX5_about 125 = .ok (.aload_n 0, 1) := by decide +kernel
theorem dX5_about_126 : decode cX5_about 126 = .ok (.getfield 41, 3) := by decide +kernel
theorem dX5_about_129 : decode cX5_about 129 = .ok (.bipush 16, 2) := by decide +kernel
theorem dX5_about_131 : decode cX5_about 131 = .ok (.ishr, 1) := by decide +kernel
theorem dX5_about_132 : decode cX5_about 132 = .ok (.sipush 255, 3) := by decide +kernel
theorem dX5_about_135 : decode cX5_about 135 = .ok (.iand, 1) := by decide +kernel
theorem dX5_about_136 : decode cX5_about 136 = .ok (.ireturn, 1) := by decide +kernel
theorem dX5_about_137 : decode cX5_about 137 = .ok (.aload_n 0, 1) := by decide +kernel
theorem dX5_about_138 : decode cX5_about 138 = .ok (.getfield 44, 3) := by decide +kernel
theorem dX5_about_141 : decode cX5_about 141 = .ok (.ireturn, 1) := by decide +kernel
theorem dX5_about_142 : decode cX5_about 142 = .ok (.aload_n 0, 1) := by decide +kernel
theorem dX5_about_143 : decode cX5_about 143 = .ok (.getfield 38, 3) := by decide +kernel
theorem dX5_about_146 : decode cX5_about 146 = .ok (.ireturn, 1) := by decide +kernel
theorem dX5_about_147 : decode cX5_about 147 = .ok (.iconst (-1), 1) := by decide +kernel
theorem dX5_about_148 : decode cX5_about 148 = .ok (.ireturn, 1) := by decide +kernel
theorem dX6_init_0 : decode cX6_init 0 = .ok (.aload_n 0, 1) := by decide +kernel
theorem dX6_init_1 : decode cX6_init 1 = .ok (.invokespecial 3, 3) := by decide +kernel
theorem dX6_init_4 : decode cX6_init 4 = .ok (.aload_n 0, 1) := by decide +kernel
theorem dX6_init_5 : decode cX6_init 5 = .ok (.bipush 96, 2) := by decide +kernel
theorem dX6_init_7 : decode cX6_init 7 = .ok (.newarray .long, 2) := by decide +kernel
theorem dX6_init_9 : decode cX6_init 9 = .ok (.putfield 11, 3) := by decide +kernel
theorem dX6_init_12 : decode cX6_init 12 = .ok (.aload_n 0, 1) := by decide +kernel
theorem dX6_init_13 : decode cX6_init 13 = .ok (.iconst 0, 1) := by decide +kernel
theorem dX6_init_14 : decode cX6_init 14 = .ok (.putfield 15, 3) := by decide +kernel
theorem dX6_init_17 : decode cX6_init 17 = .ok (.aload_n 0, 1) := by decide +kernel
theorem dX6_init_18 : decode cX6_init 18 = .ok (.iconst 0, 1) := by decide +kernel
theorem dX6_init_19 : decode cX6_init 19 = .ok (.putfield 19, 3) := by decide +kernel
theorem dX6_init_22 : decode cX6_init 22 = .ok (.aload_n 0, 1) := by decide +kernel
theorem dX6_init_23 : decode cX6_init 23 = .ok (.iconst 0, 1) := by decide +kernel
theorem dX6_init_24 : decode cX6_init 24 = .ok (.putfield 22, 3) := by decide +kernel
theorem dX6_init_27 : decode cX6_init 27 = .ok (.aload_n 0, 1) := by decide +kernel
theorem dX6_init_28 : decode cX6_init 28 = .ok (.iconst 0, 1) := by decide +kernel
theorem dX6_init_29 : decode cX6_init 29 = .ok (.putfield 25, 3) := by decide +kernel
theorem dX6_init_32 : decode cX6_init 32 = .ok (.aload_n 0, 1) := by decide +kernel
theorem dX6_init_33 : decode cX6_init 33 = .ok (.iconst 0, 1) := by decide +kernel
theorem dX6_init_34 : decode cX6_init 34 = .ok (.putfield 28, 3) := by decide +kernel
theorem dX6_init_37 : decode cX6_init 37 = .ok (.aload_n 0, 1) := by decide +kernel
theorem dX6_init_38 : decode cX6_init 38 = .ok (.iconst 0, 1) := by decide +kernel
theorem dX6_init_39 : decode cX6_init 39 = .ok (.putfield 31, 3) := by decide +kernel
theorem dX6_init_42 : decode cX6_init 42 = .ok (.aload_n 0, 1) := by decide +kernel
theorem dX6_init_43 : decode cX6_init 43 = .ok (.iconst 0, 1) := by decide +kernel
theorem dX6_init_44 : decode cX6_init 44 = .ok (.putfield 34, 3) := by decide +kernel
theorem dX6_init_47 : decode cX6_init 47 = .ok (.aload_n 0, 1) := by decide +kernel
theorem dX6_init_48 : decode cX6_init 48 = .ok (.iconst 0, 1) := by decide +kernel
theorem dX6_init_49 : decode cX6_init 49 = .ok (.putfield 37, 3) := by decide +kernel
theorem dX6_init_52 : decode cX6_init 52 = .ok (.aload_n 0, 1) := by decide +kernel
theorem dX6_init_53 : decode cX6_init 53 = .ok (.iconst 0, 1) := by decide +kernel
theorem dX6_init_54 : decode cX6_init 54 = .ok (.putfield 40, 3) := by decide +kernel
theorem dX6_init_57 : decode cX6_init 57 = .ok (.aload_n 0, 1) := by decide +kernel
theorem dX6_init_58 : decode cX6_init 58 = .ok (.iconst (-1), 1) := by decide +kernel
theorem dX6_init_59 : decode cX6_init 59 = .ok (.putfield 43, 3) := by decide +kernel
theorem dX6_init_62 : decode cX6_init 62 = .ok (.aload_n 0, 1) := by decide +kernel
theorem dX6_init_63 : decode cX6_init 63 = .ok (.iload_n 1, 1) := by decide +kernel
theorem dX6_init_64 : decode cX6_init 64 = .ok (.ifCond .eq 9, 3) := by decide +kernel
theorem dX6_init_67 : decode cX6_init 67 = .ok (.sipush 2000, 3) := by decide +kernel
theorem dX6_init_70 : decode cX6_init 70 = .ok (.goto 4, 3) := by decide +kernel
theorem dX6_init_73 : decode cX6_init 73 = .ok (.iconst 0, 1) := by decide +kernel
theorem dX6_init_74 : decode cX6_init 74 = .ok (.newarray .int, 2) := by decide +kernel
theorem dX6_init_76 : decode cX6_init 76 = .ok (.putfield 46, 3) := by decide +kernel
theorem dX6_init_79 : decode cX6_init 79 = .ok (.return_, 1) := by decide +kernel
set_option maxRecDepth 20000 in
theorem ggX6_start_J7_fill_d0a16 : GoodIn wsX6_start wsJ7_fill_d0a16 := goodIn_r _ [15] (by decide +kernel) (by decide +kernel)
set_option maxRecDepth 20000 in
theorem gX6_start_J7_fill_d0a16 : GoodIn wsX6_start (va_wsS RX6 50 yJ7_fill_d0a16 wsJ7_fill_d0a16) := goodIn_app (goodIn_of _ (by decide +kernel)) ggX6_start_J7_fill_d0a16
set_option maxRecDepth 20000 in
theorem ggX6_start_X7_allFacts : GoodIn wsX6_start wsX7_allFacts := goodIn_r _ [20, 21, 34, 35, 36, 37, 38, 39, 40, 41, 42] (by decide +kernel) (by decide +kernel)
set_option maxRecDepth 20000 in
theorem gX6_start_X7_allFacts : GoodIn wsX6_start (wsV RX6 56 RX7 yX7_allFacts wsX7_allFacts) := goodIn_app (goodIn_of _ (by decide +kernel)) ggX6_start_X7_allFacts
theorem dX6_start_0 : decode cX6_start 0 = .ok (.aload_n 0, 1) := by decide +kernel
theorem dX6_start_1 : decode cX6_start 1 = .ok (.getfield 11, 3) := by decide +kernel
theorem dX6_start_4 : decode cX6_start 4 = .ok (.lconst 0, 1) := by decide +kernel
theorem dX6_start_5 : decode cX6_start 5 = .ok (.invokestatic 50, 3) := by decide +kernel
theorem dX6_start_8 : decode cX6_start 8 = .ok (.aload_n 0, 1) := by decide +kernel
theorem dX6_start_9 : decode cX6_start 9 = .ok (.iload_n 2, 1) := by decide +kernel
theorem dX6_start_10 : decode cX6_start 10 = .ok (.putfield 15, 3) := by decide +kernel
theorem dX6_start_13 : decode cX6_start 13 = .ok (.aload_n 0, 1) := by decide +kernel
theorem dX6_start_14 : decode cX6_start 14 = .ok (.iload_n 3, 1) := by decide +kernel
theorem dX6_start_15 : decode cX6_start 15 = .ok (.aload_n 1, 1) := by decide +kernel
theorem dX6_start_16 : decode cX6_start 16 = .ok (.invokevirtual 56, 3) := by decide +kernel
theorem dX6_start_19 : decode cX6_start 19 = .ok (.iand, 1) := by decide +kernel
theorem dX6_start_20 : decode cX6_start 20 = .ok (.putfield 19, 3) := by decide +kernel
theorem dX6_start_23 : decode cX6_start 23 = .ok (.aload_n 0, 1) := by decide +kernel
theorem dX6_start_24 : decode cX6_start 24 = .ok (.iload 4, 2) := by decide +kernel
theorem dX6_start_26 : decode cX6_start 26 = .ok (.putfield 22, 3) := by decide +kernel
theorem dX6_start_29 : decode cX6_start 29 = .ok (.aload_n 0, 1) := by decide +kernel
theorem dX6_start_30 : decode cX6_start 30 = .ok (.iload 5, 2) := by decide +kernel
theorem dX6_start_32 : decode cX6_start 32 = .ok (.putfield 25, 3) := by decide +kernel
theorem dX6_start_35 : decode cX6_start 35 = .ok (.aload_n 0, 1) := by decide +kernel
theorem dX6_start_36 : decode cX6_start 36 = .ok (.iconst 0, 1) := by decide +kernel
theorem dX6_start_37 : decode cX6_start 37 = .ok (.putfield 28, 3) := by decide +kernel
theorem dX6_start_40 : decode cX6_start 40 = .ok (.aload_n 0, 1) := by decide +kernel
theorem dX6_start_41 : decode cX6_start 41 = .ok (.iconst 0, 1) := by decide +kernel
theorem dX6_start_42 : decode cX6_start 42 = .ok (.putfield 31, 3) := by decide +kernel
theorem dX6_start_45 : decode cX6_start 45 = .ok (.aload_n 0, 1) := by decide +kernel
theorem dX6_start_46 : decode cX6_start 46 = .ok (.iconst 0, 1) := by decide +kernel
theorem dX6_start_47 : decode cX6_start 47 = .ok (.putfield 34, 3) := by decide +kernel
theorem dX6_start_50 : decode cX6_start 50 = .ok (.aload_n 0, 1) := by decide +kernel
theorem dX6_start_51 : decode cX6_start 51 = .ok (.iconst 0, 1) := by decide +kernel
theorem dX6_start_52 : decode cX6_start 52 = .ok (.putfield 37, 3) := by decide +kernel
theorem dX6_start_55 : decode cX6_start 55 = .ok (.aload_n 0, 1) := by decide +kernel
theorem dX6_start_56 : decode cX6_start 56 = .ok (.iconst 0, 1) := by decide +kernel
theorem dX6_start_57 : decode cX6_start 57 = .ok (.putfield 40, 3) := by decide +kernel
theorem dX6_start_60 : decode cX6_start 60 = .ok (.aload_n 0, 1) := by decide +kernel
theorem dX6_start_61 : decode cX6_start 61 = .ok (.iconst (-1), 1) := by decide +kernel
theorem dX6_start_62 : decode cX6_start 62 = .ok (.putfield 43, 3) := by decide +kernel
theorem dX6_start_65 : decode cX6_start 65 = .ok (.return_, 1) := by decide +kernel
set_option maxRecDepth 20000 in
theorem ggX6_goOn_X6_finish : GoodIn wsX6_goOn wsX6_finish := goodIn_r _ [10, 4, 5, 11, 12, 3, 2, 1, 13, 14, 15, 16, 17, 18, 19, 20, 21, 22, 23, 61, 62, 63, 64, 65, 66, 67, 68, 69, 70, 71, 72, 73, 74, 75, 76, 77, 78, 79, 80, 81] (by decide +kernel) (by decide +kernel)
set_option maxRecDepth 20000 in
theorem gX6_goOn_X6_finish : GoodIn wsX6_goOn (wsV RX6 62 RX6 yX6_finish wsX6_finish) := goodIn_app (goodIn_of _ (by decide +kernel)) ggX6_goOn_X6_finish
set_option maxRecDepth 20000 in
theorem ggX6_goOn_X6_come : GoodIn wsX6_goOn wsX6_come := goodIn_r _ [27, 5, 4, 1, 28, 29, 11, 30, 31, 32, 33, 16, 34, 35, 61, 62, 63, 64, 65, 66, 67, 68, 69, 70, 71, 72, 73, 74, 75, 76, 77, 78, 79, 80, 81] (by decide +kernel) (by decide +kernel)
set_option maxRecDepth 20000 in
theorem gX6_goOn_X6_come : GoodIn wsX6_goOn (wsV RX6 66 RX6 yX6_come wsX6_come) := goodIn_app (goodIn_of _ (by decide +kernel)) ggX6_goOn_X6_come
set_option maxRecDepth 20000 in
theorem ggX6_goOn_X7_isDo : GoodIn wsX6_goOn wsX7_isDo := goodIn_r _ [39, 40, 14, 15, 16, 17, 18, 73, 74, 75, 76, 77, 78, 79, 80, 81] (by decide +kernel) (by decide +kernel)
set_option maxRecDepth 20000 in
theorem gX6_goOn_X7_isDo : GoodIn wsX6_goOn (wsV RX6 69 RX7 yX7_isDo wsX7_isDo) := goodIn_app (goodIn_of _ (by decide +kernel)) ggX6_goOn_X7_isDo
set_option maxRecDepth 20000 in
theorem ggX6_goOn_X6_beginDo : GoodIn wsX6_goOn wsX6_beginDo := goodIn_r _ [44, 4, 5, 45, 2, 1, 46, 3, 11, 13, 14, 15, 16, 17, 18, 47, 48, 49, 50, 51, 52, 53, 54, 55, 56, 61, 62, 63, 64, 65, 66, 67, 68, 69, 70, 71, 72, 73, 74, 75, 76, 77, 78, 79, 80, 81, 82] (by decide +kernel) (by decide +kernel)
set_option maxRecDepth 20000 in
theorem gX6_goOn_X6_beginDo : GoodIn wsX6_goOn (wsV RX6 73 RX6 yX6_beginDo wsX6_beginDo) := goodIn_app (goodIn_of _ (by decide +kernel)) ggX6_goOn_X6_beginDo
set_option maxRecDepth 20000 in
theorem ggX6_goOn_X6_beginOther : GoodIn wsX6_goOn wsX6_beginOther := goodIn_r _ [60, 4, 5, 11, 1, 2, 3, 13, 14, 15, 16, 17, 18, 61, 62, 63, 64, 65, 66, 67, 68, 69, 70, 71, 72, 73, 74, 75, 76, 77, 78, 79, 80, 81] (by decide +kernel) (by decide +kernel)
set_option maxRecDepth 20000 in
theorem gX6_goOn_X6_beginOther : GoodIn wsX6_goOn (wsV RX6 77 RX6 yX6_beginOther wsX6_beginOther) := goodIn_app (goodIn_of _ (by decide +kernel)) ggX6_goOn_X6_beginOther
theorem dX6_goOn_0 : decode cX6_goOn 0 = .ok (.iconst 0, 1) := by decide +kernel
theorem dX6_goOn_1 : decode cX6_goOn 1 = .ok (.istore 4, 2) := by decide +kernel
theorem dX6_goOn_3 : decode cX6_goOn 3 = .ok (.iload 4, 2) := by decide +kernel
theorem dX6_goOn_5 : decode cX6_goOn 5 = .ok (.sipush 6146, 3) := by decide +kernel
theorem dX6_goOn_8 : decode cX6_goOn 8 = .ok (.if_icmp .gt 103, 3) := by decide +kernel
theorem dX6_goOn_11 : decode cX6_goOn 11 = .ok (.aload_n 0, 1) := by decide +kernel
theorem dX6_goOn_12 : decode cX6_goOn 12 = .ok (.getfield 43, 3) := by decide +kernel
theorem dX6_goOn_15 : decode cX6_goOn 15 = .ok (.iconst (-1), 1) := by decide +kernel
theorem dX6_goOn_16 : decode cX6_goOn 16 = .ok (.if_icmp .ne 95, 3) := by decide +kernel
theorem dX6_goOn_19 : decode cX6_goOn 19 = .ok (.aload_n 0, 1) := by decide +kernel
theorem dX6_goOn_20 : decode cX6_goOn 20 = .ok (.getfield 34, 3) := by decide +kernel
theorem dX6_goOn_23 : decode cX6_goOn 23 = .ok (.iload_n 3, 1) := by decide +kernel
theorem dX6_goOn_24 : decode cX6_goOn 24 = .ok (.if_icmp .gt 87, 3) := by decide +kernel
theorem dX6_goOn_27 : decode cX6_goOn 27 = .ok (.aload_n 0, 1) := by decide +kernel
theorem dX6_goOn_28 : decode cX6_goOn 28 = .ok (.getfield 31, 3) := by decide +kernel
theorem dX6_goOn_31 : decode cX6_goOn 31 = .ok (.iconst 2, 1) := by decide +kernel
theorem dX6_goOn_32 : decode cX6_goOn 32 = .ok (.if_icmp .ne 8, 3) := by decide +kernel
theorem dX6_goOn_35 : decode cX6_goOn 35 = .ok (.aload_n 0, 1) := by decide +kernel
theorem dX6_goOn_36 : decode cX6_goOn 36 = .ok (.aload_n 1, 1) := by decide +kernel
theorem dX6_goOn_37 : decode cX6_goOn 37 = .ok (.invokevirtual 62, 3) := by decide +kernel
theorem dX6_goOn_40 : decode cX6_goOn 40 = .ok (.aload_n 0, 1) := by decide +kernel
theorem dX6_goOn_41 : decode cX6_goOn 41 = .ok (.getfield 31, 3) := by decide +kernel
theorem dX6_goOn_44 : decode cX6_goOn 44 = .ok (.ifCond .ne 16, 3) := by decide +kernel
theorem dX6_goOn_47 : decode cX6_goOn 47 = .ok (.aload_n 0, 1) := by decide +kernel
theorem dX6_goOn_48 : decode cX6_goOn 48 = .ok (.getfield 43, 3) := by decide +kernel
theorem dX6_goOn_51 : decode cX6_goOn 51 = .ok (.iconst (-1), 1) := by decide +kernel
theorem dX6_goOn_52 : decode cX6_goOn 52 = .ok (.if_icmp .ne 8, 3) := by decide +kernel
theorem dX6_goOn_55 : decode cX6_goOn 55 = .ok (.aload_n 0, 1) := by decide +kernel
theorem dX6_goOn_56 : decode cX6_goOn 56 = .ok (.aload_n 1, 1) := by decide +kernel
theorem dX6_goOn_57 : decode cX6_goOn 57 = .ok (.invokevirtual 66, 3) := by decide +kernel
theorem dX6_goOn_60 : decode cX6_goOn 60 = .ok (.aload_n 0, 1) := by decide +kernel
theorem dX6_goOn_61 : decode cX6_goOn 61 = .ok (.getfield 43, 3) := by decide +kernel
theorem dX6_goOn_64 : decode cX6_goOn 64 = .ok (.iconst (-1), 1) := by decide +kernel
theorem dX6_goOn_65 : decode cX6_goOn 65 = .ok (.if_icmp .ne 27, 3) := by decide +kernel
theorem dX6_goOn_68 : decode cX6_goOn 68 = .ok (.aload_n 1, 1) := by decide +kernel
theorem dX6_goOn_69 : decode cX6_goOn 69 = .ok (.aload_n 0, 1) := by decide +kernel
theorem dX6_goOn_70 : decode cX6_goOn 70 = .ok (.getfield 15, 3) := by decide +kernel
theorem dX6_goOn_73 : decode cX6_goOn 73 = .ok (.aload_n 0, 1) := by decide +kernel
theorem dX6_goOn_74 : decode cX6_goOn 74 = .ok (.getfield 28, 3) := by decide +kernel
theorem dX6_goOn_77 : decode cX6_goOn 77 = .ok (.invokevirtual 69, 3) := by decide +kernel
theorem dX6_goOn_80 : decode cX6_goOn 80 = .ok (.ifCond .eq 12, 3) := by decide +kernel
theorem dX6_goOn_83 : decode cX6_goOn 83 = .ok (.aload_n 0, 1) := by decide +kernel
theorem dX6_goOn_84 : decode cX6_goOn 84 = .ok (.aload_n 1, 1) := by decide +kernel
theorem dX6_goOn_85 : decode cX6_goOn 85 = .ok (.aload_n 2, 1) := by decide +kernel
theorem dX6_goOn_86 : decode cX6_goOn 86 = .ok (.invokevirtual 73, 3) := by decide +kernel
theorem dX6_goOn_89 : decode cX6_goOn 89 = .ok (.goto 16, 3) := by decide +kernel
theorem dX6_goOn_92 : decode cX6_goOn 92 = .ok (.aload_n 0, 1) := by decide +kernel
theorem dX6_goOn_93 : decode cX6_goOn 93 = .ok (.getfield 43, 3) := by decide +kernel
theorem dX6_goOn_96 : decode cX6_goOn 96 = .ok (.iconst (-1), 1) := by decide +kernel
theorem dX6_goOn_97 : decode cX6_goOn 97 = .ok (.if_icmp .ne 8, 3) := by decide +kernel
theorem dX6_goOn_100 : decode cX6_goOn 100 = .ok (.aload_n 0, 1) := by decide +kernel
theorem dX6_goOn_101 : decode cX6_goOn 101 = .ok (.aload_n 1, 1) := by decide +kernel
theorem dX6_goOn_102 : decode cX6_goOn 102 = .ok (.invokevirtual 77, 3) := by decide +kernel
theorem dX6_goOn_105 : decode cX6_goOn 105 = .ok (.iinc 4 1, 3) := by decide +kernel
theorem dX6_goOn_108 : decode cX6_goOn 108 = .ok (.goto (-105), 3) := by decide +kernel
theorem dX6_goOn_111 : decode cX6_goOn 111 = .ok (.return_, 1) := by decide +kernel
set_option maxRecDepth 20000 in
theorem ggX6_come_X7_sizeOf : GoodIn wsX6_come wsX7_sizeOf := goodIn_r _ [12, 13, 26, 27, 28, 29, 30, 31, 32, 33, 34] (by decide +kernel) (by decide +kernel)
set_option maxRecDepth 20000 in
theorem gX6_come_X7_sizeOf : GoodIn wsX6_come (wsV RX6 80 RX7 yX7_sizeOf wsX7_sizeOf) := goodIn_app (goodIn_of _ (by decide +kernel)) ggX6_come_X7_sizeOf
theorem dX6_come_0 : decode cX6_come 0 = .ok (.aload_n 0, 1) := by decide +kernel
theorem dX6_come_1 : decode cX6_come 1 = .ok (.getfield 28, 3) := by decide +kernel
theorem dX6_come_4 : decode cX6_come 4 = .ok (.aload_n 1, 1) := by decide +kernel
theorem dX6_come_5 : decode cX6_come 5 = .ok (.aload_n 0, 1) := by decide +kernel
theorem dX6_come_6 : decode cX6_come 6 = .ok (.getfield 15, 3) := by decide +kernel
theorem dX6_come_9 : decode cX6_come 9 = .ok (.invokevirtual 80, 3) := by decide +kernel
theorem dX6_come_12 : decode cX6_come 12 = .ok (.if_icmp .lt 9, 3) := by decide +kernel
theorem dX6_come_15 : decode cX6_come 15 = .ok (.aload_n 0, 1) := by decide +kernel
theorem dX6_come_16 : decode cX6_come 16 = .ok (.iconst 5, 1) := by decide +kernel
theorem dX6_come_17 : decode cX6_come 17 = .ok (.putfield 43, 3) := by decide +kernel
theorem dX6_come_20 : decode cX6_come 20 = .ok (.return_, 1) := by decide +kernel
theorem dX6_come_21 : decode cX6_come 21 = .ok (.aload_n 0, 1) := by decide +kernel
theorem dX6_come_22 : decode cX6_come 22 = .ok (.getfield 40, 3) := by decide +kernel
theorem dX6_come_25 : decode cX6_come 25 = .ok (.ifCond .lt 28, 3) := by decide +kernel
theorem dX6_come_28 : decode cX6_come 28 = .ok (.aload_n 0, 1) := by decide +kernel
theorem dX6_come_29 : decode cX6_come 29 = .ok (.getfield 40, 3) := by decide +kernel
theorem dX6_come_32 : decode cX6_come 32 = .ok (.aload_n 0, 1) := by decide +kernel
theorem dX6_come_33 : decode cX6_come 33 = .ok (.getfield 46, 3) := by decide +kernel
theorem dX6_come_36 : decode cX6_come 36 = .ok (.arraylength, 1) := by decide +kernel
theorem dX6_come_37 : decode cX6_come 37 = .ok (.if_icmp .ge 16, 3) := by decide +kernel
theorem dX6_come_40 : decode cX6_come 40 = .ok (.aload_n 0, 1) := by decide +kernel
theorem dX6_come_41 : decode cX6_come 41 = .ok (.getfield 46, 3) := by decide +kernel
theorem dX6_come_44 : decode cX6_come 44 = .ok (.aload_n 0, 1) := by decide +kernel
theorem dX6_come_45 : decode cX6_come 45 = .ok (.getfield 40, 3) := by decide +kernel
theorem dX6_come_48 : decode cX6_come 48 = .ok (.aload_n 0, 1) := by decide +kernel
theorem dX6_come_49 : decode cX6_come 49 = .ok (.getfield 28, 3) := by decide +kernel
theorem dX6_come_52 : decode cX6_come 52 = .ok (.iastore, 1) := by decide +kernel
theorem dX6_come_53 : decode cX6_come 53 = .ok (.aload_n 0, 1) := by decide +kernel
theorem dX6_come_54 : decode cX6_come 54 = .ok (.dup, 1) := by decide +kernel
theorem dX6_come_55 : decode cX6_come 55 = .ok (.getfield 40, 3) := by decide +kernel
theorem dX6_come_58 : decode cX6_come 58 = .ok (.iconst 1, 1) := by decide +kernel
theorem dX6_come_59 : decode cX6_come 59 = .ok (.iadd, 1) := by decide +kernel
theorem dX6_come_60 : decode cX6_come 60 = .ok (.putfield 40, 3) := by decide +kernel
theorem dX6_come_63 : decode cX6_come 63 = .ok (.aload_n 0, 1) := by decide +kernel
theorem dX6_come_64 : decode cX6_come 64 = .ok (.getfield 28, 3) := by decide +kernel
theorem dX6_come_67 : decode cX6_come 67 = .ok (.iconst 4, 1) := by decide +kernel
theorem dX6_come_68 : decode cX6_come 68 = .ok (.imul, 1) := by decide +kernel
theorem dX6_come_69 : decode cX6_come 69 = .ok (.aload_n 0, 1) := by decide +kernel
theorem dX6_come_70 : decode cX6_come 70 = .ok (.getfield 19, 3) := by decide +kernel
theorem dX6_come_73 : decode cX6_come 73 = .ok (.bipush 6, 2) := by decide +kernel
theorem dX6_come_75 : decode cX6_come 75 = .ok (.ishr, 1) := by decide +kernel
theorem dX6_come_76 : decode cX6_come 76 = .ok (.iconst 3, 1) := by decide +kernel
theorem dX6_come_77 : decode cX6_come 77 = .ok (.iand, 1) := by decide +kernel
theorem dX6_come_78 : decode cX6_come 78 = .ok (.iadd, 1) := by decide +kernel
theorem dX6_come_79 : decode cX6_come 79 = .ok (.istore_n 2, 1) := by decide +kernel
theorem dX6_come_80 : decode cX6_come 80 = .ok (.iload_n 2, 1) := by decide +kernel
theorem dX6_come_81 : decode cX6_come 81 = .ok (.ifCond .lt 12, 3) := by decide +kernel
theorem dX6_come_84 : decode cX6_come 84 = .ok (.iload_n 2, 1) := by decide +kernel
theorem dX6_come_85 : decode cX6_come 85 = .ok (.aload_n 0, 1) := by decide +kernel
theorem dX6_come_86 : decode cX6_come 86 = .ok (.getfield 11, 3) := by decide +kernel
theorem dX6_come_89 : decode cX6_come 89 = .ok (.arraylength, 1) := by decide +kernel
theorem dX6_come_90 : decode cX6_come 90 = .ok (.if_icmp .lt 4, 3) := by decide +kernel
theorem dX6_come_93 : decode cX6_come 93 = .ok (.return_, 1) := by decide +kernel
theorem dX6_come_94 : decode cX6_come 94 = .ok (.lconst 1, 1) := by decide +kernel
theorem dX6_come_95 : decode cX6_come 95 = .ok (.aload_n 0, 1) := by decide +kernel
theorem dX6_come_96 : decode cX6_come 96 = .ok (.getfield 19, 3) := by decide +kernel
theorem dX6_come_99 : decode cX6_come 99 = .ok (.bipush 63, 2) := by decide +kernel
theorem dX6_come_101 : decode cX6_come 101 = .ok (.iand, 1) := by decide +kernel
theorem dX6_come_102 : decode cX6_come 102 = .ok (.lshl, 1) := by decide +kernel
theorem dX6_come_103 : decode cX6_come 103 = .ok (.lstore_n 3, 1) := by decide +kernel
theorem dX6_come_104 : decode cX6_come 104 = .ok (.aload_n 0, 1) := by decide +kernel
theorem dX6_come_105 : decode cX6_come 105 = .ok (.getfield 11, 3) := by decide +kernel
theorem dX6_come_108 : decode cX6_come 108 = .ok (.iload_n 2, 1) := by decide +kernel
theorem dX6_come_109 : decode cX6_come 109 = .ok (.laload, 1) := by decide +kernel
theorem dX6_come_110 : decode cX6_come 110 = .ok (.lload_n 3, 1) := by decide +kernel
theorem dX6_come_111 : decode cX6_come 111 = .ok (.land, 1) := by decide +kernel
theorem dX6_come_112 : decode cX6_come 112 = .ok (.lconst 0, 1) := by decide +kernel
theorem dX6_come_113 : decode cX6_come 113 = .ok (.lcmp, 1) := by decide +kernel
theorem dX6_come_114 : decode cX6_come 114 = .ok (.ifCond .eq 8, 3) := by decide +kernel
theorem dX6_come_117 : decode cX6_come 117 = .ok (.aload_n 0, 1) := by decide +kernel
theorem dX6_come_118 : decode cX6_come 118 = .ok (.iconst 4, 1) := by decide +kernel
theorem dX6_come_119 : decode cX6_come 119 = .ok (.putfield 43, 3) := by decide +kernel
theorem dX6_come_122 : decode cX6_come 122 = .ok (.aload_n 0, 1) := by decide +kernel
theorem dX6_come_123 : decode cX6_come 123 = .ok (.getfield 11, 3) := by decide +kernel
theorem dX6_come_126 : decode cX6_come 126 = .ok (.iload_n 2, 1) := by decide +kernel
theorem dX6_come_127 : decode cX6_come 127 = .ok (.dup2, 1) := by decide +kernel
theorem dX6_come_128 : decode cX6_come 128 = .ok (.laload, 1) := by decide +kernel
theorem dX6_come_129 : decode cX6_come 129 = .ok (.lload_n 3, 1) := by decide +kernel
theorem dX6_come_130 : decode cX6_come 130 = .ok (.lor, 1) := by decide +kernel
theorem dX6_come_131 : decode cX6_come 131 = .ok (.lastore, 1) := by decide +kernel
theorem dX6_come_132 : decode cX6_come 132 = .ok (.return_, 1) := by decide +kernel
set_option maxRecDepth 20000 in
theorem ggX6_beginOther_X7_cell : GoodIn wsX6_beginOther wsX7_cell := goodIn_r _ [11, 12, 25, 26, 27, 28, 29, 30, 31, 32, 33] (by decide +kernel) (by decide +kernel)
set_option maxRecDepth 20000 in
theorem gX6_beginOther_X7_cell : GoodIn wsX6_beginOther (wsV RX6 84 RX7 yX7_cell wsX7_cell) := goodIn_app (goodIn_of _ (by decide +kernel)) ggX6_beginOther_X7_cell
theorem dX6_beginOther_0 : decode cX6_beginOther 0 = .ok (.aload_n 1, 1) := by decide +kernel
theorem dX6_beginOther_1 : decode cX6_beginOther 1 = .ok (.aload_n 0, 1) := by decide +kernel
theorem dX6_beginOther_2 : decode cX6_beginOther 2 = .ok (.getfield 15, 3) := by decide +kernel
theorem dX6_beginOther_5 : decode cX6_beginOther 5 = .ok (.aload_n 0, 1) := by decide +kernel
theorem dX6_beginOther_6 : decode cX6_beginOther 6 = .ok (.getfield 28, 3) := by decide +kernel
theorem dX6_beginOther_9 : decode cX6_beginOther 9 = .ok (.iconst 0, 1) := by decide +kernel
theorem dX6_beginOther_10 : decode cX6_beginOther 10 = .ok (.invokevirtual 84, 3) := by decide +kernel
theorem dX6_beginOther_13 : decode cX6_beginOther 13 = .ok (.istore_n 2, 1) := by decide +kernel
theorem dX6_beginOther_14 : decode cX6_beginOther 14 = .ok (.iload_n 2, 1) := by decide +kernel
theorem dX6_beginOther_15 : decode cX6_beginOther 15 = .ok (.iconst 5, 1) := by decide +kernel
theorem dX6_beginOther_16 : decode cX6_beginOther 16 = .ok (.if_icmp .ne 25, 3) := by decide +kernel
theorem dX6_beginOther_19 : decode cX6_beginOther 19 = .ok (.aload_n 0, 1) := by decide +kernel
theorem dX6_beginOther_20 : decode cX6_beginOther 20 = .ok (.aload_n 0, 1) := by decide +kernel
theorem dX6_beginOther_21 : decode cX6_beginOther 21 = .ok (.getfield 19, 3) := by decide +kernel
theorem dX6_beginOther_24 : decode cX6_beginOther 24 = .ok (.aload_n 1, 1) := by decide +kernel
theorem dX6_beginOther_25 : decode cX6_beginOther 25 = .ok (.getfield 88, 3) := by decide +kernel
theorem dX6_beginOther_28 : decode cX6_beginOther 28 = .ok (.iand, 1) := by decide +kernel
theorem dX6_beginOther_29 : decode cX6_beginOther 29 = .ok (.ifCond .ne 7, 3) := by decide +kernel
theorem dX6_beginOther_32 : decode cX6_beginOther 32 = .ok (.iconst 0, 1) := by decide +kernel
theorem dX6_beginOther_33 : decode cX6_beginOther 33 = .ok (.goto 4, 3) := by decide +kernel
theorem dX6_beginOther_36 : decode cX6_beginOther 36 = .ok (.iconst 1, 1) := by decide +kernel
theorem dX6_beginOther_37 : decode cX6_beginOther 37 = .ok (.putfield 43, 3) := by decide +kernel
theorem dX6_beginOther_40 : decode cX6_beginOther 40 = .ok (.return_, 1) := by decide +kernel
theorem dX6_beginOther_41 : decode cX6_beginOther 41 = .ok (.aload_n 0, 1) := by decide +kernel
theorem dX6_beginOther_42 : decode cX6_beginOther 42 = .ok (.dup, 1) := by decide +kernel
theorem dX6_beginOther_43 : decode cX6_beginOther 43 = .ok (.getfield 34, 3) := by decide +kernel
theorem dX6_beginOther_46 : decode cX6_beginOther 46 = .ok (.iload_n 2, 1) := by decide +kernel
theorem dX6_beginOther_47 : decode cX6_beginOther 47 = .ok (.iconst 2, 1) := by decide +kernel
theorem dX6_beginOther_48 : decode cX6_beginOther 48 = .ok (.if_icmp .ne 7, 3) := by decide +kernel
theorem dX6_beginOther_51 : decode cX6_beginOther 51 = .ok (.iconst 1, 1) := by decide +kernel
theorem dX6_beginOther_52 : decode cX6_beginOther 52 = .ok (.goto 25, 3) := by decide +kernel
theorem dX6_beginOther_55 : decode cX6_beginOther 55 = .ok (.iload_n 2, 1) := by decide +kernel
theorem dX6_beginOther_56 : decode cX6_beginOther 56 = .ok (.iconst 3, 1) := by decide +kernel
theorem dX6_beginOther_57 : decode cX6_beginOther 57 = .ok (.if_icmp .ne 19, 3) := by decide +kernel
theorem dX6_beginOther_60 : decode cX6_beginOther 60 = .ok (.aload_n 1, 1) := by decide +kernel
theorem dX6_beginOther_61 : decode cX6_beginOther 61 = .ok (.aload_n 0, 1) := by decide +kernel
theorem dX6_beginOther_62 : decode cX6_beginOther 62 = .ok (.getfield 15, 3) := by decide +kernel
theorem dX6_beginOther_65 : decode cX6_beginOther 65 = .ok (.aload_n 0, 1) := by decide +kernel
theorem dX6_beginOther_66 : decode cX6_beginOther 66 = .ok (.getfield 28, 3) := by decide +kernel
theorem dX6_beginOther_69 : decode cX6_beginOther 69 = .ok (.iconst 1, 1) := by decide +kernel
theorem dX6_beginOther_70 : decode cX6_beginOther 70 = .ok (.invokevirtual 84, 3) := by decide +kernel
theorem dX6_beginOther_73 : decode cX6_beginOther 73 = .ok (.goto 4, 3) := by decide +kernel
theorem dX6_beginOther_76 : decode cX6_beginOther 76 = .ok (.iconst 0, 1) := by decide +kernel
theorem dX6_beginOther_77 : decode cX6_beginOther 77 = .ok (.iadd, 1) := by decide +kernel
theorem dX6_beginOther_78 : decode cX6_beginOther 78 = .ok (.putfield 34, 3) := by decide +kernel
theorem dX6_beginOther_81 : decode cX6_beginOther 81 = .ok (.aload_n 0, 1) := by decide +kernel
theorem dX6_beginOther_82 : decode cX6_beginOther 82 = .ok (.iconst 2, 1) := by decide +kernel
theorem dX6_beginOther_83 : decode cX6_beginOther 83 = .ok (.putfield 31, 3) := by decide +kernel
theorem dX6_beginOther_86 : decode cX6_beginOther 86 = .ok (.return_, 1) := by decide +kernel
set_option maxRecDepth 20000 in
theorem ggX6_beginDo_X7_cell : GoodIn wsX6_beginDo wsX7_cell := goodIn_r _ [13, 14, 37, 38, 39, 40, 41, 42, 43, 44, 45] (by decide +kernel) (by decide +kernel)
set_option maxRecDepth 20000 in
theorem gX6_beginDo_X7_cell : GoodIn wsX6_beginDo (wsV RX6 84 RX7 yX7_cell wsX7_cell) := goodIn_app (goodIn_of _ (by decide +kernel)) ggX6_beginDo_X7_cell
set_option maxRecDepth 20000 in
theorem ggX6_beginDo_X3_pick : GoodIn wsX6_beginDo wsX3_pick := goodIn_r _ [19, 20, 37, 38, 39, 40, 41, 42, 43, 44, 45, 46] (by decide +kernel) (by decide +kernel)
set_option maxRecDepth 20000 in
theorem gX6_beginDo_X3_pick : GoodIn wsX6_beginDo (wsV RX6 91 RX3 yX3_pick wsX3_pick) := goodIn_app (goodIn_of _ (by decide +kernel)) ggX6_beginDo_X3_pick
set_option maxRecDepth 20000 in
theorem ggX6_beginDo_X3_take : GoodIn wsX6_beginDo wsX3_take := goodIn_r _ [24, 20, 46] (by decide +kernel) (by decide +kernel)
set_option maxRecDepth 20000 in
theorem gX6_beginDo_X3_take : GoodIn wsX6_beginDo (wsV RX6 97 RX3 yX3_take wsX3_take) := goodIn_app (goodIn_of _ (by decide +kernel)) ggX6_beginDo_X3_take
theorem dX6_beginDo_0 : decode cX6_beginDo 0 = .ok (.aload_n 2, 1) := by decide +kernel
theorem dX6_beginDo_1 : decode cX6_beginDo 1 = .ok (.aload_n 1, 1) := by decide +kernel
theorem dX6_beginDo_2 : decode cX6_beginDo 2 = .ok (.aload_n 1, 1) := by decide +kernel
theorem dX6_beginDo_3 : decode cX6_beginDo 3 = .ok (.aload_n 0, 1) := by decide +kernel
theorem dX6_beginDo_4 : decode cX6_beginDo 4 = .ok (.getfield 15, 3) := by decide +kernel
theorem dX6_beginDo_7 : decode cX6_beginDo 7 = .ok (.aload_n 0, 1) := by decide +kernel
theorem dX6_beginDo_8 : decode cX6_beginDo 8 = .ok (.getfield 28, 3) := by decide +kernel
theorem dX6_beginDo_11 : decode cX6_beginDo 11 = .ok (.iconst 1, 1) := by decide +kernel
theorem dX6_beginDo_12 : decode cX6_beginDo 12 = .ok (.invokevirtual 84, 3) := by decide +kernel
theorem dX6_beginDo_15 : decode cX6_beginDo 15 = .ok (.aload_n 0, 1) := by decide +kernel
theorem dX6_beginDo_16 : decode cX6_beginDo 16 = .ok (.getfield 25, 3) := by decide +kernel
theorem dX6_beginDo_19 : decode cX6_beginDo 19 = .ok (.aload_n 0, 1) := by decide +kernel
theorem dX6_beginDo_20 : decode cX6_beginDo 20 = .ok (.getfield 34, 3) := by decide +kernel
theorem dX6_beginDo_23 : decode cX6_beginDo 23 = .ok (.invokevirtual 91, 3) := by decide +kernel
theorem dX6_beginDo_26 : decode cX6_beginDo 26 = .ok (.istore_n 3, 1) := by decide +kernel
theorem dX6_beginDo_27 : decode cX6_beginDo 27 = .ok (.aload_n 1, 1) := by decide +kernel
theorem dX6_beginDo_28 : decode cX6_beginDo 28 = .ok (.aload_n 0, 1) := by decide +kernel
theorem dX6_beginDo_29 : decode cX6_beginDo 29 = .ok (.getfield 15, 3) := by decide +kernel
theorem dX6_beginDo_32 : decode cX6_beginDo 32 = .ok (.aload_n 0, 1) := by decide +kernel
theorem dX6_beginDo_33 : decode cX6_beginDo 33 = .ok (.getfield 28, 3) := by decide +kernel
theorem dX6_beginDo_36 : decode cX6_beginDo 36 = .ok (.iconst 4, 1) := by decide +kernel
theorem dX6_beginDo_37 : decode cX6_beginDo 37 = .ok (.invokevirtual 84, 3) := by decide +kernel
theorem dX6_beginDo_40 : decode cX6_beginDo 40 = .ok (.istore 4, 2) := by decide +kernel
theorem dX6_beginDo_42 : decode cX6_beginDo 42 = .ok (.iload_n 3, 1) := by decide +kernel
theorem dX6_beginDo_43 : decode cX6_beginDo 43 = .ok (.iconst (-1), 1) := by decide +kernel
theorem dX6_beginDo_44 : decode cX6_beginDo 44 = .ok (.if_icmp .ne 11, 3) := by decide +kernel
theorem dX6_beginDo_47 : decode cX6_beginDo 47 = .ok (.aload_n 0, 1) := by decide +kernel
theorem dX6_beginDo_48 : decode cX6_beginDo 48 = .ok (.iconst 2, 1) := by decide +kernel
theorem dX6_beginDo_49 : decode cX6_beginDo 49 = .ok (.putfield 43, 3) := by decide +kernel
theorem dX6_beginDo_52 : decode cX6_beginDo 52 = .ok (.goto 99, 3) := by decide +kernel
theorem dX6_beginDo_55 : decode cX6_beginDo 55 = .ok (.iload_n 3, 1) := by decide +kernel
theorem dX6_beginDo_56 : decode cX6_beginDo 56 = .ok (.bipush (-2), 2) := by decide +kernel
theorem dX6_beginDo_58 : decode cX6_beginDo 58 = .ok (.if_icmp .ne 31, 3) := by decide +kernel
theorem dX6_beginDo_61 : decode cX6_beginDo 61 = .ok (.aload_n 0, 1) := by decide +kernel
theorem dX6_beginDo_62 : decode cX6_beginDo 62 = .ok (.dup, 1) := by decide +kernel
theorem dX6_beginDo_63 : decode cX6_beginDo 63 = .ok (.getfield 37, 3) := by decide +kernel
theorem dX6_beginDo_66 : decode cX6_beginDo 66 = .ok (.iconst 1, 1) := by decide +kernel
theorem dX6_beginDo_67 : decode cX6_beginDo 67 = .ok (.iadd, 1) := by decide +kernel
theorem dX6_beginDo_68 : decode cX6_beginDo 68 = .ok (.putfield 37, 3) := by decide +kernel
theorem dX6_beginDo_71 : decode cX6_beginDo 71 = .ok (.aload_n 0, 1) := by decide +kernel
theorem dX6_beginDo_72 : decode cX6_beginDo 72 = .ok (.dup, 1) := by decide +kernel
theorem dX6_beginDo_73 : decode cX6_beginDo 73 = .ok (.getfield 34, 3) := by decide +kernel
theorem dX6_beginDo_76 : decode cX6_beginDo 76 = .ok (.iconst 1, 1) := by decide +kernel
theorem dX6_beginDo_77 : decode cX6_beginDo 77 = .ok (.iadd, 1) := by decide +kernel
theorem dX6_beginDo_78 : decode cX6_beginDo 78 = .ok (.putfield 34, 3) := by decide +kernel
theorem dX6_beginDo_81 : decode cX6_beginDo 81 = .ok (.aload_n 0, 1) := by decide +kernel
theorem dX6_beginDo_82 : decode cX6_beginDo 82 = .ok (.iconst 1, 1) := by decide +kernel
theorem dX6_beginDo_83 : decode cX6_beginDo 83 = .ok (.putfield 31, 3) := by decide +kernel
theorem dX6_beginDo_86 : decode cX6_beginDo 86 = .ok (.goto 65, 3) := by decide +kernel
theorem dX6_beginDo_89 : decode cX6_beginDo 89 = .ok (.iload 4, 2) := by decide +kernel
theorem dX6_beginDo_91 : decode cX6_beginDo 91 = .ok (.iconst (-1), 1) := by decide +kernel
theorem dX6_beginDo_92 : decode cX6_beginDo 92 = .ok (.if_icmp .eq 23, 3) := by decide +kernel
theorem dX6_beginDo_95 : decode cX6_beginDo 95 = .ok (.aload_n 0, 1) := by decide +kernel
theorem dX6_beginDo_96 : decode cX6_beginDo 96 = .ok (.getfield 19, 3) := by decide +kernel
theorem dX6_beginDo_99 : decode cX6_beginDo 99 = .ok (.iload 4, 2) := by decide +kernel
theorem dX6_beginDo_101 : decode cX6_beginDo 101 = .ok (.ishr, 1) := by decide +kernel
theorem dX6_beginDo_102 : decode cX6_beginDo 102 = .ok (.iconst 1, 1) := by decide +kernel
theorem dX6_beginDo_103 : decode cX6_beginDo 103 = .ok (.iand, 1) := by decide +kernel
theorem dX6_beginDo_104 : decode cX6_beginDo 104 = .ok (.ifCond .ne 11, 3) := by decide +kernel
theorem dX6_beginDo_107 : decode cX6_beginDo 107 = .ok (.aload_n 0, 1) := by decide +kernel
theorem dX6_beginDo_108 : decode cX6_beginDo 108 = .ok (.iconst 3, 1) := by decide +kernel
theorem dX6_beginDo_109 : decode cX6_beginDo 109 = .ok (.putfield 43, 3) := by decide +kernel
theorem dX6_beginDo_112 : decode cX6_beginDo 112 = .ok (.goto 39, 3) := by decide +kernel
theorem dX6_beginDo_115 : decode cX6_beginDo 115 = .ok (.aload_n 0, 1) := by decide +kernel
theorem dX6_beginDo_116 : decode cX6_beginDo 116 = .ok (.dup, 1) := by decide +kernel
theorem dX6_beginDo_117 : decode cX6_beginDo 117 = .ok (.getfield 34, 3) := by decide +kernel
theorem dX6_beginDo_120 : decode cX6_beginDo 120 = .ok (.aload_n 1, 1) := by decide +kernel
theorem dX6_beginDo_121 : decode cX6_beginDo 121 = .ok (.aload_n 0, 1) := by decide +kernel
theorem dX6_beginDo_122 : decode cX6_beginDo 122 = .ok (.getfield 15, 3) := by decide +kernel
theorem dX6_beginDo_125 : decode cX6_beginDo 125 = .ok (.aload_n 0, 1) := by decide +kernel
theorem dX6_beginDo_126 : decode cX6_beginDo 126 = .ok (.getfield 28, 3) := by decide +kernel
theorem dX6_beginDo_129 : decode cX6_beginDo 129 = .ok (.iconst 3, 1) := by decide +kernel
theorem dX6_beginDo_130 : decode cX6_beginDo 130 = .ok (.invokevirtual 84, 3) := by decide +kernel
theorem dX6_beginDo_133 : decode cX6_beginDo 133 = .ok (.iadd, 1) := by decide +kernel
theorem dX6_beginDo_134 : decode cX6_beginDo 134 = .ok (.putfield 34, 3) := by decide +kernel
theorem dX6_beginDo_137 : decode cX6_beginDo 137 = .ok (.aload_n 2, 1) := by decide +kernel
theorem dX6_beginDo_138 : decode cX6_beginDo 138 = .ok (.iload_n 3, 1) := by decide +kernel
theorem dX6_beginDo_139 : decode cX6_beginDo 139 = .ok (.aload_n 0, 1) := by decide +kernel
theorem dX6_beginDo_140 : decode cX6_beginDo 140 = .ok (.getfield 34, 3) := by decide +kernel
theorem dX6_beginDo_143 : decode cX6_beginDo 143 = .ok (.invokevirtual 97, 3) := by decide +kernel
theorem dX6_beginDo_146 : decode cX6_beginDo 146 = .ok (.aload_n 0, 1) := by decide +kernel
theorem dX6_beginDo_147 : decode cX6_beginDo 147 = .ok (.iconst 2, 1) := by decide +kernel
theorem dX6_beginDo_148 : decode cX6_beginDo 148 = .ok (.putfield 31, 3) := by decide +kernel
theorem dX6_beginDo_151 : decode cX6_beginDo 151 = .ok (.return_, 1) := by decide +kernel
set_option maxRecDepth 20000 in
theorem ggX6_finish_X7_cell : GoodIn wsX6_finish wsX7_cell := goodIn_r _ [12, 13, 31, 32, 33, 34, 35, 36, 37, 38, 39] (by decide +kernel) (by decide +kernel)
set_option maxRecDepth 20000 in
theorem gX6_finish_X7_cell : GoodIn wsX6_finish (wsV RX6 84 RX7 yX7_cell wsX7_cell) := goodIn_app (goodIn_of _ (by decide +kernel)) ggX6_finish_X7_cell
set_option maxRecDepth 20000 in
theorem ggX6_finish_X7_factOf : GoodIn wsX6_finish wsX7_factOf := goodIn_r _ [17, 18, 31, 32, 33, 34, 35, 36, 37, 38, 39] (by decide +kernel) (by decide +kernel)
set_option maxRecDepth 20000 in
theorem gX6_finish_X7_factOf : GoodIn wsX6_finish (wsV RX6 101 RX7 yX7_factOf wsX7_factOf) := goodIn_app (goodIn_of _ (by decide +kernel)) ggX6_finish_X7_factOf
theorem dX6_finish_0 : decode cX6_finish 0 = .ok (.aload_n 1, 1) := by decide +kernel
theorem dX6_finish_1 : decode cX6_finish 1 = .ok (.aload_n 0, 1) := by decide +kernel
theorem dX6_finish_2 : decode cX6_finish 2 = .ok (.getfield 15, 3) := by decide +kernel
theorem dX6_finish_5 : decode cX6_finish 5 = .ok (.aload_n 0, 1) := by decide +kernel
theorem dX6_finish_6 : decode cX6_finish 6 = .ok (.getfield 28, 3) := by decide +kernel
theorem dX6_finish_9 : decode cX6_finish 9 = .ok (.iconst 0, 1) := by decide +kernel
theorem dX6_finish_10 : decode cX6_finish 10 = .ok (.invokevirtual 84, 3) := by decide +kernel
theorem dX6_finish_13 : decode cX6_finish 13 = .ok (.istore_n 2, 1) := by decide +kernel
theorem dX6_finish_14 : decode cX6_finish 14 = .ok (.aload_n 1, 1) := by decide +kernel
theorem dX6_finish_15 : decode cX6_finish 15 = .ok (.aload_n 0, 1) := by decide +kernel
theorem dX6_finish_16 : decode cX6_finish 16 = .ok (.getfield 15, 3) := by decide +kernel
theorem dX6_finish_19 : decode cX6_finish 19 = .ok (.aload_n 0, 1) := by decide +kernel
theorem dX6_finish_20 : decode cX6_finish 20 = .ok (.getfield 28, 3) := by decide +kernel
theorem dX6_finish_23 : decode cX6_finish 23 = .ok (.iconst 1, 1) := by decide +kernel
theorem dX6_finish_24 : decode cX6_finish 24 = .ok (.invokevirtual 84, 3) := by decide +kernel
theorem dX6_finish_27 : decode cX6_finish 27 = .ok (.istore_n 3, 1) := by decide +kernel
theorem dX6_finish_28 : decode cX6_finish 28 = .ok (.aload_n 0, 1) := by decide +kernel
theorem dX6_finish_29 : decode cX6_finish 29 = .ok (.getfield 28, 3) := by decide +kernel
theorem dX6_finish_32 : decode cX6_finish 32 = .ok (.iconst 1, 1) := by decide +kernel
theorem dX6_finish_33 : decode cX6_finish 33 = .ok (.iadd, 1) := by decide +kernel
theorem dX6_finish_34 : decode cX6_finish 34 = .ok (.istore 4, 2) := by decide +kernel
theorem dX6_finish_36 : decode cX6_finish 36 = .ok (.iload_n 2, 1) := by decide +kernel
theorem dX6_finish_37 : decode cX6_finish 37 = .ok (.iconst 4, 1) := by decide +kernel
theorem dX6_finish_38 : decode cX6_finish 38 = .ok (.if_icmp .ne 9, 3) := by decide +kernel
theorem dX6_finish_41 : decode cX6_finish 41 = .ok (.iload_n 3, 1) := by decide +kernel
theorem dX6_finish_42 : decode cX6_finish 42 = .ok (.istore 4, 2) := by decide +kernel
theorem dX6_finish_44 : decode cX6_finish 44 = .ok (.goto 127, 3) := by decide +kernel
theorem dX6_finish_47 : decode cX6_finish 47 = .ok (.iload_n 2, 1) := by decide +kernel
theorem dX6_finish_48 : decode cX6_finish 48 = .ok (.iconst 2, 1) := by decide +kernel
theorem dX6_finish_49 : decode cX6_finish 49 = .ok (.if_icmp .ne 60, 3) := by decide +kernel
theorem dX6_finish_52 : decode cX6_finish 52 = .ok (.aload_n 0, 1) := by decide +kernel
theorem dX6_finish_53 : decode cX6_finish 53 = .ok (.getfield 19, 3) := by decide +kernel
theorem dX6_finish_56 : decode cX6_finish 56 = .ok (.aload_n 1, 1) := by decide +kernel
theorem dX6_finish_57 : decode cX6_finish 57 = .ok (.iload_n 3, 1) := by decide +kernel
theorem dX6_finish_58 : decode cX6_finish 58 = .ok (.invokevirtual 101, 3) := by decide +kernel
theorem dX6_finish_61 : decode cX6_finish 61 = .ok (.ishr, 1) := by decide +kernel
theorem dX6_finish_62 : decode cX6_finish 62 = .ok (.aload_n 0, 1) := by decide +kernel
theorem dX6_finish_63 : decode cX6_finish 63 = .ok (.getfield 22, 3) := by decide +kernel
theorem dX6_finish_66 : decode cX6_finish 66 = .ok (.iload_n 3, 1) := by decide +kernel
theorem dX6_finish_67 : decode cX6_finish 67 = .ok (.ishr, 1) := by decide +kernel
theorem dX6_finish_68 : decode cX6_finish 68 = .ok (.ixor, 1) := by decide +kernel
theorem dX6_finish_69 : decode cX6_finish 69 = .ok (.iconst 1, 1) := by decide +kernel
theorem dX6_finish_70 : decode cX6_finish 70 = .ok (.iand, 1) := by decide +kernel
theorem dX6_finish_71 : decode cX6_finish 71 = .ok (.iconst 1, 1) := by decide +kernel
theorem dX6_finish_72 : decode cX6_finish 72 = .ok (.if_icmp .ne 7, 3) := by decide +kernel
theorem dX6_finish_75 : decode cX6_finish 75 = .ok (.iconst 1, 1) := by decide +kernel
theorem dX6_finish_76 : decode cX6_finish 76 = .ok (.goto 4, 3) := by decide +kernel
theorem dX6_finish_79 : decode cX6_finish 79 = .ok (.iconst 0, 1) := by decide +kernel
theorem dX6_finish_80 : decode cX6_finish 80 = .ok (.istore 5, 2) := by decide +kernel
theorem dX6_finish_82 : decode cX6_finish 82 = .ok (.aload_n 1, 1) := by decide +kernel
theorem dX6_finish_83 : decode cX6_finish 83 = .ok (.aload_n 0, 1) := by decide +kernel
theorem dX6_finish_84 : decode cX6_finish 84 = .ok (.getfield 15, 3) := by decide +kernel
theorem dX6_finish_87 : decode cX6_finish 87 = .ok (.aload_n 0, 1) := by decide +kernel
theorem dX6_finish_88 : decode cX6_finish 88 = .ok (.getfield 28, 3) := by decide +kernel
theorem dX6_finish_91 : decode cX6_finish 91 = .ok (.iload 5, 2) := by decide +kernel
theorem dX6_finish_93 : decode cX6_finish 93 = .ok (.ifCond .eq 7, 3) := by decide +kernel
theorem dX6_finish_96 : decode cX6_finish 96 = .ok (.iconst 2, 1) := by decide +kernel
theorem dX6_finish_97 : decode cX6_finish 97 = .ok (.goto 4, 3) := by decide +kernel
theorem dX6_finish_100 : decode cX6_finish 100 = .ok (.iconst 3, 1) := by decide +kernel
theorem dX6_finish_101 : decode cX6_finish 101 = .ok (.invokevirtual 84, 3) := by decide +kernel
theorem dX6_finish_104 : decode cX6_finish 104 = .ok (.istore 4, 2) := by decide +kernel
theorem dX6_finish_106 : decode cX6_finish 106 = .ok (.goto 65, 3) := by decide +kernel
theorem dX6_finish_109 : decode cX6_finish 109 = .ok (.iload_n 2, 1) := by decide +kernel
theorem dX6_finish_110 : decode cX6_finish 110 = .ok (.ifCond .ne 32, 3) := by decide +kernel
theorem dX6_finish_113 : decode cX6_finish 113 = .ok (.aload_n 0, 1) := by decide +kernel
theorem dX6_finish_114 : decode cX6_finish 114 = .ok (.dup, 1) := by decide +kernel
theorem dX6_finish_115 : decode cX6_finish 115 = .ok (.getfield 19, 3) := by decide +kernel
theorem dX6_finish_118 : decode cX6_finish 118 = .ok (.iconst 1, 1) := by decide +kernel
theorem dX6_finish_119 : decode cX6_finish 119 = .ok (.aload_n 1, 1) := by decide +kernel
theorem dX6_finish_120 : decode cX6_finish 120 = .ok (.aload_n 0, 1) := by decide +kernel
theorem dX6_finish_121 : decode cX6_finish 121 = .ok (.getfield 15, 3) := by decide +kernel
theorem dX6_finish_124 : decode cX6_finish 124 = .ok (.aload_n 0, 1) := by decide +kernel
theorem dX6_finish_125 : decode cX6_finish 125 = .ok (.getfield 28, 3) := by decide +kernel
theorem dX6_finish_128 : decode cX6_finish 128 = .ok (.iconst 2, 1) := by decide +kernel
theorem dX6_finish_129 : decode cX6_finish 129 = .ok (.invokevirtual 84, 3) := by decide +kernel
theorem dX6_finish_132 : decode cX6_finish 132 = .ok (.ishl, 1) := by decide +kernel
theorem dX6_finish_133 : decode cX6_finish 133 = .ok (.iconst (-1), 1) := by decide +kernel
theorem dX6_finish_134 : decode cX6_finish 134 = .ok (.ixor, 1) := by decide +kernel
theorem dX6_finish_135 : decode cX6_finish 135 = .ok (.iand, 1) := by decide +kernel
theorem dX6_finish_136 : decode cX6_finish 136 = .ok (.putfield 19, 3) := by decide +kernel
theorem dX6_finish_139 : decode cX6_finish 139 = .ok (.goto 32, 3) := by decide +kernel
theorem dX6_finish_142 : decode cX6_finish 142 = .ok (.iload_n 2, 1) := by decide +kernel
theorem dX6_finish_143 : decode cX6_finish 143 = .ok (.iconst 1, 1) := by decide +kernel
theorem dX6_finish_144 : decode cX6_finish 144 = .ok (.if_icmp .ne 27, 3) := by decide +kernel
theorem dX6_finish_147 : decode cX6_finish 147 = .ok (.aload_n 0, 1) := by decide +kernel
theorem dX6_finish_148 : decode cX6_finish 148 = .ok (.dup, 1) := by decide +kernel
theorem dX6_finish_149 : decode cX6_finish 149 = .ok (.getfield 19, 3) := by decide +kernel
theorem dX6_finish_152 : decode cX6_finish 152 = .ok (.iconst 1, 1) := by decide +kernel
theorem dX6_finish_153 : decode cX6_finish 153 = .ok (.aload_n 1, 1) := by decide +kernel
theorem dX6_finish_154 : decode cX6_finish 154 = .ok (.aload_n 0, 1) := by decide +kernel
theorem dX6_finish_155 : decode cX6_finish 155 = .ok (.getfield 15, 3) := by decide +kernel
theorem dX6_finish_158 : decode cX6_finish 158 = .ok (.aload_n 0, 1) := by decide +kernel
theorem dX6_finish_159 : decode cX6_finish 159 = .ok (.getfield 28, 3) := by decide +kernel
theorem dX6_finish_162 : decode cX6_finish 162 = .ok (.iconst 2, 1) := by decide +kernel
theorem dX6_finish_163 : decode cX6_finish 163 = .ok (.invokevirtual 84, 3) := by decide +kernel
theorem dX6_finish_166 : decode cX6_finish 166 = .ok (.ishl, 1) := by decide +kernel
theorem dX6_finish_167 : decode cX6_finish 167 = .ok (.ior, 1) := by decide +kernel
theorem dX6_finish_168 : decode cX6_finish 168 = .ok (.putfield 19, 3) := by decide +kernel
theorem dX6_finish_171 : decode cX6_finish 171 = .ok (.aload_n 0, 1) := by decide +kernel
theorem dX6_finish_172 : decode cX6_finish 172 = .ok (.iconst 0, 1) := by decide +kernel
theorem dX6_finish_173 : decode cX6_finish 173 = .ok (.putfield 31, 3) := by decide +kernel
theorem dX6_finish_176 : decode cX6_finish 176 = .ok (.aload_n 0, 1) := by decide +kernel
theorem dX6_finish_177 : decode cX6_finish 177 = .ok (.getfield 34, 3) := by decide +kernel
theorem dX6_finish_180 : decode cX6_finish 180 = .ok (.sipush 5000, 3) := by decide +kernel
theorem dX6_finish_183 : decode cX6_finish 183 = .ok (.if_icmp .le 12, 3) := by decide +kernel
theorem dX6_finish_186 : decode cX6_finish 186 = .ok (.aload_n 0, 1) := by decide +kernel
theorem dX6_finish_187 : decode cX6_finish 187 = .ok (.bipush 6, 2) := by decide +kernel
theorem dX6_finish_189 : decode cX6_finish 189 = .ok (.putfield 43, 3) := by decide +kernel
theorem dX6_finish_192 : decode cX6_finish 192 = .ok (.goto 9, 3) := by decide +kernel
theorem dX6_finish_195 : decode cX6_finish 195 = .ok (.aload_n 0, 1) := by decide +kernel
theorem dX6_finish_196 : decode cX6_finish 196 = .ok (.iload 4, 2) := by decide +kernel
theorem dX6_finish_198 : decode cX6_finish 198 = .ok (.putfield 28, 3) := by decide +kernel
theorem dX6_finish_201 : decode cX6_finish 201 = .ok (.return_, 1) := by decide +kernel
theorem dX6_about_0 : decode cX6_about 0 = .ok (.iload_n 1, 1) := by decide +kernel
theorem dX6_about_1 : decode cX6_about 1 = .ok (.tableswitch 51 0 3 #[31, 36, 41, 46], 31) := by decide +kernel
theorem dX6_about_32 : decode cX6_about 32 = .ok (.aload_n 0, 1) := by decide +kernel
theorem dX6_about_33 : decode cX6_about 33 = .ok (.getfield 34, 3) := by decide +kernel
theorem dX6_about_36 : decode cX6_about 36 = .ok (.ireturn, 1) := by decide +kernel
theorem dX6_about_37 : decode cX6_about 37 = .ok (.aload_n 0, 1) := by decide +kernel
theorem dX6_about_38 : decode cX6_about 38 = .ok (.getfield 40, 3) := by decide +kernel
theorem dX6_about_41 : decode cX6_about 41 = .ok (.ireturn, 1) := by decide +kernel
theorem dX6_about_42 : decode cX6_about 42 = .ok (.aload_n 0, 1) := by decide +kernel
theorem dX6_about_43 : decode cX6_about 43 = .ok (.getfield 19, 3) := by decide +kernel
theorem dX6_about_46 : decode cX6_about 46 = .ok (.ireturn, 1) := by decide +kernel
theorem dX6_about_47 : decode cX6_about 47 = .ok (.aload_n 0, 1) := by decide +kernel
theorem dX6_about_48 : decode cX6_about 48 = .ok (.getfield 28, 3) := by decide +kernel
theorem dX6_about_51 : decode cX6_about 51 = .ok (.ireturn, 1) := by decide +kernel
theorem dX6_about_52 : decode cX6_about 52 = .ok (.iconst (-1), 1) := by decide +kernel
theorem dX6_about_53 : decode cX6_about 53 = .ok (.ireturn, 1) := by decide +kernel
theorem dX6_pathAt_0 : decode cX6_pathAt 0 = .ok (.iload_n 1, 1) := by decide +kernel
theorem dX6_pathAt_1 : decode cX6_pathAt 1 = .ok (.ifCond .lt 29, 3) := by decide +kernel
theorem dX6_pathAt_4 : decode cX6_pathAt 4 = .ok (.iload_n 1, 1) := by decide +kernel
theorem dX6_pathAt_5 : decode cX6_pathAt 5 = .ok (.aload_n 0, 1) := by decide +kernel
theorem dX6_pathAt_6 : decode cX6_pathAt 6 = .ok (.getfield 40, 3) := by decide +kernel
theorem dX6_pathAt_9 : decode cX6_pathAt 9 = .ok (.if_icmp .ge 21, 3) := by decide +kernel
theorem dX6_pathAt_12 : decode cX6_pathAt 12 = .ok (.iload_n 1, 1) := by decide +kernel
theorem dX6_pathAt_13 : decode cX6_pathAt 13 = .ok (.aload_n 0, 1) := by decide +kernel
theorem dX6_pathAt_14 : decode cX6_pathAt 14 = .ok (.getfield 46, 3) := by decide +kernel
theorem dX6_pathAt_17 : decode cX6_pathAt 17 = .ok (.arraylength, 1) := by decide +kernel
theorem dX6_pathAt_18 : decode cX6_pathAt 18 = .ok (.if_icmp .ge 12, 3) := by decide +kernel
theorem dX6_pathAt_21 : decode cX6_pathAt 21 = .ok (.aload_n 0, 1) := by decide +kernel
theorem dX6_pathAt_22 : decode cX6_pathAt 22 = .ok (.getfield 46, 3) := by decide +kernel
theorem dX6_pathAt_25 : decode cX6_pathAt 25 = .ok (.iload_n 1, 1) := by decide +kernel
theorem dX6_pathAt_26 : decode cX6_pathAt 26 = .ok (.iaload, 1) := by decide +kernel
theorem dX6_pathAt_27 : decode cX6_pathAt 27 = .ok (.goto 4, 3) := by decide +kernel
theorem dX6_pathAt_30 : decode cX6_pathAt 30 = .ok (.iconst (-1), 1) := by decide +kernel
theorem dX6_pathAt_31 : decode cX6_pathAt 31 = .ok (.ireturn, 1) := by decide +kernel
theorem dX7_init_0 : decode cX7_init 0 = .ok (.aload_n 0, 1) := by decide +kernel
theorem dX7_init_1 : decode cX7_init 1 = .ok (.invokespecial 3, 3) := by decide +kernel
theorem dX7_init_4 : decode cX7_init 4 = .ok (.aload_n 0, 1) := by decide +kernel
theorem dX7_init_5 : decode cX7_init 5 = .ok (.iconst 0, 1) := by decide +kernel
theorem dX7_init_6 : decode cX7_init 6 = .ok (.putfield 9, 3) := by decide +kernel
theorem dX7_init_9 : decode cX7_init 9 = .ok (.aload_n 0, 1) := by decide +kernel
theorem dX7_init_10 : decode cX7_init 10 = .ok (.iconst 0, 1) := by decide +kernel
theorem dX7_init_11 : decode cX7_init 11 = .ok (.putfield 15, 3) := by decide +kernel
theorem dX7_init_14 : decode cX7_init 14 = .ok (.aload_n 0, 1) := by decide +kernel
theorem dX7_init_15 : decode cX7_init 15 = .ok (.iconst 0, 1) := by decide +kernel
theorem dX7_init_16 : decode cX7_init 16 = .ok (.putfield 18, 3) := by decide +kernel
theorem dX7_init_19 : decode cX7_init 19 = .ok (.aload_n 0, 1) := by decide +kernel
theorem dX7_init_20 : decode cX7_init 20 = .ok (.iconst 0, 1) := by decide +kernel
theorem dX7_init_21 : decode cX7_init 21 = .ok (.putfield 21, 3) := by decide +kernel
theorem dX7_init_24 : decode cX7_init 24 = .ok (.aload_n 0, 1) := by decide +kernel
theorem dX7_init_25 : decode cX7_init 25 = .ok (.sipush 255, 3) := by decide +kernel
theorem dX7_init_28 : decode cX7_init 28 = .ok (.putfield 24, 3) := by decide +kernel
theorem dX7_init_31 : decode cX7_init 31 = .ok (.aload_n 0, 1) := by decide +kernel
theorem dX7_init_32 : decode cX7_init 32 = .ok (.bipush 8, 2) := by decide +kernel
theorem dX7_init_34 : decode cX7_init 34 = .ok (.newarray .int, 2) := by decide +kernel
theorem dX7_init_36 : decode cX7_init 36 = .ok (.putfield 27, 3) := by decide +kernel
theorem dX7_init_39 : decode cX7_init 39 = .ok (.aload_n 0, 1) := by decide +kernel
theorem dX7_init_40 : decode cX7_init 40 = .ok (.iconst 4, 1) := by decide +kernel
theorem dX7_init_41 : decode cX7_init 41 = .ok (.newarray .int, 2) := by decide +kernel
theorem dX7_init_43 : decode cX7_init 43 = .ok (.putfield 31, 3) := by decide +kernel
theorem dX7_init_46 : decode cX7_init 46 = .ok (.aload_n 0, 1) := by decide +kernel
theorem dX7_init_47 : decode cX7_init 47 = .ok (.iconst 5, 1) := by decide +kernel
theorem dX7_init_48 : decode cX7_init 48 = .ok (.newarray .int, 2) := by decide +kernel
theorem dX7_init_50 : decode cX7_init 50 = .ok (.putfield 34, 3) := by decide +kernel
theorem dX7_init_53 : decode cX7_init 53 = .ok (.aload_n 0, 1) := by decide +kernel
theorem dX7_init_54 : decode cX7_init 54 = .ok (.sipush 600, 3) := by decide +kernel
theorem dX7_init_57 : decode cX7_init 57 = .ok (.newarray .int, 2) := by decide +kernel
theorem dX7_init_59 : decode cX7_init 59 = .ok (.putfield 37, 3) := by decide +kernel
theorem dX7_init_62 : decode cX7_init 62 = .ok (.return_, 1) := by decide +kernel
theorem dX7_hasBook_0 : decode cX7_hasBook 0 = .ok (.iload_n 1, 1) := by decide +kernel
theorem dX7_hasBook_1 : decode cX7_hasBook 1 = .ok (.ifCond .lt 15, 3) := by decide +kernel
theorem dX7_hasBook_4 : decode cX7_hasBook 4 = .ok (.iload_n 1, 1) := by decide +kernel
theorem dX7_hasBook_5 : decode cX7_hasBook 5 = .ok (.aload_n 0, 1) := by decide +kernel
theorem dX7_hasBook_6 : decode cX7_hasBook 6 = .ok (.getfield 21, 3) := by decide +kernel
theorem dX7_hasBook_9 : decode cX7_hasBook 9 = .ok (.if_icmp .ge 7, 3) := by decide +kernel
theorem dX7_hasBook_12 : decode cX7_hasBook 12 = .ok (.iconst 1, 1) := by decide +kernel
theorem dX7_hasBook_13 : decode cX7_hasBook 13 = .ok (.goto 4, 3) := by decide +kernel
theorem dX7_hasBook_16 : decode cX7_hasBook 16 = .ok (.iconst 0, 1) := by decide +kernel
theorem dX7_hasBook_17 : decode cX7_hasBook 17 = .ok (.ireturn, 1) := by decide +kernel
theorem dX7_sizeOf_0 : decode cX7_sizeOf 0 = .ok (.iload_n 1, 1) := by decide +kernel
theorem dX7_sizeOf_1 : decode cX7_sizeOf 1 = .ok (.ifCond .lt 21, 3) := by decide +kernel
theorem dX7_sizeOf_4 : decode cX7_sizeOf 4 = .ok (.iload_n 1, 1) := by decide +kernel
theorem dX7_sizeOf_5 : decode cX7_sizeOf 5 = .ok (.aload_n 0, 1) := by decide +kernel
theorem dX7_sizeOf_6 : decode cX7_sizeOf 6 = .ok (.getfield 34, 3) := by decide +kernel
theorem dX7_sizeOf_9 : decode cX7_sizeOf 9 = .ok (.arraylength, 1) := by decide +kernel
theorem dX7_sizeOf_10 : decode cX7_sizeOf 10 = .ok (.if_icmp .ge 12, 3) := by decide +kernel
theorem dX7_sizeOf_13 : decode cX7_sizeOf 13 = .ok (.aload_n 0, 1) := by decide +kernel
theorem dX7_sizeOf_14 : decode cX7_sizeOf 14 = .ok (.getfield 34, 3) := by decide +kernel
theorem dX7_sizeOf_17 : decode cX7_sizeOf 17 = .ok (.iload_n 1, 1) := by decide +kernel
theorem dX7_sizeOf_18 : decode cX7_sizeOf 18 = .ok (.iaload, 1) := by decide +kernel
theorem dX7_sizeOf_19 : decode cX7_sizeOf 19 = .ok (.goto 4, 3) := by decide +kernel
theorem dX7_sizeOf_22 : decode cX7_sizeOf 22 = .ok (.iconst 0, 1) := by decide +kernel
theorem dX7_sizeOf_23 : decode cX7_sizeOf 23 = .ok (.ireturn, 1) := by decide +kernel
theorem dX7_setSize_0 : decode cX7_setSize 0 = .ok (.iload_n 1, 1) := by decide +kernel
theorem dX7_setSize_1 : decode cX7_setSize 1 = .ok (.ifCond .lt 19, 3) := by decide +kernel
theorem dX7_setSize_4 : decode cX7_setSize 4 = .ok (.iload_n 1, 1) := by decide +kernel
theorem dX7_setSize_5 : decode cX7_setSize 5 = .ok (.aload_n 0, 1) := by decide +kernel
theorem dX7_setSize_6 : decode cX7_setSize 6 = .ok (.getfield 34, 3) := by decide +kernel
theorem dX7_setSize_9 : decode cX7_setSize 9 = .ok (.arraylength, 1) := by decide +kernel
theorem dX7_setSize_10 : decode cX7_setSize 10 = .ok (.if_icmp .ge 10, 3) := by decide +kernel
theorem dX7_setSize_13 : decode cX7_setSize 13 = .ok (.aload_n 0, 1) := by decide +kernel
theorem dX7_setSize_14 : decode cX7_setSize 14 = .ok (.getfield 34, 3) := by decide +kernel
theorem dX7_setSize_17 : decode cX7_setSize 17 = .ok (.iload_n 1, 1) := by decide +kernel
theorem dX7_setSize_18 : decode cX7_setSize 18 = .ok (.iload_n 2, 1) := by decide +kernel
theorem dX7_setSize_19 : decode cX7_setSize 19 = .ok (.iastore, 1) := by decide +kernel
theorem dX7_setSize_20 : decode cX7_setSize 20 = .ok (.return_, 1) := by decide +kernel
theorem dX7_cell_0 : decode cX7_cell 0 = .ok (.iload_n 1, 1) := by decide +kernel
theorem dX7_cell_1 : decode cX7_cell 1 = .ok (.bipush 24, 2) := by decide +kernel
theorem dX7_cell_3 : decode cX7_cell 3 = .ok (.imul, 1) := by decide +kernel
theorem dX7_cell_4 : decode cX7_cell 4 = .ok (.iload_n 2, 1) := by decide +kernel
theorem dX7_cell_5 : decode cX7_cell 5 = .ok (.iadd, 1) := by decide +kernel
theorem dX7_cell_6 : decode cX7_cell 6 = .ok (.iconst 5, 1) := by decide +kernel
theorem dX7_cell_7 : decode cX7_cell 7 = .ok (.imul, 1) := by decide +kernel
theorem dX7_cell_8 : decode cX7_cell 8 = .ok (.iload_n 3, 1) := by decide +kernel
theorem dX7_cell_9 : decode cX7_cell 9 = .ok (.iadd, 1) := by decide +kernel
theorem dX7_cell_10 : decode cX7_cell 10 = .ok (.istore 4, 2) := by decide +kernel
theorem dX7_cell_12 : decode cX7_cell 12 = .ok (.iload 4, 2) := by decide +kernel
theorem dX7_cell_14 : decode cX7_cell 14 = .ok (.ifCond .lt 23, 3) := by decide +kernel
theorem dX7_cell_17 : decode cX7_cell 17 = .ok (.iload 4, 2) := by decide +kernel
theorem dX7_cell_19 : decode cX7_cell 19 = .ok (.aload_n 0, 1) := by decide +kernel
theorem dX7_cell_20 : decode cX7_cell 20 = .ok (.getfield 37, 3) := by decide +kernel
theorem dX7_cell_23 : decode cX7_cell 23 = .ok (.arraylength, 1) := by decide +kernel
theorem dX7_cell_24 : decode cX7_cell 24 = .ok (.if_icmp .ge 13, 3) := by decide +kernel
theorem dX7_cell_27 : decode cX7_cell 27 = .ok (.aload_n 0, 1) := by decide +kernel
theorem dX7_cell_28 : decode cX7_cell 28 = .ok (.getfield 37, 3) := by decide +kernel
theorem dX7_cell_31 : decode cX7_cell 31 = .ok (.iload 4, 2) := by decide +kernel
theorem dX7_cell_33 : decode cX7_cell 33 = .ok (.iaload, 1) := by decide +kernel
theorem dX7_cell_34 : decode cX7_cell 34 = .ok (.goto 4, 3) := by decide +kernel
theorem dX7_cell_37 : decode cX7_cell 37 = .ok (.iconst 0, 1) := by decide +kernel
theorem dX7_cell_38 : decode cX7_cell 38 = .ok (.ireturn, 1) := by decide +kernel
theorem dX7_setCell_0 : decode cX7_setCell 0 = .ok (.iload_n 1, 1) := by decide +kernel
theorem dX7_setCell_1 : decode cX7_setCell 1 = .ok (.bipush 24, 2) := by decide +kernel
theorem dX7_setCell_3 : decode cX7_setCell 3 = .ok (.imul, 1) := by decide +kernel
theorem dX7_setCell_4 : decode cX7_setCell 4 = .ok (.iload_n 2, 1) := by decide +kernel
theorem dX7_setCell_5 : decode cX7_setCell 5 = .ok (.iadd, 1) := by decide +kernel
theorem dX7_setCell_6 : decode cX7_setCell 6 = .ok (.iconst 5, 1) := by decide +kernel
theorem dX7_setCell_7 : decode cX7_setCell 7 = .ok (.imul, 1) := by decide +kernel
theorem dX7_setCell_8 : decode cX7_setCell 8 = .ok (.iload_n 3, 1) := by decide +kernel
theorem dX7_setCell_9 : decode cX7_setCell 9 = .ok (.iadd, 1) := by decide +kernel
theorem dX7_setCell_10 : decode cX7_setCell 10 = .ok (.istore 5, 2) := by decide +kernel
theorem dX7_setCell_12 : decode cX7_setCell 12 = .ok (.iload 5, 2) := by decide +kernel
theorem dX7_setCell_14 : decode cX7_setCell 14 = .ok (.ifCond .lt 22, 3) := by decide +kernel
theorem dX7_setCell_17 : decode cX7_setCell 17 = .ok (.iload 5, 2) := by decide +kernel
theorem dX7_setCell_19 : decode cX7_setCell 19 = .ok (.aload_n 0, 1) := by decide +kernel
theorem dX7_setCell_20 : decode cX7_setCell 20 = .ok (.getfield 37, 3) := by decide +kernel
theorem dX7_setCell_23 : decode cX7_setCell 23 = .ok (.arraylength, 1) := by decide +kernel
theorem dX7_setCell_24 : decode cX7_setCell 24 = .ok (.if_icmp .ge 12, 3) := by decide +kernel
theorem dX7_setCell_27 : decode cX7_setCell 27 = .ok (.aload_n 0, 1) := by decide +kernel
theorem dX7_setCell_28 : decode cX7_setCell 28 = .ok (.getfield 37, 3) := by decide +kernel
theorem dX7_setCell_31 : decode cX7_setCell 31 = .ok (.iload 5, 2) := by decide +kernel
theorem dX7_setCell_33 : decode cX7_setCell 33 = .ok (.iload 4, 2) := by decide +kernel
theorem dX7_setCell_35 : decode cX7_setCell 35 = .ok (.iastore, 1) := by decide +kernel
theorem dX7_setCell_36 : decode cX7_setCell 36 = .ok (.return_, 1) := by decide +kernel
theorem dX7_allFacts_0 : decode cX7_allFacts 0 = .ok (.iconst 1, 1) := by decide +kernel
theorem dX7_allFacts_1 : decode cX7_allFacts 1 = .ok (.aload_n 0, 1) := by decide +kernel
theorem dX7_allFacts_2 : decode cX7_allFacts 2 = .ok (.getfield 9, 3) := by decide +kernel
theorem dX7_allFacts_5 : decode cX7_allFacts 5 = .ok (.ishl, 1) := by decide +kernel
theorem dX7_allFacts_6 : decode cX7_allFacts 6 = .ok (.iconst 1, 1) := by decide +kernel
theorem dX7_allFacts_7 : decode cX7_allFacts 7 = .ok (.isub, 1) := by decide +kernel
theorem dX7_allFacts_8 : decode cX7_allFacts 8 = .ok (.ireturn, 1) := by decide +kernel
theorem dX7_allSigns_0 : decode cX7_allSigns 0 = .ok (.iconst 1, 1) := by decide +kernel
theorem dX7_allSigns_1 : decode cX7_allSigns 1 = .ok (.aload_n 0, 1) := by decide +kernel
theorem dX7_allSigns_2 : decode cX7_allSigns 2 = .ok (.getfield 15, 3) := by decide +kernel
theorem dX7_allSigns_5 : decode cX7_allSigns 5 = .ok (.ishl, 1) := by decide +kernel
theorem dX7_allSigns_6 : decode cX7_allSigns 6 = .ok (.iconst 1, 1) := by decide +kernel
theorem dX7_allSigns_7 : decode cX7_allSigns 7 = .ok (.isub, 1) := by decide +kernel
theorem dX7_allSigns_8 : decode cX7_allSigns 8 = .ok (.ireturn, 1) := by decide +kernel
theorem dX7_allPeople_0 : decode cX7_allPeople 0 = .ok (.iconst 1, 1) := by decide +kernel
theorem dX7_allPeople_1 : decode cX7_allPeople 1 = .ok (.aload_n 0, 1) := by decide +kernel
theorem dX7_allPeople_2 : decode cX7_allPeople 2 = .ok (.getfield 18, 3) := by decide +kernel
theorem dX7_allPeople_5 : decode cX7_allPeople 5 = .ok (.ishl, 1) := by decide +kernel
theorem dX7_allPeople_6 : decode cX7_allPeople 6 = .ok (.iconst 1, 1) := by decide +kernel
theorem dX7_allPeople_7 : decode cX7_allPeople 7 = .ok (.isub, 1) := by decide +kernel
theorem dX7_allPeople_8 : decode cX7_allPeople 8 = .ok (.ireturn, 1) := by decide +kernel
theorem dX7_factOf_0 : decode cX7_factOf 0 = .ok (.iload_n 1, 1) := by decide +kernel
theorem dX7_factOf_1 : decode cX7_factOf 1 = .ok (.ifCond .lt 21, 3) := by decide +kernel
theorem dX7_factOf_4 : decode cX7_factOf 4 = .ok (.iload_n 1, 1) := by decide +kernel
theorem dX7_factOf_5 : decode cX7_factOf 5 = .ok (.aload_n 0, 1) := by decide +kernel
theorem dX7_factOf_6 : decode cX7_factOf 6 = .ok (.getfield 27, 3) := by decide +kernel
theorem dX7_factOf_9 : decode cX7_factOf 9 = .ok (.arraylength, 1) := by decide +kernel
theorem dX7_factOf_10 : decode cX7_factOf 10 = .ok (.if_icmp .ge 12, 3) := by decide +kernel
theorem dX7_factOf_13 : decode cX7_factOf 13 = .ok (.aload_n 0, 1) := by decide +kernel
theorem dX7_factOf_14 : decode cX7_factOf 14 = .ok (.getfield 27, 3) := by decide +kernel
theorem dX7_factOf_17 : decode cX7_factOf 17 = .ok (.iload_n 1, 1) := by decide +kernel
theorem dX7_factOf_18 : decode cX7_factOf 18 = .ok (.iaload, 1) := by decide +kernel
theorem dX7_factOf_19 : decode cX7_factOf 19 = .ok (.goto 4, 3) := by decide +kernel
theorem dX7_factOf_22 : decode cX7_factOf 22 = .ok (.iconst 0, 1) := by decide +kernel
theorem dX7_factOf_23 : decode cX7_factOf 23 = .ok (.ireturn, 1) := by decide +kernel
theorem dX7_skillsOf_0 : decode cX7_skillsOf 0 = .ok (.iload_n 1, 1) := by decide +kernel
theorem dX7_skillsOf_1 : decode cX7_skillsOf 1 = .ok (.ifCond .lt 21, 3) := by decide +kernel
theorem dX7_skillsOf_4 : decode cX7_skillsOf 4 = .ok (.iload_n 1, 1) := by decide +kernel
theorem dX7_skillsOf_5 : decode cX7_skillsOf 5 = .ok (.aload_n 0, 1) := by decide +kernel
theorem dX7_skillsOf_6 : decode cX7_skillsOf 6 = .ok (.getfield 31, 3) := by decide +kernel
theorem dX7_skillsOf_9 : decode cX7_skillsOf 9 = .ok (.arraylength, 1) := by decide +kernel
theorem dX7_skillsOf_10 : decode cX7_skillsOf 10 = .ok (.if_icmp .ge 12, 3) := by decide +kernel
theorem dX7_skillsOf_13 : decode cX7_skillsOf 13 = .ok (.aload_n 0, 1) := by decide +kernel
theorem dX7_skillsOf_14 : decode cX7_skillsOf 14 = .ok (.getfield 31, 3) := by decide +kernel
theorem dX7_skillsOf_17 : decode cX7_skillsOf 17 = .ok (.iload_n 1, 1) := by decide +kernel
theorem dX7_skillsOf_18 : decode cX7_skillsOf 18 = .ok (.iaload, 1) := by decide +kernel
theorem dX7_skillsOf_19 : decode cX7_skillsOf 19 = .ok (.goto 4, 3) := by decide +kernel
theorem dX7_skillsOf_22 : decode cX7_skillsOf 22 = .ok (.iconst 0, 1) := by decide +kernel
theorem dX7_skillsOf_23 : decode cX7_skillsOf 23 = .ok (.ireturn, 1) := by decide +kernel
theorem dX7_setSkills_0 : decode cX7_setSkills 0 = .ok (.iload_n 1, 1) := by decide +kernel
theorem dX7_setSkills_1 : decode cX7_setSkills 1 = .ok (.ifCond .lt 19, 3) := by decide +kernel
theorem dX7_setSkills_4 : decode cX7_setSkills 4 = .ok (.iload_n 1, 1) := by decide +kernel
theorem dX7_setSkills_5 : decode cX7_setSkills 5 = .ok (.aload_n 0, 1) := by decide +kernel
theorem dX7_setSkills_6 : decode cX7_setSkills 6 = .ok (.getfield 31, 3) := by decide +kernel
theorem dX7_setSkills_9 : decode cX7_setSkills 9 = .ok (.arraylength, 1) := by decide +kernel
theorem dX7_setSkills_10 : decode cX7_setSkills 10 = .ok (.if_icmp .ge 10, 3) := by decide +kernel
theorem dX7_setSkills_13 : decode cX7_setSkills 13 = .ok (.aload_n 0, 1) := by decide +kernel
theorem dX7_setSkills_14 : decode cX7_setSkills 14 = .ok (.getfield 31, 3) := by decide +kernel
theorem dX7_setSkills_17 : decode cX7_setSkills 17 = .ok (.iload_n 1, 1) := by decide +kernel
theorem dX7_setSkills_18 : decode cX7_setSkills 18 = .ok (.iload_n 2, 1) := by decide +kernel
theorem dX7_setSkills_19 : decode cX7_setSkills 19 = .ok (.iastore, 1) := by decide +kernel
theorem dX7_setSkills_20 : decode cX7_setSkills 20 = .ok (.return_, 1) := by decide +kernel
set_option maxRecDepth 20000 in
theorem ggX7_someoneCan_X7_skillsOf : GoodIn wsX7_someoneCan wsX7_skillsOf := goodIn_r _ [6, 7, 8, 9, 10, 11, 12, 13, 14, 15, 16] (by decide +kernel) (by decide +kernel)
set_option maxRecDepth 20000 in
theorem gX7_someoneCan_X7_skillsOf : GoodIn wsX7_someoneCan (wsV RX7 40 RX7 yX7_skillsOf wsX7_skillsOf) := goodIn_app (goodIn_of _ (by decide +kernel)) ggX7_someoneCan_X7_skillsOf
theorem dX7_someoneCan_0 : decode cX7_someoneCan 0 = .ok (.iconst 0, 1) := by decide +kernel
theorem dX7_someoneCan_1 : decode cX7_someoneCan 1 = .ok (.istore_n 2, 1) := by decide +kernel
theorem dX7_someoneCan_2 : decode cX7_someoneCan 2 = .ok (.iconst 0, 1) := by decide +kernel
theorem dX7_someoneCan_3 : decode cX7_someoneCan 3 = .ok (.istore_n 3, 1) := by decide +kernel
theorem dX7_someoneCan_4 : decode cX7_someoneCan 4 = .ok (.iload_n 3, 1) := by decide +kernel
theorem dX7_someoneCan_5 : decode cX7_someoneCan 5 = .ok (.aload_n 0, 1) := by decide +kernel
theorem dX7_someoneCan_6 : decode cX7_someoneCan 6 = .ok (.getfield 18, 3) := by decide +kernel
theorem dX7_someoneCan_9 : decode cX7_someoneCan 9 = .ok (.if_icmp .ge 17, 3) := by decide +kernel
theorem dX7_someoneCan_12 : decode cX7_someoneCan 12 = .ok (.iload_n 2, 1) := by decide +kernel
theorem dX7_someoneCan_13 : decode cX7_someoneCan 13 = .ok (.aload_n 0, 1) := by decide +kernel
theorem dX7_someoneCan_14 : decode cX7_someoneCan 14 = .ok (.iload_n 3, 1) := by decide +kernel
theorem dX7_someoneCan_15 : decode cX7_someoneCan 15 = .ok (.invokevirtual 40, 3) := by decide +kernel
theorem dX7_someoneCan_18 : decode cX7_someoneCan 18 = .ok (.ior, 1) := by decide +kernel
theorem dX7_someoneCan_19 : decode cX7_someoneCan 19 = .ok (.istore_n 2, 1) := by decide +kernel
theorem dX7_someoneCan_20 : decode cX7_someoneCan 20 = .ok (.iinc 3 1, 3) := by decide +kernel
theorem dX7_someoneCan_23 : decode cX7_someoneCan 23 = .ok (.goto (-19), 3) := by decide +kernel
theorem dX7_someoneCan_26 : decode cX7_someoneCan 26 = .ok (.iload_n 2, 1) := by decide +kernel
theorem dX7_someoneCan_27 : decode cX7_someoneCan 27 = .ok (.iload_n 1, 1) := by decide +kernel
theorem dX7_someoneCan_28 : decode cX7_someoneCan 28 = .ok (.ishr, 1) := by decide +kernel
theorem dX7_someoneCan_29 : decode cX7_someoneCan 29 = .ok (.iconst 1, 1) := by decide +kernel
theorem dX7_someoneCan_30 : decode cX7_someoneCan 30 = .ok (.iand, 1) := by decide +kernel
theorem dX7_someoneCan_31 : decode cX7_someoneCan 31 = .ok (.iconst 1, 1) := by decide +kernel
theorem dX7_someoneCan_32 : decode cX7_someoneCan 32 = .ok (.if_icmp .ne 7, 3) := by decide +kernel
theorem dX7_someoneCan_35 : decode cX7_someoneCan 35 = .ok (.iconst 1, 1) := by decide +kernel
theorem dX7_someoneCan_36 : decode cX7_someoneCan 36 = .ok (.goto 4, 3) := by decide +kernel
theorem dX7_someoneCan_39 : decode cX7_someoneCan 39 = .ok (.iconst 0, 1) := by decide +kernel
theorem dX7_someoneCan_40 : decode cX7_someoneCan 40 = .ok (.ireturn, 1) := by decide +kernel
set_option maxRecDepth 20000 in
theorem ggX7_isDo_X7_cell : GoodIn wsX7_isDo wsX7_cell := goodIn_r _ [5, 6, 7, 8, 9, 10, 11, 12, 13, 14, 15] (by decide +kernel) (by decide +kernel)
set_option maxRecDepth 20000 in
theorem gX7_isDo_X7_cell : GoodIn wsX7_isDo (wsV RX7 44 RX7 yX7_cell wsX7_cell) := goodIn_app (goodIn_of _ (by decide +kernel)) ggX7_isDo_X7_cell
theorem dX7_isDo_0 : decode cX7_isDo 0 = .ok (.aload_n 0, 1) := by decide +kernel
theorem dX7_isDo_1 : decode cX7_isDo 1 = .ok (.iload_n 1, 1) := by decide +kernel
theorem dX7_isDo_2 : decode cX7_isDo 2 = .ok (.iload_n 2, 1) := by decide +kernel
theorem dX7_isDo_3 : decode cX7_isDo 3 = .ok (.iconst 0, 1) := by decide +kernel
theorem dX7_isDo_4 : decode cX7_isDo 4 = .ok (.invokevirtual 44, 3) := by decide +kernel
theorem dX7_isDo_7 : decode cX7_isDo 7 = .ok (.istore_n 3, 1) := by decide +kernel
theorem dX7_isDo_8 : decode cX7_isDo 8 = .ok (.iload_n 3, 1) := by decide +kernel
theorem dX7_isDo_9 : decode cX7_isDo 9 = .ok (.ifCond .eq 8, 3) := by decide +kernel
theorem dX7_isDo_12 : decode cX7_isDo 12 = .ok (.iload_n 3, 1) := by decide +kernel
theorem dX7_isDo_13 : decode cX7_isDo 13 = .ok (.iconst 1, 1) := by decide +kernel
theorem dX7_isDo_14 : decode cX7_isDo 14 = .ok (.if_icmp .ne 7, 3) := by decide +kernel
theorem dX7_isDo_17 : decode cX7_isDo 17 = .ok (.iconst 1, 1) := by decide +kernel
theorem dX7_isDo_18 : decode cX7_isDo 18 = .ok (.goto 4, 3) := by decide +kernel
theorem dX7_isDo_21 : decode cX7_isDo 21 = .ok (.iconst 0, 1) := by decide +kernel
theorem dX7_isDo_22 : decode cX7_isDo 22 = .ok (.ireturn, 1) := by decide +kernel
set_option maxRecDepth 20000 in
theorem ggX7_isDoable_X7_isDo : GoodIn wsX7_isDoable wsX7_isDo := goodIn_r _ [5, 6, 7, 8, 4, 9, 10, 21, 22, 23, 24, 25, 26, 27, 28, 29] (by decide +kernel) (by decide +kernel)
set_option maxRecDepth 20000 in
theorem gX7_isDoable_X7_isDo : GoodIn wsX7_isDoable (wsV RX7 48 RX7 yX7_isDo wsX7_isDo) := goodIn_app (goodIn_of _ (by decide +kernel)) ggX7_isDoable_X7_isDo
set_option maxRecDepth 20000 in
theorem ggX7_isDoable_X7_cell : GoodIn wsX7_isDoable wsX7_cell := goodIn_r _ [9, 10, 21, 22, 23, 24, 25, 26, 27, 28, 29] (by decide +kernel) (by decide +kernel)
set_option maxRecDepth 20000 in
theorem gX7_isDoable_X7_cell : GoodIn wsX7_isDoable (wsV RX7 44 RX7 yX7_cell wsX7_cell) := goodIn_app (goodIn_of _ (by decide +kernel)) ggX7_isDoable_X7_cell
set_option maxRecDepth 20000 in
theorem ggX7_isDoable_X7_someoneCan : GoodIn wsX7_isDoable wsX7_someoneCan := goodIn_r _ [14, 15, 16, 17, 18, 4, 19, 20, 21, 22, 23, 24, 25, 26, 27, 28, 29] (by decide +kernel) (by decide +kernel)
set_option maxRecDepth 20000 in
theorem gX7_isDoable_X7_someoneCan : GoodIn wsX7_isDoable (wsV RX7 52 RX7 yX7_someoneCan wsX7_someoneCan) := goodIn_app (goodIn_of _ (by decide +kernel)) ggX7_isDoable_X7_someoneCan
theorem dX7_isDoable_0 : decode cX7_isDoable 0 = .ok (.aload_n 0, 1) := by decide +kernel
theorem dX7_isDoable_1 : decode cX7_isDoable 1 = .ok (.iload_n 1, 1) := by decide +kernel
theorem dX7_isDoable_2 : decode cX7_isDoable 2 = .ok (.iload_n 2, 1) := by decide +kernel
theorem dX7_isDoable_3 : decode cX7_isDoable 3 = .ok (.invokevirtual 48, 3) := by decide +kernel
theorem dX7_isDoable_6 : decode cX7_isDoable 6 = .ok (.ifCond .eq 17, 3) := by decide +kernel
theorem dX7_isDoable_9 : decode cX7_isDoable 9 = .ok (.aload_n 0, 1) := by decide +kernel
theorem dX7_isDoable_10 : decode cX7_isDoable 10 = .ok (.aload_n 0, 1) := by decide +kernel
theorem dX7_isDoable_11 : decode cX7_isDoable 11 = .ok (.iload_n 1, 1) := by decide +kernel
theorem dX7_isDoable_12 : decode cX7_isDoable 12 = .ok (.iload_n 2, 1) := by decide +kernel
theorem dX7_isDoable_13 : decode cX7_isDoable 13 = .ok (.iconst 1, 1) := by decide +kernel
theorem dX7_isDoable_14 : decode cX7_isDoable 14 = .ok (.invokevirtual 44, 3) := by decide +kernel
theorem dX7_isDoable_17 : decode cX7_isDoable 17 = .ok (.invokevirtual 52, 3) := by decide +kernel
theorem dX7_isDoable_20 : decode cX7_isDoable 20 = .ok (.ifCond .eq 7, 3) := by decide +kernel
theorem dX7_isDoable_23 : decode cX7_isDoable 23 = .ok (.iconst 1, 1) := by decide +kernel
theorem dX7_isDoable_24 : decode cX7_isDoable 24 = .ok (.goto 4, 3) := by decide +kernel
theorem dX7_isDoable_27 : decode cX7_isDoable 27 = .ok (.iconst 0, 1) := by decide +kernel
theorem dX7_isDoable_28 : decode cX7_isDoable 28 = .ok (.ireturn, 1) := by decide +kernel
set_option maxRecDepth 20000 in
theorem ggX7_nextOf_X7_cell : GoodIn wsX7_nextOf wsX7_cell := goodIn_r _ [5, 6, 7, 8, 9, 10, 11, 12, 13, 14, 15] (by decide +kernel) (by decide +kernel)
set_option maxRecDepth 20000 in
theorem gX7_nextOf_X7_cell : GoodIn wsX7_nextOf (wsV RX7 44 RX7 yX7_cell wsX7_cell) := goodIn_app (goodIn_of _ (by decide +kernel)) ggX7_nextOf_X7_cell
theorem dX7_nextOf_0 : decode cX7_nextOf 0 = .ok (.aload_n 0, 1) := by decide +kernel
theorem dX7_nextOf_1 : decode cX7_nextOf 1 = .ok (.iload_n 1, 1) := by decide +kernel
theorem dX7_nextOf_2 : decode cX7_nextOf 2 = .ok (.iload_n 2, 1) := by decide +kernel
theorem dX7_nextOf_3 : decode cX7_nextOf 3 = .ok (.iconst 0, 1) := by decide +kernel
theorem dX7_nextOf_4 : decode cX7_nextOf 4 = .ok (.invokevirtual 44, 3) := by decide +kernel
theorem dX7_nextOf_7 : decode cX7_nextOf 7 = .ok (.istore_n 3, 1) := by decide +kernel
theorem dX7_nextOf_8 : decode cX7_nextOf 8 = .ok (.iload_n 3, 1) := by decide +kernel
theorem dX7_nextOf_9 : decode cX7_nextOf 9 = .ok (.iconst 5, 1) := by decide +kernel
theorem dX7_nextOf_10 : decode cX7_nextOf 10 = .ok (.if_icmp .ne 5, 3) := by decide +kernel
theorem dX7_nextOf_13 : decode cX7_nextOf 13 = .ok (.iconst 0, 1) := by decide +kernel
theorem dX7_nextOf_14 : decode cX7_nextOf 14 = .ok (.ireturn, 1) := by decide +kernel
theorem dX7_nextOf_15 : decode cX7_nextOf 15 = .ok (.iload_n 3, 1) := by decide +kernel
theorem dX7_nextOf_16 : decode cX7_nextOf 16 = .ok (.iconst 4, 1) := by decide +kernel
theorem dX7_nextOf_17 : decode cX7_nextOf 17 = .ok (.if_icmp .ne 13, 3) := by decide +kernel
theorem dX7_nextOf_20 : decode cX7_nextOf 20 = .ok (.iconst 1, 1) := by decide +kernel
theorem dX7_nextOf_21 : decode cX7_nextOf 21 = .ok (.aload_n 0, 1) := by decide +kernel
