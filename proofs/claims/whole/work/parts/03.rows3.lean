theorem dX8_mends_148 : decode cX8_mends 148 = .ok (.invokevirtual 251, 3) := by decide +kernel
theorem dX8_mends_151 : decode cX8_mends 151 = .ok (.iinc 1 1, 3) := by decide +kernel
theorem dX8_mends_154 : decode cX8_mends 154 = .ok (.goto (-72), 3) := by decide +kernel
theorem dX8_mends_157 : decode cX8_mends 157 = .ok (.iconst 0, 1) := by decide +kernel
theorem dX8_mends_158 : decode cX8_mends 158 = .ok (.istore_n 1, 1) := by decide +kernel
theorem dX8_mends_159 : decode cX8_mends 159 = .ok (.iload_n 1, 1) := by decide +kernel
theorem dX8_mends_160 : decode cX8_mends 160 = .ok (.aload_n 0, 1) := by decide +kernel
theorem dX8_mends_161 : decode cX8_mends 161 = .ok (.getfield 12, 3) := by decide +kernel
theorem dX8_mends_164 : decode cX8_mends 164 = .ok (.getfield 104, 3) := by decide +kernel
theorem dX8_mends_167 : decode cX8_mends 167 = .ok (.if_icmp .ge 14, 3) := by decide +kernel
theorem dX8_mends_170 : decode cX8_mends 170 = .ok (.aload_n 0, 1) := by decide +kernel
theorem dX8_mends_171 : decode cX8_mends 171 = .ok (.iload_n 1, 1) := by decide +kernel
theorem dX8_mends_172 : decode cX8_mends 172 = .ok (.invokevirtual 254, 3) := by decide +kernel
theorem dX8_mends_175 : decode cX8_mends 175 = .ok (.iinc 1 1, 3) := by decide +kernel
theorem dX8_mends_178 : decode cX8_mends 178 = .ok (.goto (-19), 3) := by decide +kernel
theorem dX8_mends_181 : decode cX8_mends 181 = .ok (.aload_n 0, 1) := by decide +kernel
theorem dX8_mends_182 : decode cX8_mends 182 = .ok (.aload_n 0, 1) := by decide +kernel
theorem dX8_mends_183 : decode cX8_mends 183 = .ok (.getfield 65, 3) := by decide +kernel
theorem dX8_mends_186 : decode cX8_mends 186 = .ok (.getfield 257, 3) := by decide +kernel
theorem dX8_mends_189 : decode cX8_mends 189 = .ok (.invokevirtual 91, 3) := by decide +kernel
theorem dX8_mends_192 : decode cX8_mends 192 = .ok (.ireturn, 1) := by decide +kernel
set_option maxRecDepth 20000 in
theorem ggX8_mend_X1_about : GoodIn wsX8_mend wsX1_about := goodIn_r _ [6, 7, 8, 9, 23, 24, 25, 26] (by decide +kernel) (by decide +kernel)
set_option maxRecDepth 20000 in
theorem gX8_mend_X1_about : GoodIn wsX8_mend (wsV RX8 260 RX1 yX1_about wsX1_about) := goodIn_app (goodIn_of _ (by decide +kernel)) ggX8_mend_X1_about
theorem dX8_mend_0 : decode cX8_mend 0 = .ok (.aload_n 0, 1) := by decide +kernel
theorem dX8_mend_1 : decode cX8_mend 1 = .ok (.getfield 65, 3) := by decide +kernel
theorem dX8_mend_4 : decode cX8_mend 4 = .ok (.iload_n 1, 1) := by decide +kernel
theorem dX8_mend_5 : decode cX8_mend 5 = .ok (.invokevirtual 260, 3) := by decide +kernel
theorem dX8_mend_8 : decode cX8_mend 8 = .ok (.ireturn, 1) := by decide +kernel
set_option maxRecDepth 20000 in
theorem ggX8_nights_X7_hasBook : GoodIn wsX8_nights wsX7_hasBook := goodIn_r _ [13, 14, 136, 137, 138, 139, 140, 141, 142, 143, 144] (by decide +kernel) (by decide +kernel)
set_option maxRecDepth 20000 in
theorem gX8_nights_X7_hasBook : GoodIn wsX8_nights (wsV RX8 137 RX7 yX7_hasBook wsX7_hasBook) := goodIn_app (goodIn_of _ (by decide +kernel)) ggX8_nights_X7_hasBook
set_option maxRecDepth 20000 in
theorem ggX8_nights_X8_refuse : GoodIn wsX8_nights wsX8_refuse := goodIn_r _ [19, 20, 111, 112, 113, 114, 115, 116, 117, 118, 119, 120, 121, 122, 123] (by decide +kernel) (by decide +kernel)
set_option maxRecDepth 20000 in
theorem gX8_nights_X8_refuse : GoodIn wsX8_nights (wsV RX8 87 RX8 yX8_refuse wsX8_refuse) := goodIn_app (goodIn_of _ (by decide +kernel)) ggX8_nights_X8_refuse
set_option maxRecDepth 20000 in
theorem ggX8_nights_X8_areBits : GoodIn wsX8_nights wsX8_areBits := goodIn_r _ [23] (by decide +kernel) (by decide +kernel)
set_option maxRecDepth 20000 in
theorem gX8_nights_X8_areBits : GoodIn wsX8_nights (va_wsS RX8 100 yX8_areBits wsX8_areBits) := goodIn_app (goodIn_of _ (by decide +kernel)) ggX8_nights_X8_areBits
set_option maxRecDepth 20000 in
theorem ggX8_nights_X6_start : GoodIn wsX8_nights wsX6_start := goodIn_r _ [28, 29, 30, 31, 32, 33, 34, 35, 36, 37, 38, 39, 40, 41, 42, 43, 44, 45, 46, 12, 47, 48, 124, 125, 126, 127, 128, 129, 130, 131, 132, 133, 134, 135, 136, 137, 138, 139, 140, 141, 142, 143, 144] (by decide +kernel) (by decide +kernel)
set_option maxRecDepth 20000 in
theorem gX8_nights_X6_start : GoodIn wsX8_nights (wsV RX8 151 RX6 yX6_start wsX6_start) := goodIn_app (goodIn_of _ (by decide +kernel)) ggX8_nights_X6_start
set_option maxRecDepth 20000 in
theorem ggX8_nights_X3_rest : GoodIn wsX8_nights wsX3_rest := goodIn_r _ [53, 54, 55, 56, 42, 57, 145] (by decide +kernel) (by decide +kernel)
set_option maxRecDepth 20000 in
theorem gX8_nights_X3_rest : GoodIn wsX8_nights (wsV RX8 155 RX3 yX3_rest wsX3_rest) := goodIn_app (goodIn_of _ (by decide +kernel)) ggX8_nights_X3_rest
set_option maxRecDepth 20000 in
theorem ggX8_nights_X6_goOn : GoodIn wsX8_nights wsX6_goOn := goodIn_r _ [61, 39, 36, 35, 30, 34, 62, 63, 64, 27, 65, 31, 32, 66, 67, 68, 12, 69, 70, 71, 72, 73, 74, 75, 76, 77, 78, 79, 38, 80, 29, 81, 82, 83, 84, 85, 86, 87, 88, 89, 90, 91, 92, 93, 94, 33, 37, 95, 96, 97, 52, 98, 54, 99, 100, 101, 102, 103, 104, 105, 106, 124, 125, 126, 127, 128, 129, 130, 131, 132, 133, 134, 135, 136, 137, 138, 139, 140, 141, 142, 143, 144, 145] (by decide +kernel) (by decide +kernel)
set_option maxRecDepth 20000 in
theorem gX8_nights_X6_goOn : GoodIn wsX8_nights (wsV RX8 158 RX6 yX6_goOn wsX6_goOn) := goodIn_app (goodIn_of _ (by decide +kernel)) ggX8_nights_X6_goOn
set_option maxRecDepth 20000 in
theorem ggX8_nights_X8_accept : GoodIn wsX8_nights wsX8_accept := goodIn_r _ [110, 20, 111, 112, 113, 114, 115, 116, 117, 118, 119, 120, 121, 122, 123] (by decide +kernel) (by decide +kernel)
set_option maxRecDepth 20000 in
theorem gX8_nights_X8_accept : GoodIn wsX8_nights (wsV RX8 91 RX8 yX8_accept wsX8_accept) := goodIn_app (goodIn_of _ (by decide +kernel)) ggX8_nights_X8_accept
theorem dX8_nights_0 : decode cX8_nights 0 = .ok (.aload_n 0, 1) := by decide +kernel
theorem dX8_nights_1 : decode cX8_nights 1 = .ok (.getfield 12, 3) := by decide +kernel
theorem dX8_nights_4 : decode cX8_nights 4 = .ok (.iload_n 1, 1) := by decide +kernel
theorem dX8_nights_5 : decode cX8_nights 5 = .ok (.invokevirtual 137, 3) := by decide +kernel
theorem dX8_nights_8 : decode cX8_nights 8 = .ok (.ifCond .eq 15, 3) := by decide +kernel
theorem dX8_nights_11 : decode cX8_nights 11 = .ok (.aload_n 0, 1) := by decide +kernel
theorem dX8_nights_12 : decode cX8_nights 12 = .ok (.getfield 12, 3) := by decide +kernel
theorem dX8_nights_15 : decode cX8_nights 15 = .ok (.iload 4, 2) := by decide +kernel
theorem dX8_nights_17 : decode cX8_nights 17 = .ok (.invokevirtual 137, 3) := by decide +kernel
theorem dX8_nights_20 : decode cX8_nights 20 = .ok (.ifCond .ne 9, 3) := by decide +kernel
theorem dX8_nights_23 : decode cX8_nights 23 = .ok (.aload_n 0, 1) := by decide +kernel
theorem dX8_nights_24 : decode cX8_nights 24 = .ok (.iconst 1, 1) := by decide +kernel
theorem dX8_nights_25 : decode cX8_nights 25 = .ok (.invokevirtual 87, 3) := by decide +kernel
theorem dX8_nights_28 : decode cX8_nights 28 = .ok (.ireturn, 1) := by decide +kernel
theorem dX8_nights_29 : decode cX8_nights 29 = .ok (.iload_n 2, 1) := by decide +kernel
theorem dX8_nights_30 : decode cX8_nights 30 = .ok (.invokestatic 100, 3) := by decide +kernel
theorem dX8_nights_33 : decode cX8_nights 33 = .ok (.ifCond .eq 34, 3) := by decide +kernel
theorem dX8_nights_36 : decode cX8_nights 36 = .ok (.iload_n 3, 1) := by decide +kernel
theorem dX8_nights_37 : decode cX8_nights 37 = .ok (.invokestatic 100, 3) := by decide +kernel
theorem dX8_nights_40 : decode cX8_nights 40 = .ok (.ifCond .eq 27, 3) := by decide +kernel
theorem dX8_nights_43 : decode cX8_nights 43 = .ok (.iload 5, 2) := by decide +kernel
theorem dX8_nights_45 : decode cX8_nights 45 = .ok (.invokestatic 100, 3) := by decide +kernel
theorem dX8_nights_48 : decode cX8_nights 48 = .ok (.ifCond .eq 19, 3) := by decide +kernel
theorem dX8_nights_51 : decode cX8_nights 51 = .ok (.iload 6, 2) := by decide +kernel
theorem dX8_nights_53 : decode cX8_nights 53 = .ok (.invokestatic 100, 3) := by decide +kernel
theorem dX8_nights_56 : decode cX8_nights 56 = .ok (.ifCond .eq 11, 3) := by decide +kernel
theorem dX8_nights_59 : decode cX8_nights 59 = .ok (.iload 7, 2) := by decide +kernel
theorem dX8_nights_61 : decode cX8_nights 61 = .ok (.invokestatic 100, 3) := by decide +kernel
theorem dX8_nights_64 : decode cX8_nights 64 = .ok (.ifCond .ne 9, 3) := by decide +kernel
theorem dX8_nights_67 : decode cX8_nights 67 = .ok (.aload_n 0, 1) := by decide +kernel
theorem dX8_nights_68 : decode cX8_nights 68 = .ok (.iconst 2, 1) := by decide +kernel
theorem dX8_nights_69 : decode cX8_nights 69 = .ok (.invokevirtual 87, 3) := by decide +kernel
theorem dX8_nights_72 : decode cX8_nights 72 = .ok (.ireturn, 1) := by decide +kernel
theorem dX8_nights_73 : decode cX8_nights 73 = .ok (.aload_n 0, 1) := by decide +kernel
theorem dX8_nights_74 : decode cX8_nights 74 = .ok (.getfield 42, 3) := by decide +kernel
theorem dX8_nights_77 : decode cX8_nights 77 = .ok (.aload_n 0, 1) := by decide +kernel
theorem dX8_nights_78 : decode cX8_nights 78 = .ok (.getfield 12, 3) := by decide +kernel
theorem dX8_nights_81 : decode cX8_nights 81 = .ok (.iload_n 1, 1) := by decide +kernel
theorem dX8_nights_82 : decode cX8_nights 82 = .ok (.iload_n 2, 1) := by decide +kernel
theorem dX8_nights_83 : decode cX8_nights 83 = .ok (.iload_n 3, 1) := by decide +kernel
theorem dX8_nights_84 : decode cX8_nights 84 = .ok (.iload 7, 2) := by decide +kernel
theorem dX8_nights_86 : decode cX8_nights 86 = .ok (.invokevirtual 151, 3) := by decide +kernel
theorem dX8_nights_89 : decode cX8_nights 89 = .ok (.aload_n 0, 1) := by decide +kernel
theorem dX8_nights_90 : decode cX8_nights 90 = .ok (.getfield 45, 3) := by decide +kernel
theorem dX8_nights_93 : decode cX8_nights 93 = .ok (.aload_n 0, 1) := by decide +kernel
theorem dX8_nights_94 : decode cX8_nights 94 = .ok (.getfield 12, 3) := by decide +kernel
theorem dX8_nights_97 : decode cX8_nights 97 = .ok (.iload 4, 2) := by decide +kernel
theorem dX8_nights_99 : decode cX8_nights 99 = .ok (.iload 5, 2) := by decide +kernel
theorem dX8_nights_101 : decode cX8_nights 101 = .ok (.iload 6, 2) := by decide +kernel
theorem dX8_nights_103 : decode cX8_nights 103 = .ok (.iload 7, 2) := by decide +kernel
theorem dX8_nights_105 : decode cX8_nights 105 = .ok (.invokevirtual 151, 3) := by decide +kernel
theorem dX8_nights_108 : decode cX8_nights 108 = .ok (.aload_n 0, 1) := by decide +kernel
theorem dX8_nights_109 : decode cX8_nights 109 = .ok (.getfield 26, 3) := by decide +kernel
theorem dX8_nights_112 : decode cX8_nights 112 = .ok (.invokevirtual 155, 3) := by decide +kernel
theorem dX8_nights_115 : decode cX8_nights 115 = .ok (.iconst 0, 1) := by decide +kernel
theorem dX8_nights_116 : decode cX8_nights 116 = .ok (.istore 8, 2) := by decide +kernel
theorem dX8_nights_118 : decode cX8_nights 118 = .ok (.iload 8, 2) := by decide +kernel
theorem dX8_nights_120 : decode cX8_nights 120 = .ok (.sipush 5240, 3) := by decide +kernel
theorem dX8_nights_123 : decode cX8_nights 123 = .ok (.if_icmp .gt 65, 3) := by decide +kernel
theorem dX8_nights_126 : decode cX8_nights 126 = .ok (.aload_n 0, 1) := by decide +kernel
theorem dX8_nights_127 : decode cX8_nights 127 = .ok (.getfield 42, 3) := by decide +kernel
theorem dX8_nights_130 : decode cX8_nights 130 = .ok (.getfield 162, 3) := by decide +kernel
theorem dX8_nights_133 : decode cX8_nights 133 = .ok (.iconst (-1), 1) := by decide +kernel
theorem dX8_nights_134 : decode cX8_nights 134 = .ok (.if_icmp .eq 14, 3) := by decide +kernel
theorem dX8_nights_137 : decode cX8_nights 137 = .ok (.aload_n 0, 1) := by decide +kernel
theorem dX8_nights_138 : decode cX8_nights 138 = .ok (.getfield 45, 3) := by decide +kernel
theorem dX8_nights_141 : decode cX8_nights 141 = .ok (.getfield 162, 3) := by decide +kernel
theorem dX8_nights_144 : decode cX8_nights 144 = .ok (.iconst (-1), 1) := by decide +kernel
theorem dX8_nights_145 : decode cX8_nights 145 = .ok (.if_icmp .ne 43, 3) := by decide +kernel
theorem dX8_nights_148 : decode cX8_nights 148 = .ok (.aload_n 0, 1) := by decide +kernel
theorem dX8_nights_149 : decode cX8_nights 149 = .ok (.getfield 42, 3) := by decide +kernel
theorem dX8_nights_152 : decode cX8_nights 152 = .ok (.aload_n 0, 1) := by decide +kernel
theorem dX8_nights_153 : decode cX8_nights 153 = .ok (.getfield 12, 3) := by decide +kernel
theorem dX8_nights_156 : decode cX8_nights 156 = .ok (.aload_n 0, 1) := by decide +kernel
theorem dX8_nights_157 : decode cX8_nights 157 = .ok (.getfield 26, 3) := by decide +kernel
theorem dX8_nights_160 : decode cX8_nights 160 = .ok (.iload 8, 2) := by decide +kernel
theorem dX8_nights_162 : decode cX8_nights 162 = .ok (.invokevirtual 158, 3) := by decide +kernel
theorem dX8_nights_165 : decode cX8_nights 165 = .ok (.aload_n 0, 1) := by decide +kernel
theorem dX8_nights_166 : decode cX8_nights 166 = .ok (.getfield 45, 3) := by decide +kernel
theorem dX8_nights_169 : decode cX8_nights 169 = .ok (.aload_n 0, 1) := by decide +kernel
theorem dX8_nights_170 : decode cX8_nights 170 = .ok (.getfield 12, 3) := by decide +kernel
theorem dX8_nights_173 : decode cX8_nights 173 = .ok (.aload_n 0, 1) := by decide +kernel
theorem dX8_nights_174 : decode cX8_nights 174 = .ok (.getfield 26, 3) := by decide +kernel
theorem dX8_nights_177 : decode cX8_nights 177 = .ok (.iload 8, 2) := by decide +kernel
theorem dX8_nights_179 : decode cX8_nights 179 = .ok (.invokevirtual 158, 3) := by decide +kernel
theorem dX8_nights_182 : decode cX8_nights 182 = .ok (.iinc 8 1, 3) := by decide +kernel
theorem dX8_nights_185 : decode cX8_nights 185 = .ok (.goto (-67), 3) := by decide +kernel
theorem dX8_nights_188 : decode cX8_nights 188 = .ok (.aload_n 0, 1) := by decide +kernel
theorem dX8_nights_189 : decode cX8_nights 189 = .ok (.aload_n 0, 1) := by decide +kernel
theorem dX8_nights_190 : decode cX8_nights 190 = .ok (.getfield 42, 3) := by decide +kernel
theorem dX8_nights_193 : decode cX8_nights 193 = .ok (.getfield 199, 3) := by decide +kernel
theorem dX8_nights_196 : decode cX8_nights 196 = .ok (.aload_n 0, 1) := by decide +kernel
theorem dX8_nights_197 : decode cX8_nights 197 = .ok (.getfield 45, 3) := by decide +kernel
theorem dX8_nights_200 : decode cX8_nights 200 = .ok (.getfield 199, 3) := by decide +kernel
theorem dX8_nights_203 : decode cX8_nights 203 = .ok (.invokestatic 261, 3) := by decide +kernel
theorem dX8_nights_206 : decode cX8_nights 206 = .ok (.invokevirtual 91, 3) := by decide +kernel
theorem dX8_nights_209 : decode cX8_nights 209 = .ok (.ireturn, 1) := by decide +kernel
theorem dX8_night_0 : decode cX8_night 0 = .ok (.iload_n 1, 1) := by decide +kernel
theorem dX8_night_1 : decode cX8_night 1 = .ok (.ifCond .eq 10, 3) := by decide +kernel
theorem dX8_night_4 : decode cX8_night 4 = .ok (.aload_n 0, 1) := by decide +kernel
theorem dX8_night_5 : decode cX8_night 5 = .ok (.getfield 45, 3) := by decide +kernel
theorem dX8_night_8 : decode cX8_night 8 = .ok (.goto 7, 3) := by decide +kernel
theorem dX8_night_11 : decode cX8_night 11 = .ok (.aload_n 0, 1) := by decide +kernel
theorem dX8_night_12 : decode cX8_night 12 = .ok (.getfield 42, 3) := by decide +kernel
theorem dX8_night_15 : decode cX8_night 15 = .ok (.astore_n 3, 1) := by decide +kernel
theorem dX8_night_16 : decode cX8_night 16 = .ok (.aload_n 3, 1) := by decide +kernel
theorem dX8_night_17 : decode cX8_night 17 = .ok (.getfield 162, 3) := by decide +kernel
theorem dX8_night_20 : decode cX8_night 20 = .ok (.iconst (-1), 1) := by decide +kernel
theorem dX8_night_21 : decode cX8_night 21 = .ok (.if_icmp .ne 5, 3) := by decide +kernel
theorem dX8_night_24 : decode cX8_night 24 = .ok (.iconst (-1), 1) := by decide +kernel
theorem dX8_night_25 : decode cX8_night 25 = .ok (.ireturn, 1) := by decide +kernel
theorem dX8_night_26 : decode cX8_night 26 = .ok (.iload_n 2, 1) := by decide +kernel
theorem dX8_night_27 : decode cX8_night 27 = .ok (.ifCond .ne 10, 3) := by decide +kernel
theorem dX8_night_30 : decode cX8_night 30 = .ok (.aload_n 3, 1) := by decide +kernel
theorem dX8_night_31 : decode cX8_night 31 = .ok (.getfield 162, 3) := by decide +kernel
theorem dX8_night_34 : decode cX8_night 34 = .ok (.goto 28, 3) := by decide +kernel
theorem dX8_night_37 : decode cX8_night 37 = .ok (.iload_n 2, 1) := by decide +kernel
theorem dX8_night_38 : decode cX8_night 38 = .ok (.iconst 1, 1) := by decide +kernel
theorem dX8_night_39 : decode cX8_night 39 = .ok (.if_icmp .ne 10, 3) := by decide +kernel
theorem dX8_night_42 : decode cX8_night 42 = .ok (.aload_n 3, 1) := by decide +kernel
theorem dX8_night_43 : decode cX8_night 43 = .ok (.getfield 199, 3) := by decide +kernel
theorem dX8_night_46 : decode cX8_night 46 = .ok (.goto 16, 3) := by decide +kernel
theorem dX8_night_49 : decode cX8_night 49 = .ok (.iload_n 2, 1) := by decide +kernel
theorem dX8_night_50 : decode cX8_night 50 = .ok (.iconst 2, 1) := by decide +kernel
theorem dX8_night_51 : decode cX8_night 51 = .ok (.if_icmp .ne 10, 3) := by decide +kernel
theorem dX8_night_54 : decode cX8_night 54 = .ok (.aload_n 3, 1) := by decide +kernel
theorem dX8_night_55 : decode cX8_night 55 = .ok (.getfield 266, 3) := by decide +kernel
theorem dX8_night_58 : decode cX8_night 58 = .ok (.goto 4, 3) := by decide +kernel
theorem dX8_night_61 : decode cX8_night 61 = .ok (.iconst (-1), 1) := by decide +kernel
theorem dX8_night_62 : decode cX8_night 62 = .ok (.ireturn, 1) := by decide +kernel
set_option maxRecDepth 20000 in
theorem ggX8_log_X8_refuse : GoodIn wsX8_log wsX8_refuse := goodIn_r _ [6, 7, 23, 24, 25, 26, 27, 28, 29, 30, 31, 32, 33, 34, 35] (by decide +kernel) (by decide +kernel)
set_option maxRecDepth 20000 in
theorem gX8_log_X8_refuse : GoodIn wsX8_log (wsV RX8 87 RX8 yX8_refuse wsX8_refuse) := goodIn_app (goodIn_of _ (by decide +kernel)) ggX8_log_X8_refuse
set_option maxRecDepth 20000 in
theorem ggX8_log_X2_isFull : GoodIn wsX8_log wsX2_isFull := goodIn_r _ [12, 13, 14, 36, 37, 38, 39, 40] (by decide +kernel) (by decide +kernel)
set_option maxRecDepth 20000 in
theorem gX8_log_X2_isFull : GoodIn wsX8_log (wsV RX8 269 RX2 yX2_isFull wsX2_isFull) := goodIn_app (goodIn_of _ (by decide +kernel)) ggX8_log_X2_isFull
set_option maxRecDepth 20000 in
theorem ggX8_log_X2_write : GoodIn wsX8_log wsX2_write := goodIn_r _ [18, 13, 14, 36, 37, 38, 39, 40] (by decide +kernel) (by decide +kernel)
set_option maxRecDepth 20000 in
theorem gX8_log_X2_write : GoodIn wsX8_log (wsV RX8 272 RX2 yX2_write wsX2_write) := goodIn_app (goodIn_of _ (by decide +kernel)) ggX8_log_X2_write
set_option maxRecDepth 20000 in
theorem ggX8_log_X8_accept : GoodIn wsX8_log wsX8_accept := goodIn_r _ [22, 7, 23, 24, 25, 26, 27, 28, 29, 30, 31, 32, 33, 34, 35] (by decide +kernel) (by decide +kernel)
set_option maxRecDepth 20000 in
theorem gX8_log_X8_accept : GoodIn wsX8_log (wsV RX8 91 RX8 yX8_accept wsX8_accept) := goodIn_app (goodIn_of _ (by decide +kernel)) ggX8_log_X8_accept
theorem dX8_log_0 : decode cX8_log 0 = .ok (.iload_n 1, 1) := by decide +kernel
theorem dX8_log_1 : decode cX8_log 1 = .ok (.ifCond .lt 9, 3) := by decide +kernel
theorem dX8_log_4 : decode cX8_log 4 = .ok (.iload_n 1, 1) := by decide +kernel
theorem dX8_log_5 : decode cX8_log 5 = .ok (.bipush 24, 2) := by decide +kernel
theorem dX8_log_7 : decode cX8_log 7 = .ok (.if_icmp .lt 9, 3) := by decide +kernel
theorem dX8_log_10 : decode cX8_log 10 = .ok (.aload_n 0, 1) := by decide +kernel
theorem dX8_log_11 : decode cX8_log 11 = .ok (.iconst 2, 1) := by decide +kernel
theorem dX8_log_12 : decode cX8_log 12 = .ok (.invokevirtual 87, 3) := by decide +kernel
theorem dX8_log_15 : decode cX8_log 15 = .ok (.ireturn, 1) := by decide +kernel
theorem dX8_log_16 : decode cX8_log 16 = .ok (.aload_n 0, 1) := by decide +kernel
theorem dX8_log_17 : decode cX8_log 17 = .ok (.getfield 72, 3) := by decide +kernel
theorem dX8_log_20 : decode cX8_log 20 = .ok (.invokevirtual 269, 3) := by decide +kernel
theorem dX8_log_23 : decode cX8_log 23 = .ok (.ifCond .eq 9, 3) := by decide +kernel
theorem dX8_log_26 : decode cX8_log 26 = .ok (.aload_n 0, 1) := by decide +kernel
theorem dX8_log_27 : decode cX8_log 27 = .ok (.iconst 3, 1) := by decide +kernel
theorem dX8_log_28 : decode cX8_log 28 = .ok (.invokevirtual 87, 3) := by decide +kernel
theorem dX8_log_31 : decode cX8_log 31 = .ok (.ireturn, 1) := by decide +kernel
theorem dX8_log_32 : decode cX8_log 32 = .ok (.aload_n 0, 1) := by decide +kernel
theorem dX8_log_33 : decode cX8_log 33 = .ok (.getfield 72, 3) := by decide +kernel
theorem dX8_log_36 : decode cX8_log 36 = .ok (.iload_n 1, 1) := by decide +kernel
theorem dX8_log_37 : decode cX8_log 37 = .ok (.invokevirtual 272, 3) := by decide +kernel
theorem dX8_log_40 : decode cX8_log 40 = .ok (.aload_n 0, 1) := by decide +kernel
theorem dX8_log_41 : decode cX8_log 41 = .ok (.aload_n 0, 1) := by decide +kernel
theorem dX8_log_42 : decode cX8_log 42 = .ok (.getfield 72, 3) := by decide +kernel
theorem dX8_log_45 : decode cX8_log 45 = .ok (.getfield 275, 3) := by decide +kernel
theorem dX8_log_48 : decode cX8_log 48 = .ok (.invokevirtual 91, 3) := by decide +kernel
theorem dX8_log_51 : decode cX8_log 51 = .ok (.ireturn, 1) := by decide +kernel
theorem dX8_clear_0 : decode cX8_clear 0 = .ok (.aload_n 0, 1) := by decide +kernel
theorem dX8_clear_1 : decode cX8_clear 1 = .ok (.getfield 72, 3) := by decide +kernel
theorem dX8_clear_4 : decode cX8_clear 4 = .ok (.getfield 275, 3) := by decide +kernel
theorem dX8_clear_7 : decode cX8_clear 7 = .ok (.istore_n 1, 1) := by decide +kernel
theorem dX8_clear_8 : decode cX8_clear 8 = .ok (.aload_n 0, 1) := by decide +kernel
theorem dX8_clear_9 : decode cX8_clear 9 = .ok (.getfield 72, 3) := by decide +kernel
theorem dX8_clear_12 : decode cX8_clear 12 = .ok (.iconst 0, 1) := by decide +kernel
theorem dX8_clear_13 : decode cX8_clear 13 = .ok (.putfield 275, 3) := by decide +kernel
theorem dX8_clear_16 : decode cX8_clear 16 = .ok (.iload_n 1, 1) := by decide +kernel
theorem dX8_clear_17 : decode cX8_clear 17 = .ok (.ireturn, 1) := by decide +kernel
set_option maxRecDepth 20000 in
theorem ggX8_laid_X8_nothingPlayed : GoodIn wsX8_laid wsX8_nothingPlayed := goodIn_r _ [7, 2, 49, 50, 51, 52, 53, 54, 55, 56, 57, 58, 59, 60, 61, 62, 63, 64, 65, 66, 67, 68, 69, 70, 71, 72, 73] (by decide +kernel) (by decide +kernel)
set_option maxRecDepth 20000 in
theorem gX8_laid_X8_nothingPlayed : GoodIn wsX8_laid (wsV RX8 165 RX8 yX8_nothingPlayed wsX8_nothingPlayed) := goodIn_app (goodIn_of _ (by decide +kernel)) ggX8_laid_X8_nothingPlayed
set_option maxRecDepth 20000 in
theorem ggX8_laid_X8_refuse : GoodIn wsX8_laid wsX8_refuse := goodIn_r _ [11, 12, 49, 50, 51, 52, 53, 54, 55, 56, 57, 58, 59, 60, 61] (by decide +kernel) (by decide +kernel)
set_option maxRecDepth 20000 in
theorem gX8_laid_X8_refuse : GoodIn wsX8_laid (wsV RX8 87 RX8 yX8_refuse wsX8_refuse) := goodIn_app (goodIn_of _ (by decide +kernel)) ggX8_laid_X8_refuse
set_option maxRecDepth 20000 in
theorem ggX8_laid_X2_layBeside : GoodIn wsX8_laid wsX2_layBeside := goodIn_r _ [17, 18, 19, 20, 21, 22, 23, 24, 25, 26, 27, 28, 29, 30, 31, 32, 33, 34, 35, 36, 37, 38, 39, 16, 40, 41, 42, 43, 44, 62, 63, 64, 65, 66, 67, 68, 69, 70, 71, 72, 73, 74, 75, 76, 77, 78] (by decide +kernel) (by decide +kernel)
set_option maxRecDepth 20000 in
theorem gX8_laid_X2_layBeside : GoodIn wsX8_laid (wsV RX8 278 RX2 yX2_layBeside wsX2_layBeside) := goodIn_app (goodIn_of _ (by decide +kernel)) ggX8_laid_X2_layBeside
set_option maxRecDepth 20000 in
theorem ggX8_laid_X8_accept : GoodIn wsX8_laid wsX8_accept := goodIn_r _ [48, 12, 49, 50, 51, 52, 53, 54, 55, 56, 57, 58, 59, 60, 61] (by decide +kernel) (by decide +kernel)
set_option maxRecDepth 20000 in
theorem gX8_laid_X8_accept : GoodIn wsX8_laid (wsV RX8 91 RX8 yX8_accept wsX8_accept) := goodIn_app (goodIn_of _ (by decide +kernel)) ggX8_laid_X8_accept
theorem dX8_laid_0 : decode cX8_laid 0 = .ok (.aload_n 0, 1) := by decide +kernel
theorem dX8_laid_1 : decode cX8_laid 1 = .ok (.invokevirtual 165, 3) := by decide +kernel
theorem dX8_laid_4 : decode cX8_laid 4 = .ok (.ifCond .eq 9, 3) := by decide +kernel
theorem dX8_laid_7 : decode cX8_laid 7 = .ok (.aload_n 0, 1) := by decide +kernel
theorem dX8_laid_8 : decode cX8_laid 8 = .ok (.iconst 5, 1) := by decide +kernel
theorem dX8_laid_9 : decode cX8_laid 9 = .ok (.invokevirtual 87, 3) := by decide +kernel
theorem dX8_laid_12 : decode cX8_laid 12 = .ok (.ireturn, 1) := by decide +kernel
theorem dX8_laid_13 : decode cX8_laid 13 = .ok (.aload_n 0, 1) := by decide +kernel
theorem dX8_laid_14 : decode cX8_laid 14 = .ok (.aload_n 0, 1) := by decide +kernel
theorem dX8_laid_15 : decode cX8_laid 15 = .ok (.getfield 72, 3) := by decide +kernel
theorem dX8_laid_18 : decode cX8_laid 18 = .ok (.aload_n 0, 1) := by decide +kernel
theorem dX8_laid_19 : decode cX8_laid 19 = .ok (.getfield 35, 3) := by decide +kernel
theorem dX8_laid_22 : decode cX8_laid 22 = .ok (.invokevirtual 278, 3) := by decide +kernel
theorem dX8_laid_25 : decode cX8_laid 25 = .ok (.invokevirtual 91, 3) := by decide +kernel
theorem dX8_laid_28 : decode cX8_laid 28 = .ok (.ireturn, 1) := by decide +kernel
theorem dX8_apart_0 : decode cX8_apart 0 = .ok (.iload_n 1, 1) := by decide +kernel
theorem dX8_apart_1 : decode cX8_apart 1 = .ok (.ifCond .eq 13, 3) := by decide +kernel
theorem dX8_apart_4 : decode cX8_apart 4 = .ok (.aload_n 0, 1) := by decide +kernel
theorem dX8_apart_5 : decode cX8_apart 5 = .ok (.getfield 72, 3) := by decide +kernel
theorem dX8_apart_8 : decode cX8_apart 8 = .ok (.getfield 282, 3) := by decide +kernel
theorem dX8_apart_11 : decode cX8_apart 11 = .ok (.goto 10, 3) := by decide +kernel
theorem dX8_apart_14 : decode cX8_apart 14 = .ok (.aload_n 0, 1) := by decide +kernel
theorem dX8_apart_15 : decode cX8_apart 15 = .ok (.getfield 72, 3) := by decide +kernel
theorem dX8_apart_18 : decode cX8_apart 18 = .ok (.getfield 285, 3) := by decide +kernel
theorem dX8_apart_21 : decode cX8_apart 21 = .ok (.ireturn, 1) := by decide +kernel
set_option maxRecDepth 20000 in
theorem ggX8_differ_X7_hasBook : GoodIn wsX8_differ wsX7_hasBook := goodIn_r _ [8, 9, 173, 174, 175, 176, 177, 178, 179, 180, 181] (by decide +kernel) (by decide +kernel)
set_option maxRecDepth 20000 in
theorem gX8_differ_X7_hasBook : GoodIn wsX8_differ (wsV RX8 137 RX7 yX7_hasBook wsX7_hasBook) := goodIn_app (goodIn_of _ (by decide +kernel)) ggX8_differ_X7_hasBook
set_option maxRecDepth 20000 in
theorem ggX8_differ_X8_refuse : GoodIn wsX8_differ wsX8_refuse := goodIn_r _ [14, 15, 160, 161, 162, 163, 164, 165, 166, 167, 168, 169, 170, 171, 172] (by decide +kernel) (by decide +kernel)
set_option maxRecDepth 20000 in
theorem gX8_differ_X8_refuse : GoodIn wsX8_differ (wsV RX8 87 RX8 yX8_refuse wsX8_refuse) := goodIn_app (goodIn_of _ (by decide +kernel)) ggX8_differ_X8_refuse
set_option maxRecDepth 20000 in
theorem ggX8_differ_X8_areBits : GoodIn wsX8_differ wsX8_areBits := goodIn_r _ [18] (by decide +kernel) (by decide +kernel)
set_option maxRecDepth 20000 in
theorem gX8_differ_X8_areBits : GoodIn wsX8_differ (va_wsS RX8 100 yX8_areBits wsX8_areBits) := goodIn_app (goodIn_of _ (by decide +kernel)) ggX8_differ_X8_areBits
set_option maxRecDepth 20000 in
theorem ggX8_differ_X8_areMosts : GoodIn wsX8_differ wsX8_areMosts := goodIn_r _ [21] (by decide +kernel) (by decide +kernel)
set_option maxRecDepth 20000 in
theorem gX8_differ_X8_areMosts : GoodIn wsX8_differ (va_wsS RX8 175 yX8_areMosts wsX8_areMosts) := goodIn_app (goodIn_of _ (by decide +kernel)) ggX8_differ_X8_areMosts
set_option maxRecDepth 20000 in
theorem ggX8_differ_X0_prepare : GoodIn wsX8_differ wsX0_prepare := goodIn_r _ [26, 27, 28, 29, 30, 31, 32, 33, 34, 35, 7, 36, 37, 38, 39, 25, 40, 41, 42, 43, 44, 45, 46, 47, 48, 49, 50, 51, 52, 53, 54, 55, 56, 57, 182, 183, 184, 185, 186, 187, 173, 174, 175, 176, 177, 178, 179, 180, 181] (by decide +kernel) (by decide +kernel)
set_option maxRecDepth 20000 in
theorem gX8_differ_X0_prepare : GoodIn wsX8_differ (wsV RX8 179 RX0 yX0_prepare wsX0_prepare) := goodIn_app (goodIn_of _ (by decide +kernel)) ggX8_differ_X0_prepare
set_option maxRecDepth 20000 in
theorem ggX8_differ_X0_writeTo : GoodIn wsX8_differ wsX0_writeTo := goodIn_r _ [61, 32, 31, 30, 29, 62, 41, 42, 43, 44, 45, 46, 47, 63, 64, 65, 25, 66, 28, 27, 182, 183, 184, 185, 186, 187] (by decide +kernel) (by decide +kernel)
set_option maxRecDepth 20000 in
theorem gX8_differ_X0_writeTo : GoodIn wsX8_differ (wsV RX8 186 RX0 yX0_writeTo wsX0_writeTo) := goodIn_app (goodIn_of _ (by decide +kernel)) ggX8_differ_X0_writeTo
set_option maxRecDepth 20000 in
theorem ggX8_differ_X8_isUnlike : GoodIn wsX8_differ wsX8_isUnlike := goodIn_r _ [70, 71, 72, 73, 74, 13, 75, 1, 76, 77, 78, 79, 80, 81, 82, 83, 84, 85, 86, 87, 88, 89, 90, 91, 92, 93, 94, 95, 96, 97, 34, 35, 7, 36, 37, 98, 99, 100, 101, 102, 103, 104, 105, 106, 107, 108, 109, 110, 111, 112, 113, 114, 115, 116, 117, 118, 119, 120, 121, 122, 123, 124, 125, 126, 127, 128, 129, 130, 131, 132, 133, 134, 135, 136, 137, 138, 139, 140, 141, 142, 143, 144, 145, 146, 147, 148, 149, 150, 151, 152, 153, 154, 155, 160, 161, 162, 163, 164, 165, 166, 167, 168, 169, 170, 171, 172, 188, 189, 190, 191, 192, 193, 194, 195, 196, 197, 198, 199, 173, 174, 175, 176, 177, 178, 179, 180, 181, 200] (by decide +kernel) (by decide +kernel)
set_option maxRecDepth 20000 in
theorem gX8_differ_X8_isUnlike : GoodIn wsX8_differ (wsV RX8 288 RX8 yX8_isUnlike wsX8_isUnlike) := goodIn_app (goodIn_of _ (by decide +kernel)) ggX8_differ_X8_isUnlike
set_option maxRecDepth 20000 in
theorem ggX8_differ_X8_accept : GoodIn wsX8_differ wsX8_accept := goodIn_r _ [159, 15, 160, 161, 162, 163, 164, 165, 166, 167, 168, 169, 170, 171, 172] (by decide +kernel) (by decide +kernel)
set_option maxRecDepth 20000 in
theorem gX8_differ_X8_accept : GoodIn wsX8_differ (wsV RX8 91 RX8 yX8_accept wsX8_accept) := goodIn_app (goodIn_of _ (by decide +kernel)) ggX8_differ_X8_accept
theorem dX8_differ_0 : decode cX8_differ 0 = .ok (.aload_n 0, 1) := by decide +kernel
theorem dX8_differ_1 : decode cX8_differ 1 = .ok (.getfield 12, 3) := by decide +kernel
theorem dX8_differ_4 : decode cX8_differ 4 = .ok (.iload_n 1, 1) := by decide +kernel
theorem dX8_differ_5 : decode cX8_differ 5 = .ok (.invokevirtual 137, 3) := by decide +kernel
theorem dX8_differ_8 : decode cX8_differ 8 = .ok (.ifCond .eq 14, 3) := by decide +kernel
theorem dX8_differ_11 : decode cX8_differ 11 = .ok (.aload_n 0, 1) := by decide +kernel
theorem dX8_differ_12 : decode cX8_differ 12 = .ok (.getfield 12, 3) := by decide +kernel
theorem dX8_differ_15 : decode cX8_differ 15 = .ok (.iload_n 2, 1) := by decide +kernel
theorem dX8_differ_16 : decode cX8_differ 16 = .ok (.invokevirtual 137, 3) := by decide +kernel
theorem dX8_differ_19 : decode cX8_differ 19 = .ok (.ifCond .ne 9, 3) := by decide +kernel
theorem dX8_differ_22 : decode cX8_differ 22 = .ok (.aload_n 0, 1) := by decide +kernel
theorem dX8_differ_23 : decode cX8_differ 23 = .ok (.iconst 1, 1) := by decide +kernel
theorem dX8_differ_24 : decode cX8_differ 24 = .ok (.invokevirtual 87, 3) := by decide +kernel
theorem dX8_differ_27 : decode cX8_differ 27 = .ok (.ireturn, 1) := by decide +kernel
theorem dX8_differ_28 : decode cX8_differ 28 = .ok (.iload_n 3, 1) := by decide +kernel
theorem dX8_differ_29 : decode cX8_differ 29 = .ok (.invokestatic 100, 3) := by decide +kernel
theorem dX8_differ_32 : decode cX8_differ 32 = .ok (.ifCond .eq 15, 3) := by decide +kernel
theorem dX8_differ_35 : decode cX8_differ 35 = .ok (.iload 4, 2) := by decide +kernel
theorem dX8_differ_37 : decode cX8_differ 37 = .ok (.iload 5, 2) := by decide +kernel
theorem dX8_differ_39 : decode cX8_differ 39 = .ok (.iload 6, 2) := by decide +kernel
theorem dX8_differ_41 : decode cX8_differ 41 = .ok (.invokestatic 175, 3) := by decide +kernel
theorem dX8_differ_44 : decode cX8_differ 44 = .ok (.ifCond .ne 9, 3) := by decide +kernel
theorem dX8_differ_47 : decode cX8_differ 47 = .ok (.aload_n 0, 1) := by decide +kernel
theorem dX8_differ_48 : decode cX8_differ 48 = .ok (.iconst 2, 1) := by decide +kernel
theorem dX8_differ_49 : decode cX8_differ 49 = .ok (.invokevirtual 87, 3) := by decide +kernel
theorem dX8_differ_52 : decode cX8_differ 52 = .ok (.ireturn, 1) := by decide +kernel
theorem dX8_differ_53 : decode cX8_differ 53 = .ok (.aload_n 0, 1) := by decide +kernel
theorem dX8_differ_54 : decode cX8_differ 54 = .ok (.getfield 51, 3) := by decide +kernel
theorem dX8_differ_57 : decode cX8_differ 57 = .ok (.aload_n 0, 1) := by decide +kernel
theorem dX8_differ_58 : decode cX8_differ 58 = .ok (.getfield 12, 3) := by decide +kernel
theorem dX8_differ_61 : decode cX8_differ 61 = .ok (.iload_n 3, 1) := by decide +kernel
theorem dX8_differ_62 : decode cX8_differ 62 = .ok (.iload 4, 2) := by decide +kernel
theorem dX8_differ_64 : decode cX8_differ 64 = .ok (.iload 5, 2) := by decide +kernel
theorem dX8_differ_66 : decode cX8_differ 66 = .ok (.iload 6, 2) := by decide +kernel
theorem dX8_differ_68 : decode cX8_differ 68 = .ok (.invokevirtual 179, 3) := by decide +kernel
theorem dX8_differ_71 : decode cX8_differ 71 = .ok (.istore 7, 2) := by decide +kernel
theorem dX8_differ_73 : decode cX8_differ 73 = .ok (.iload 7, 2) := by decide +kernel
theorem dX8_differ_75 : decode cX8_differ 75 = .ok (.sipush 500, 3) := by decide +kernel
theorem dX8_differ_78 : decode cX8_differ 78 = .ok (.if_icmp .le 9, 3) := by decide +kernel
theorem dX8_differ_81 : decode cX8_differ 81 = .ok (.aload_n 0, 1) := by decide +kernel
theorem dX8_differ_82 : decode cX8_differ 82 = .ok (.iconst 3, 1) := by decide +kernel
theorem dX8_differ_83 : decode cX8_differ 83 = .ok (.invokevirtual 87, 3) := by decide +kernel
theorem dX8_differ_86 : decode cX8_differ 86 = .ok (.ireturn, 1) := by decide +kernel
theorem dX8_differ_87 : decode cX8_differ 87 = .ok (.aload_n 0, 1) := by decide +kernel
theorem dX8_differ_88 : decode cX8_differ 88 = .ok (.getfield 51, 3) := by decide +kernel
theorem dX8_differ_91 : decode cX8_differ 91 = .ok (.aload_n 0, 1) := by decide +kernel
theorem dX8_differ_92 : decode cX8_differ 92 = .ok (.getfield 76, 3) := by decide +kernel
theorem dX8_differ_95 : decode cX8_differ 95 = .ok (.invokevirtual 186, 3) := by decide +kernel
theorem dX8_differ_98 : decode cX8_differ 98 = .ok (.iconst 0, 1) := by decide +kernel
theorem dX8_differ_99 : decode cX8_differ 99 = .ok (.istore 8, 2) := by decide +kernel
theorem dX8_differ_101 : decode cX8_differ 101 = .ok (.iconst 0, 1) := by decide +kernel
theorem dX8_differ_102 : decode cX8_differ 102 = .ok (.istore 9, 2) := by decide +kernel
theorem dX8_differ_104 : decode cX8_differ 104 = .ok (.iload 9, 2) := by decide +kernel
theorem dX8_differ_106 : decode cX8_differ 106 = .ok (.iload 7, 2) := by decide +kernel
theorem dX8_differ_108 : decode cX8_differ 108 = .ok (.if_icmp .ge 38, 3) := by decide +kernel
theorem dX8_differ_111 : decode cX8_differ 111 = .ok (.iload 9, 2) := by decide +kernel
theorem dX8_differ_113 : decode cX8_differ 113 = .ok (.aload_n 0, 1) := by decide +kernel
theorem dX8_differ_114 : decode cX8_differ 114 = .ok (.getfield 76, 3) := by decide +kernel
theorem dX8_differ_117 : decode cX8_differ 117 = .ok (.arraylength, 1) := by decide +kernel
theorem dX8_differ_118 : decode cX8_differ 118 = .ok (.if_icmp .ge 28, 3) := by decide +kernel
theorem dX8_differ_121 : decode cX8_differ 121 = .ok (.aload_n 0, 1) := by decide +kernel
theorem dX8_differ_122 : decode cX8_differ 122 = .ok (.iload_n 1, 1) := by decide +kernel
theorem dX8_differ_123 : decode cX8_differ 123 = .ok (.iload_n 2, 1) := by decide +kernel
theorem dX8_differ_124 : decode cX8_differ 124 = .ok (.aload_n 0, 1) := by decide +kernel
theorem dX8_differ_125 : decode cX8_differ 125 = .ok (.getfield 76, 3) := by decide +kernel
theorem dX8_differ_128 : decode cX8_differ 128 = .ok (.iload 9, 2) := by decide +kernel
theorem dX8_differ_130 : decode cX8_differ 130 = .ok (.iaload, 1) := by decide +kernel
theorem dX8_differ_131 : decode cX8_differ 131 = .ok (.invokevirtual 288, 3) := by decide +kernel
theorem dX8_differ_134 : decode cX8_differ 134 = .ok (.ifCond .eq 6, 3) := by decide +kernel
theorem dX8_differ_137 : decode cX8_differ 137 = .ok (.iinc 8 1, 3) := by decide +kernel
theorem dX8_differ_140 : decode cX8_differ 140 = .ok (.iinc 9 1, 3) := by decide +kernel
theorem dX8_differ_143 : decode cX8_differ 143 = .ok (.goto (-39), 3) := by decide +kernel
theorem dX8_differ_146 : decode cX8_differ 146 = .ok (.aload_n 0, 1) := by decide +kernel
theorem dX8_differ_147 : decode cX8_differ 147 = .ok (.iload 8, 2) := by decide +kernel
theorem dX8_differ_149 : decode cX8_differ 149 = .ok (.invokevirtual 91, 3) := by decide +kernel
theorem dX8_differ_152 : decode cX8_differ 152 = .ok (.ireturn, 1) := by decide +kernel
set_option maxRecDepth 20000 in
theorem ggX8_isUnlike_X8_tryRow : GoodIn wsX8_isUnlike wsX8_tryRow := goodIn_r _ [6, 1, 7, 8, 9, 10, 11, 12, 13, 14, 15, 16, 17, 18, 19, 20, 21, 22, 23, 24, 25, 26, 27, 28, 29, 30, 31, 32, 33, 34, 35, 36, 37, 38, 39, 40, 41, 42, 43, 44, 45, 46, 47, 48, 49, 50, 51, 52, 53, 54, 55, 56, 57, 58, 59, 60, 61, 62, 63, 64, 65, 66, 67, 68, 69, 70, 71, 72, 73, 74, 75, 76, 77, 78, 79, 80, 81, 82, 83, 84, 85, 86, 87, 88, 89, 90, 91, 92, 93, 94, 95, 96, 97, 98, 99, 100, 101, 102, 103, 104, 105, 106, 107, 108, 109, 110, 111, 112, 113, 114, 115, 116, 117, 118, 119, 120, 121, 122, 123, 124, 125, 126, 127] (by decide +kernel) (by decide +kernel)
set_option maxRecDepth 20000 in
theorem gX8_isUnlike_X8_tryRow : GoodIn wsX8_isUnlike (wsV RX8 195 RX8 yX8_tryRow wsX8_tryRow) := goodIn_app (goodIn_of _ (by decide +kernel)) ggX8_isUnlike_X8_tryRow
theorem dX8_isUnlike_0 : decode cX8_isUnlike 0 = .ok (.aload_n 0, 1) := by decide +kernel
theorem dX8_isUnlike_1 : decode cX8_isUnlike 1 = .ok (.iload_n 1, 1) := by decide +kernel
theorem dX8_isUnlike_2 : decode cX8_isUnlike 2 = .ok (.iload_n 3, 1) := by decide +kernel
theorem dX8_isUnlike_3 : decode cX8_isUnlike 3 = .ok (.invokevirtual 195, 3) := by decide +kernel
theorem dX8_isUnlike_6 : decode cX8_isUnlike 6 = .ok (.istore 4, 2) := by decide +kernel
theorem dX8_isUnlike_8 : decode cX8_isUnlike 8 = .ok (.aload_n 0, 1) := by decide +kernel
theorem dX8_isUnlike_9 : decode cX8_isUnlike 9 = .ok (.getfield 39, 3) := by decide +kernel
theorem dX8_isUnlike_12 : decode cX8_isUnlike 12 = .ok (.getfield 199, 3) := by decide +kernel
theorem dX8_isUnlike_15 : decode cX8_isUnlike 15 = .ok (.istore 5, 2) := by decide +kernel
theorem dX8_isUnlike_17 : decode cX8_isUnlike 17 = .ok (.aload_n 0, 1) := by decide +kernel
theorem dX8_isUnlike_18 : decode cX8_isUnlike 18 = .ok (.iload_n 2, 1) := by decide +kernel
theorem dX8_isUnlike_19 : decode cX8_isUnlike 19 = .ok (.iload_n 3, 1) := by decide +kernel
theorem dX8_isUnlike_20 : decode cX8_isUnlike 20 = .ok (.invokevirtual 195, 3) := by decide +kernel
theorem dX8_isUnlike_23 : decode cX8_isUnlike 23 = .ok (.iload 4, 2) := by decide +kernel
theorem dX8_isUnlike_25 : decode cX8_isUnlike 25 = .ok (.if_icmp .ne 20, 3) := by decide +kernel
theorem dX8_isUnlike_28 : decode cX8_isUnlike 28 = .ok (.iload 4, 2) := by decide +kernel
theorem dX8_isUnlike_30 : decode cX8_isUnlike 30 = .ok (.ifCond .ne 19, 3) := by decide +kernel
theorem dX8_isUnlike_33 : decode cX8_isUnlike 33 = .ok (.aload_n 0, 1) := by decide +kernel
theorem dX8_isUnlike_34 : decode cX8_isUnlike 34 = .ok (.getfield 39, 3) := by decide +kernel
theorem dX8_isUnlike_37 : decode cX8_isUnlike 37 = .ok (.getfield 199, 3) := by decide +kernel
theorem dX8_isUnlike_40 : decode cX8_isUnlike 40 = .ok (.iload 5, 2) := by decide +kernel
theorem dX8_isUnlike_42 : decode cX8_isUnlike 42 = .ok (.if_icmp .eq 7, 3) := by decide +kernel
theorem dX8_isUnlike_45 : decode cX8_isUnlike 45 = .ok (.iconst 1, 1) := by decide +kernel
theorem dX8_isUnlike_46 : decode cX8_isUnlike 46 = .ok (.goto 4, 3) := by decide +kernel
theorem dX8_isUnlike_49 : decode cX8_isUnlike 49 = .ok (.iconst 0, 1) := by decide +kernel
theorem dX8_isUnlike_50 : decode cX8_isUnlike 50 = .ok (.ireturn, 1) := by decide +kernel
theorem dX8_count_0 : decode cX8_count 0 = .ok (.iload_n 1, 1) := by decide +kernel
theorem dX8_count_1 : decode cX8_count 1 = .ok (.tableswitch 87 0 5 #[39, 47, 55, 63, 71, 79], 39) := by decide +kernel
theorem dX8_count_40 : decode cX8_count 40 = .ok (.aload_n 0, 1) := by decide +kernel
theorem dX8_count_41 : decode cX8_count 41 = .ok (.getfield 12, 3) := by decide +kernel
theorem dX8_count_44 : decode cX8_count 44 = .ok (.getfield 84, 3) := by decide +kernel
theorem dX8_count_47 : decode cX8_count 47 = .ok (.ireturn, 1) := by decide +kernel
theorem dX8_count_48 : decode cX8_count 48 = .ok (.aload_n 0, 1) := by decide +kernel
theorem dX8_count_49 : decode cX8_count 49 = .ok (.getfield 12, 3) := by decide +kernel
theorem dX8_count_52 : decode cX8_count 52 = .ok (.getfield 94, 3) := by decide +kernel
theorem dX8_count_55 : decode cX8_count 55 = .ok (.ireturn, 1) := by decide +kernel
theorem dX8_count_56 : decode cX8_count 56 = .ok (.aload_n 0, 1) := by decide +kernel
theorem dX8_count_57 : decode cX8_count 57 = .ok (.getfield 12, 3) := by decide +kernel
theorem dX8_count_60 : decode cX8_count 60 = .ok (.getfield 104, 3) := by decide +kernel
theorem dX8_count_63 : decode cX8_count 63 = .ok (.ireturn, 1) := by decide +kernel
theorem dX8_count_64 : decode cX8_count 64 = .ok (.aload_n 0, 1) := by decide +kernel
theorem dX8_count_65 : decode cX8_count 65 = .ok (.getfield 12, 3) := by decide +kernel
theorem dX8_count_68 : decode cX8_count 68 = .ok (.getfield 128, 3) := by decide +kernel
theorem dX8_count_71 : decode cX8_count 71 = .ok (.ireturn, 1) := by decide +kernel
theorem dX8_count_72 : decode cX8_count 72 = .ok (.aload_n 0, 1) := by decide +kernel
theorem dX8_count_73 : decode cX8_count 73 = .ok (.getfield 72, 3) := by decide +kernel
theorem dX8_count_76 : decode cX8_count 76 = .ok (.getfield 275, 3) := by decide +kernel
theorem dX8_count_79 : decode cX8_count 79 = .ok (.ireturn, 1) := by decide +kernel
theorem dX8_count_80 : decode cX8_count 80 = .ok (.aload_n 0, 1) := by decide +kernel
theorem dX8_count_81 : decode cX8_count 81 = .ok (.getfield 19, 3) := by decide +kernel
theorem dX8_count_84 : decode cX8_count 84 = .ok (.getfield 121, 3) := by decide +kernel
theorem dX8_count_87 : decode cX8_count 87 = .ok (.ireturn, 1) := by decide +kernel
theorem dX8_count_88 : decode cX8_count 88 = .ok (.iconst (-1), 1) := by decide +kernel
theorem dX8_count_89 : decode cX8_count 89 = .ok (.ireturn, 1) := by decide +kernel
theorem dX8_trouble_0 : decode cX8_trouble 0 = .ok (.aload_n 0, 1) := by decide +kernel
theorem dX8_trouble_1 : decode cX8_trouble 1 = .ok (.getfield 80, 3) := by decide +kernel
theorem dX8_trouble_4 : decode cX8_trouble 4 = .ok (.ireturn, 1) := by decide +kernel
theorem dX9_init_0 : decode cX9_init 0 = .ok (.aload_n 0, 1) := by decide +kernel
theorem dX9_init_1 : decode cX9_init 1 = .ok (.invokespecial 3, 3) := by decide +kernel
theorem dX9_init_4 : decode cX9_init 4 = .ok (.return_, 1) := by decide +kernel
theorem dX9_begin_0 : decode cX9_begin 0 = .ok (.aload_n 0, 1) := by decide +kernel
theorem dX9_begin_1 : decode cX9_begin 1 = .ok (.iload_n 1, 1) := by decide +kernel
theorem dX9_begin_2 : decode cX9_begin 2 = .ok (.putfield 9, 3) := by decide +kernel
theorem dX9_begin_5 : decode cX9_begin 5 = .ok (.aload_n 0, 1) := by decide +kernel
theorem dX9_begin_6 : decode cX9_begin 6 = .ok (.iload_n 2, 1) := by decide +kernel
theorem dX9_begin_7 : decode cX9_begin 7 = .ok (.putfield 15, 3) := by decide +kernel
theorem dX9_begin_10 : decode cX9_begin 10 = .ok (.aload_n 0, 1) := by decide +kernel
theorem dX9_begin_11 : decode cX9_begin 11 = .ok (.iload_n 3, 1) := by decide +kernel
theorem dX9_begin_12 : decode cX9_begin 12 = .ok (.putfield 18, 3) := by decide +kernel
theorem dX9_begin_15 : decode cX9_begin 15 = .ok (.aload_n 0, 1) := by decide +kernel
theorem dX9_begin_16 : decode cX9_begin 16 = .ok (.iconst 0, 1) := by decide +kernel
theorem dX9_begin_17 : decode cX9_begin 17 = .ok (.putfield 21, 3) := by decide +kernel
theorem dX9_begin_20 : decode cX9_begin 20 = .ok (.aload_n 0, 1) := by decide +kernel
theorem dX9_begin_21 : decode cX9_begin 21 = .ok (.iconst (-1), 1) := by decide +kernel
theorem dX9_begin_22 : decode cX9_begin 22 = .ok (.putfield 24, 3) := by decide +kernel
theorem dX9_begin_25 : decode cX9_begin 25 = .ok (.aload_n 0, 1) := by decide +kernel
theorem dX9_begin_26 : decode cX9_begin 26 = .ok (.iconst 0, 1) := by decide +kernel
theorem dX9_begin_27 : decode cX9_begin 27 = .ok (.putfield 27, 3) := by decide +kernel
theorem dX9_begin_30 : decode cX9_begin 30 = .ok (.aload_n 0, 1) := by decide +kernel
theorem dX9_begin_31 : decode cX9_begin 31 = .ok (.iconst 0, 1) := by decide +kernel
theorem dX9_begin_32 : decode cX9_begin 32 = .ok (.putfield 30, 3) := by decide +kernel
theorem dX9_begin_35 : decode cX9_begin 35 = .ok (.aload_n 0, 1) := by decide +kernel
theorem dX9_begin_36 : decode cX9_begin 36 = .ok (.iconst 0, 1) := by decide +kernel
theorem dX9_begin_37 : decode cX9_begin 37 = .ok (.putfield 33, 3) := by decide +kernel
theorem dX9_begin_40 : decode cX9_begin 40 = .ok (.aload_n 0, 1) := by decide +kernel
theorem dX9_begin_41 : decode cX9_begin 41 = .ok (.iconst 0, 1) := by decide +kernel
theorem dX9_begin_42 : decode cX9_begin 42 = .ok (.putfield 37, 3) := by decide +kernel
theorem dX9_begin_45 : decode cX9_begin 45 = .ok (.return_, 1) := by decide +kernel
theorem dX9_ends_0 : decode cX9_ends 0 = .ok (.aload_n 0, 1) := by decide +kernel
theorem dX9_ends_1 : decode cX9_ends 1 = .ok (.iload_n 1, 1) := by decide +kernel
theorem dX9_ends_2 : decode cX9_ends 2 = .ok (.putfield 24, 3) := by decide +kernel
theorem dX9_ends_5 : decode cX9_ends 5 = .ok (.aload_n 0, 1) := by decide +kernel
theorem dX9_ends_6 : decode cX9_ends 6 = .ok (.iload_n 2, 1) := by decide +kernel
theorem dX9_ends_7 : decode cX9_ends 7 = .ok (.putfield 27, 3) := by decide +kernel
theorem dX9_ends_10 : decode cX9_ends 10 = .ok (.return_, 1) := by decide +kernel
theorem dX9_takes_0 : decode cX9_takes 0 = .ok (.aload_n 0, 1) := by decide +kernel
theorem dX9_takes_1 : decode cX9_takes 1 = .ok (.iconst 1, 1) := by decide +kernel
theorem dX9_takes_2 : decode cX9_takes 2 = .ok (.putfield 33, 3) := by decide +kernel
theorem dX9_takes_5 : decode cX9_takes 5 = .ok (.aload_n 0, 1) := by decide +kernel
theorem dX9_takes_6 : decode cX9_takes 6 = .ok (.iconst 0, 1) := by decide +kernel
theorem dX9_takes_7 : decode cX9_takes 7 = .ok (.putfield 37, 3) := by decide +kernel
theorem dX9_takes_10 : decode cX9_takes 10 = .ok (.aload_n 0, 1) := by decide +kernel
theorem dX9_takes_11 : decode cX9_takes 11 = .ok (.iload_n 3, 1) := by decide +kernel
theorem dX9_takes_12 : decode cX9_takes 12 = .ok (.iload_n 1, 1) := by decide +kernel
theorem dX9_takes_13 : decode cX9_takes 13 = .ok (.iadd, 1) := by decide +kernel
theorem dX9_takes_14 : decode cX9_takes 14 = .ok (.putfield 40, 3) := by decide +kernel
theorem dX9_takes_17 : decode cX9_takes 17 = .ok (.aload_n 0, 1) := by decide +kernel
theorem dX9_takes_18 : decode cX9_takes 18 = .ok (.iload_n 2, 1) := by decide +kernel
theorem dX9_takes_19 : decode cX9_takes 19 = .ok (.putfield 43, 3) := by decide +kernel
theorem dX9_takes_22 : decode cX9_takes 22 = .ok (.return_, 1) := by decide +kernel
theorem dX10_init_0 : decode cX10_init 0 = .ok (.aload_n 0, 1) := by decide +kernel
theorem dX10_init_1 : decode cX10_init 1 = .ok (.aconst_null, 1) := by decide +kernel
theorem dX10_init_2 : decode cX10_init 2 = .ok (.aconst_null, 1) := by decide +kernel
theorem dX10_init_3 : decode cX10_init 3 = .ok (.iconst 0, 1) := by decide +kernel
theorem dX10_init_4 : decode cX10_init 4 = .ok (.iconst 0, 1) := by decide +kernel
theorem dX10_init_5 : decode cX10_init 5 = .ok (.invokespecial 1, 3) := by decide +kernel
theorem dX10_init_8 : decode cX10_init 8 = .ok (.return_, 1) := by decide +kernel
set_option maxRecDepth 20000 in
theorem ggX11_init_X10_init : GoodIn wsX11_init wsX10_init := goodIn_r _ [47] (by decide +kernel) (by decide +kernel)
set_option maxRecDepth 20000 in
theorem gX11_init_X10_init : GoodIn wsX11_init (wsX10_init) := ggX11_init_X10_init
set_option maxRecDepth 20000 in
theorem ggX11_init_X9_init : GoodIn wsX11_init wsX9_init := goodIn_r _ [49, 50, 2, 3] (by decide +kernel) (by decide +kernel)
set_option maxRecDepth 20000 in
theorem gX11_init_X9_init_n91 : GoodIn wsX11_init (wsX9_init) := ggX11_init_X9_init
theorem dX11_init_0 : decode cX11_init 0 = .ok (.aload_n 0, 1) := by decide +kernel
theorem dX11_init_1 : decode cX11_init 1 = .ok (.invokespecial 1, 3) := by decide +kernel
theorem dX11_init_4 : decode cX11_init 4 = .ok (.aload_n 0, 1) := by decide +kernel
theorem dX11_init_5 : decode cX11_init 5 = .ok (.iconst (-1), 1) := by decide +kernel
theorem dX11_init_6 : decode cX11_init 6 = .ok (.putfield 9, 3) := by decide +kernel
theorem dX11_init_9 : decode cX11_init 9 = .ok (.aload_n 0, 1) := by decide +kernel
theorem dX11_init_10 : decode cX11_init 10 = .ok (.sipush 255, 3) := by decide +kernel
theorem dX11_init_13 : decode cX11_init 13 = .ok (.putfield 13, 3) := by decide +kernel
theorem dX11_init_16 : decode cX11_init 16 = .ok (.aload_n 0, 1) := by decide +kernel
theorem dX11_init_17 : decode cX11_init 17 = .ok (.bipush 8, 2) := by decide +kernel
theorem dX11_init_19 : decode cX11_init 19 = .ok (.newarray .int, 2) := by decide +kernel
theorem dX11_init_21 : decode cX11_init 21 = .ok (.putfield 16, 3) := by decide +kernel
theorem dX11_init_24 : decode cX11_init 24 = .ok (.aload_n 0, 1) := by decide +kernel
theorem dX11_init_25 : decode cX11_init 25 = .ok (.iconst 4, 1) := by decide +kernel
theorem dX11_init_26 : decode cX11_init 26 = .ok (.newarray .int, 2) := by decide +kernel
theorem dX11_init_28 : decode cX11_init 28 = .ok (.putfield 20, 3) := by decide +kernel
theorem dX11_init_31 : decode cX11_init 31 = .ok (.aload_n 0, 1) := by decide +kernel
theorem dX11_init_32 : decode cX11_init 32 = .ok (.iconst 5, 1) := by decide +kernel
theorem dX11_init_33 : decode cX11_init 33 = .ok (.newarray .int, 2) := by decide +kernel
theorem dX11_init_35 : decode cX11_init 35 = .ok (.putfield 23, 3) := by decide +kernel
theorem dX11_init_38 : decode cX11_init 38 = .ok (.aload_n 0, 1) := by decide +kernel
theorem dX11_init_39 : decode cX11_init 39 = .ok (.bipush 120, 2) := by decide +kernel
theorem dX11_init_41 : decode cX11_init 41 = .ok (.newarray .int, 2) := by decide +kernel
theorem dX11_init_43 : decode cX11_init 43 = .ok (.putfield 26, 3) := by decide +kernel
theorem dX11_init_46 : decode cX11_init 46 = .ok (.aload_n 0, 1) := by decide +kernel
theorem dX11_init_47 : decode cX11_init 47 = .ok (.bipush 120, 2) := by decide +kernel
theorem dX11_init_49 : decode cX11_init 49 = .ok (.newarray .int, 2) := by decide +kernel
theorem dX11_init_51 : decode cX11_init 51 = .ok (.putfield 29, 3) := by decide +kernel
theorem dX11_init_54 : decode cX11_init 54 = .ok (.aload_n 0, 1) := by decide +kernel
theorem dX11_init_55 : decode cX11_init 55 = .ok (.bipush 120, 2) := by decide +kernel
theorem dX11_init_57 : decode cX11_init 57 = .ok (.newarray .int, 2) := by decide +kernel
theorem dX11_init_59 : decode cX11_init 59 = .ok (.putfield 32, 3) := by decide +kernel
theorem dX11_init_62 : decode cX11_init 62 = .ok (.aload_n 0, 1) := by decide +kernel
theorem dX11_init_63 : decode cX11_init 63 = .ok (.bipush 120, 2) := by decide +kernel
theorem dX11_init_65 : decode cX11_init 65 = .ok (.newarray .int, 2) := by decide +kernel
theorem dX11_init_67 : decode cX11_init 67 = .ok (.putfield 35, 3) := by decide +kernel
theorem dX11_init_70 : decode cX11_init 70 = .ok (.aload_n 0, 1) := by decide +kernel
theorem dX11_init_71 : decode cX11_init 71 = .ok (.bipush 120, 2) := by decide +kernel
theorem dX11_init_73 : decode cX11_init 73 = .ok (.newarray .int, 2) := by decide +kernel
theorem dX11_init_75 : decode cX11_init 75 = .ok (.putfield 38, 3) := by decide +kernel
theorem dX11_init_78 : decode cX11_init 78 = .ok (.aload_n 0, 1) := by decide +kernel
theorem dX11_init_79 : decode cX11_init 79 = .ok (.new 41, 3) := by decide +kernel
theorem dX11_init_82 : decode cX11_init 82 = .ok (.dup, 1) := by decide +kernel
theorem dX11_init_83 : decode cX11_init 83 = .ok (.invokespecial 43, 3) := by decide +kernel
theorem dX11_init_86 : decode cX11_init 86 = .ok (.putfield 44, 3) := by decide +kernel
theorem dX11_init_89 : decode cX11_init 89 = .ok (.aload_n 0, 1) := by decide +kernel
theorem dX11_init_90 : decode cX11_init 90 = .ok (.sipush 600, 3) := by decide +kernel
theorem dX11_init_93 : decode cX11_init 93 = .ok (.newarray .byte, 2) := by decide +kernel
theorem dX11_init_95 : decode cX11_init 95 = .ok (.putfield 48, 3) := by decide +kernel
theorem dX11_init_98 : decode cX11_init 98 = .ok (.aload_n 0, 1) := by decide +kernel
theorem dX11_init_99 : decode cX11_init 99 = .ok (.bipush 48, 2) := by decide +kernel
theorem dX11_init_101 : decode cX11_init 101 = .ok (.newarray .int, 2) := by decide +kernel
theorem dX11_init_103 : decode cX11_init 103 = .ok (.putfield 52, 3) := by decide +kernel
theorem dX11_init_106 : decode cX11_init 106 = .ok (.aload_n 0, 1) := by decide +kernel
theorem dX11_init_107 : decode cX11_init 107 = .ok (.sipush 6144, 3) := by decide +kernel
theorem dX11_init_110 : decode cX11_init 110 = .ok (.newarray .int, 2) := by decide +kernel
theorem dX11_init_112 : decode cX11_init 112 = .ok (.putfield 55, 3) := by decide +kernel
theorem dX11_init_115 : decode cX11_init 115 = .ok (.aload_n 0, 1) := by decide +kernel
theorem dX11_init_116 : decode cX11_init 116 = .ok (.sipush 6144, 3) := by decide +kernel
theorem dX11_init_119 : decode cX11_init 119 = .ok (.newarray .int, 2) := by decide +kernel
theorem dX11_init_121 : decode cX11_init 121 = .ok (.putfield 58, 3) := by decide +kernel
theorem dX11_init_124 : decode cX11_init 124 = .ok (.aload_n 0, 1) := by decide +kernel
theorem dX11_init_125 : decode cX11_init 125 = .ok (.sipush 2000, 3) := by decide +kernel
theorem dX11_init_128 : decode cX11_init 128 = .ok (.newarray .int, 2) := by decide +kernel
theorem dX11_init_130 : decode cX11_init 130 = .ok (.putfield 61, 3) := by decide +kernel
theorem dX11_init_133 : decode cX11_init 133 = .ok (.aload_n 0, 1) := by decide +kernel
theorem dX11_init_134 : decode cX11_init 134 = .ok (.sipush 2000, 3) := by decide +kernel
theorem dX11_init_137 : decode cX11_init 137 = .ok (.newarray .int, 2) := by decide +kernel
theorem dX11_init_139 : decode cX11_init 139 = .ok (.putfield 64, 3) := by decide +kernel
theorem dX11_init_142 : decode cX11_init 142 = .ok (.aload_n 0, 1) := by decide +kernel
theorem dX11_init_143 : decode cX11_init 143 = .ok (.sipush 501, 3) := by decide +kernel
theorem dX11_init_146 : decode cX11_init 146 = .ok (.newarray .int, 2) := by decide +kernel
theorem dX11_init_148 : decode cX11_init 148 = .ok (.putfield 67, 3) := by decide +kernel
theorem dX11_init_151 : decode cX11_init 151 = .ok (.aload_n 0, 1) := by decide +kernel
theorem dX11_init_152 : decode cX11_init 152 = .ok (.sipush 501, 3) := by decide +kernel
theorem dX11_init_155 : decode cX11_init 155 = .ok (.newarray .int, 2) := by decide +kernel
theorem dX11_init_157 : decode cX11_init 157 = .ok (.putfield 70, 3) := by decide +kernel
theorem dX11_init_160 : decode cX11_init 160 = .ok (.aload_n 0, 1) := by decide +kernel
theorem dX11_init_161 : decode cX11_init 161 = .ok (.sipush 500, 3) := by decide +kernel
theorem dX11_init_164 : decode cX11_init 164 = .ok (.newarray .int, 2) := by decide +kernel
theorem dX11_init_166 : decode cX11_init 166 = .ok (.putfield 73, 3) := by decide +kernel
theorem dX11_init_169 : decode cX11_init 169 = .ok (.aload_n 0, 1) := by decide +kernel
theorem dX11_init_170 : decode cX11_init 170 = .ok (.bipush 7, 2) := by decide +kernel
theorem dX11_init_172 : decode cX11_init 172 = .ok (.newarray .int, 2) := by decide +kernel
theorem dX11_init_174 : decode cX11_init 174 = .ok (.putfield 76, 3) := by decide +kernel
theorem dX11_init_177 : decode cX11_init 177 = .ok (.aload_n 0, 1) := by decide +kernel
theorem dX11_init_178 : decode cX11_init 178 = .ok (.bipush 8, 2) := by decide +kernel
theorem dX11_init_180 : decode cX11_init 180 = .ok (.newarray .int, 2) := by decide +kernel
theorem dX11_init_182 : decode cX11_init 182 = .ok (.putfield 79, 3) := by decide +kernel
theorem dX11_init_185 : decode cX11_init 185 = .ok (.aload_n 0, 1) := by decide +kernel
theorem dX11_init_186 : decode cX11_init 186 = .ok (.bipush 24, 2) := by decide +kernel
theorem dX11_init_188 : decode cX11_init 188 = .ok (.newarray .boolean, 2) := by decide +kernel
theorem dX11_init_190 : decode cX11_init 190 = .ok (.putfield 82, 3) := by decide +kernel
theorem dX11_init_193 : decode cX11_init 193 = .ok (.aload_n 0, 1) := by decide +kernel
theorem dX11_init_194 : decode cX11_init 194 = .ok (.iconst 3, 1) := by decide +kernel
theorem dX11_init_195 : decode cX11_init 195 = .ok (.newarray .int, 2) := by decide +kernel
theorem dX11_init_197 : decode cX11_init 197 = .ok (.putfield 86, 3) := by decide +kernel
theorem dX11_init_200 : decode cX11_init 200 = .ok (.aload_n 0, 1) := by decide +kernel
theorem dX11_init_201 : decode cX11_init 201 = .ok (.new 89, 3) := by decide +kernel
theorem dX11_init_204 : decode cX11_init 204 = .ok (.dup, 1) := by decide +kernel
theorem dX11_init_205 : decode cX11_init 205 = .ok (.invokespecial 91, 3) := by decide +kernel
theorem dX11_init_208 : decode cX11_init 208 = .ok (.putfield 92, 3) := by decide +kernel
theorem dX11_init_211 : decode cX11_init 211 = .ok (.aload_n 0, 1) := by decide +kernel
theorem dX11_init_212 : decode cX11_init 212 = .ok (.new 89, 3) := by decide +kernel
theorem dX11_init_215 : decode cX11_init 215 = .ok (.dup, 1) := by decide +kernel
theorem dX11_init_216 : decode cX11_init 216 = .ok (.invokespecial 91, 3) := by decide +kernel
theorem dX11_init_219 : decode cX11_init 219 = .ok (.putfield 96, 3) := by decide +kernel
theorem dX11_init_222 : decode cX11_init 222 = .ok (.aload_n 0, 1) := by decide +kernel
theorem dX11_init_223 : decode cX11_init 223 = .ok (.iconst 4, 1) := by decide +kernel
theorem dX11_init_224 : decode cX11_init 224 = .ok (.newarray .int, 2) := by decide +kernel
theorem dX11_init_226 : decode cX11_init 226 = .ok (.putfield 99, 3) := by decide +kernel
theorem dX11_init_229 : decode cX11_init 229 = .ok (.aload_n 0, 1) := by decide +kernel
theorem dX11_init_230 : decode cX11_init 230 = .ok (.sipush 200, 3) := by decide +kernel
theorem dX11_init_233 : decode cX11_init 233 = .ok (.newarray .int, 2) := by decide +kernel
theorem dX11_init_235 : decode cX11_init 235 = .ok (.putfield 102, 3) := by decide +kernel
theorem dX11_init_238 : decode cX11_init 238 = .ok (.aload_n 0, 1) := by decide +kernel
theorem dX11_init_239 : decode cX11_init 239 = .ok (.sipush 201, 3) := by decide +kernel
theorem dX11_init_242 : decode cX11_init 242 = .ok (.newarray .int, 2) := by decide +kernel
theorem dX11_init_244 : decode cX11_init 244 = .ok (.putfield 105, 3) := by decide +kernel
theorem dX11_init_247 : decode cX11_init 247 = .ok (.aload_n 0, 1) := by decide +kernel
theorem dX11_init_248 : decode cX11_init 248 = .ok (.sipush 201, 3) := by decide +kernel
theorem dX11_init_251 : decode cX11_init 251 = .ok (.newarray .int, 2) := by decide +kernel
theorem dX11_init_253 : decode cX11_init 253 = .ok (.putfield 108, 3) := by decide +kernel
theorem dX11_init_256 : decode cX11_init 256 = .ok (.aload_n 0, 1) := by decide +kernel
theorem dX11_init_257 : decode cX11_init 257 = .ok (.iconst (-1), 1) := by decide +kernel
theorem dX11_init_258 : decode cX11_init 258 = .ok (.putfield 111, 3) := by decide +kernel
theorem dX11_init_261 : decode cX11_init 261 = .ok (.aload_n 0, 1) := by decide +kernel
theorem dX11_init_262 : decode cX11_init 262 = .ok (.iconst (-1), 1) := by decide +kernel
theorem dX11_init_263 : decode cX11_init 263 = .ok (.putfield 114, 3) := by decide +kernel
theorem dX11_init_266 : decode cX11_init 266 = .ok (.return_, 1) := by decide +kernel
theorem dX11_refused_0 : decode cX11_refused 0 = .ok (.aload_n 0, 1) := by decide +kernel
theorem dX11_refused_1 : decode cX11_refused 1 = .ok (.iload_n 1, 1) := by decide +kernel
theorem dX11_refused_2 : decode cX11_refused 2 = .ok (.putfield 120, 3) := by decide +kernel
theorem dX11_refused_5 : decode cX11_refused 5 = .ok (.aload_n 0, 1) := by decide +kernel
theorem dX11_refused_6 : decode cX11_refused 6 = .ok (.iconst (-1), 1) := by decide +kernel
theorem dX11_refused_7 : decode cX11_refused 7 = .ok (.putfield 9, 3) := by decide +kernel
theorem dX11_refused_10 : decode cX11_refused 10 = .ok (.iconst (-1), 1) := by decide +kernel
theorem dX11_refused_11 : decode cX11_refused 11 = .ok (.ireturn, 1) := by decide +kernel
theorem dX11_done_0 : decode cX11_done 0 = .ok (.aload_n 0, 1) := by decide +kernel
theorem dX11_done_1 : decode cX11_done 1 = .ok (.iconst 0, 1) := by decide +kernel
theorem dX11_done_2 : decode cX11_done 2 = .ok (.putfield 120, 3) := by decide +kernel
theorem dX11_done_5 : decode cX11_done 5 = .ok (.aload_n 0, 1) := by decide +kernel
theorem dX11_done_6 : decode cX11_done 6 = .ok (.iconst (-1), 1) := by decide +kernel
theorem dX11_done_7 : decode cX11_done 7 = .ok (.putfield 9, 3) := by decide +kernel
theorem dX11_done_10 : decode cX11_done 10 = .ok (.iload_n 1, 1) := by decide +kernel
theorem dX11_done_11 : decode cX11_done 11 = .ok (.ireturn, 1) := by decide +kernel
theorem dX11_in_0 : decode cX11_in 0 = .ok (.iload_n 0, 1) := by decide +kernel
theorem dX11_in_1 : decode cX11_in 1 = .ok (.iload_n 1, 1) := by decide +kernel
theorem dX11_in_2 : decode cX11_in 2 = .ok (.if_icmp .lt 12, 3) := by decide +kernel
theorem dX11_in_5 : decode cX11_in 5 = .ok (.iload_n 0, 1) := by decide +kernel
theorem dX11_in_6 : decode cX11_in 6 = .ok (.iload_n 2, 1) := by decide +kernel
theorem dX11_in_7 : decode cX11_in 7 = .ok (.if_icmp .gt 7, 3) := by decide +kernel
theorem dX11_in_10 : decode cX11_in 10 = .ok (.iconst 1, 1) := by decide +kernel
theorem dX11_in_11 : decode cX11_in 11 = .ok (.goto 4, 3) := by decide +kernel
theorem dX11_in_14 : decode cX11_in 14 = .ok (.iconst 0, 1) := by decide +kernel
theorem dX11_in_15 : decode cX11_in 15 = .ok (.ireturn, 1) := by decide +kernel
theorem dX11_bits_0 : decode cX11_bits 0 = .ok (.iconst 0, 1) := by decide +kernel
theorem dX11_bits_1 : decode cX11_bits 1 = .ok (.istore_n 1, 1) := by decide +kernel
theorem dX11_bits_2 : decode cX11_bits 2 = .ok (.iload_n 0, 1) := by decide +kernel
theorem dX11_bits_3 : decode cX11_bits 3 = .ok (.istore_n 2, 1) := by decide +kernel
theorem dX11_bits_4 : decode cX11_bits 4 = .ok (.iload_n 2, 1) := by decide +kernel
theorem dX11_bits_5 : decode cX11_bits 5 = .ok (.ifCond .eq 15, 3) := by decide +kernel
theorem dX11_bits_8 : decode cX11_bits 8 = .ok (.iinc 1 1, 3) := by decide +kernel
theorem dX11_bits_11 : decode cX11_bits 11 = .ok (.iload_n 2, 1) := by decide +kernel
theorem dX11_bits_12 : decode cX11_bits 12 = .ok (.iload_n 2, 1) := by decide +kernel
theorem dX11_bits_13 : decode cX11_bits 13 = .ok (.iconst 1, 1) := by decide +kernel
theorem dX11_bits_14 : decode cX11_bits 14 = .ok (.isub, 1) := by decide +kernel
theorem dX11_bits_15 : decode cX11_bits 15 = .ok (.iand, 1) := by decide +kernel
theorem dX11_bits_16 : decode cX11_bits 16 = .ok (.istore_n 2, 1) := by decide +kernel
theorem dX11_bits_17 : decode cX11_bits 17 = .ok (.goto (-13), 3) := by decide +kernel
theorem dX11_bits_20 : decode cX11_bits 20 = .ok (.iload_n 1, 1) := by decide +kernel
theorem dX11_bits_21 : decode cX11_bits 21 = .ok (.ireturn, 1) := by decide +kernel
set_option maxRecDepth 20000 in
theorem ggX11_fact_X11_refused : GoodIn wsX11_fact wsX11_refused := goodIn_r _ [7, 8, 9, 14, 15, 16, 17, 18, 19, 20, 21, 22, 23, 24, 25, 26, 27, 28, 29, 30, 31, 32, 33, 34, 35, 36, 37, 38, 39, 40, 41, 42, 43, 44, 45, 46, 47, 48, 49, 50, 51, 52, 53, 54, 55, 56, 57, 58, 59, 60, 61, 62, 63, 64, 65, 66, 67, 68, 69, 70, 71, 72, 73, 74, 75, 76, 77, 78, 79, 80, 81] (by decide +kernel) (by decide +kernel)
set_option maxRecDepth 20000 in
theorem gX11_fact_X11_refused : GoodIn wsX11_fact (wsV RX11 126 RX11 yX11_refused wsX11_refused) := goodIn_app (goodIn_of _ (by decide +kernel)) ggX11_fact_X11_refused
set_option maxRecDepth 20000 in
theorem ggX11_fact_X11_done : GoodIn wsX11_fact wsX11_done := goodIn_r _ [13, 8, 9, 14, 15, 16, 17, 18, 19, 20, 21, 22, 23, 24, 25, 26, 27, 28, 29, 30, 31, 32, 33, 34, 35, 36, 37, 38, 39, 40, 41, 42, 43, 44, 45, 46, 47, 48, 49, 50, 51, 52, 53, 54, 55, 56, 57, 58, 59, 60, 61, 62, 63, 64, 65, 66, 67, 68, 69, 70, 71, 72, 73, 74, 75, 76, 77, 78, 79, 80, 81] (by decide +kernel) (by decide +kernel)
set_option maxRecDepth 20000 in
theorem gX11_fact_X11_done : GoodIn wsX11_fact (wsV RX11 130 RX11 yX11_done wsX11_done) := goodIn_app (goodIn_of _ (by decide +kernel)) ggX11_fact_X11_done
theorem dX11_fact_0 : decode cX11_fact 0 = .ok (.aload_n 0, 1) := by decide +kernel
theorem dX11_fact_1 : decode cX11_fact 1 = .ok (.iconst 0, 1) := by decide +kernel
theorem dX11_fact_2 : decode cX11_fact 2 = .ok (.putfield 117, 3) := by decide +kernel
theorem dX11_fact_5 : decode cX11_fact 5 = .ok (.aload_n 0, 1) := by decide +kernel
theorem dX11_fact_6 : decode cX11_fact 6 = .ok (.getfield 123, 3) := by decide +kernel
theorem dX11_fact_9 : decode cX11_fact 9 = .ok (.bipush 8, 2) := by decide +kernel
theorem dX11_fact_11 : decode cX11_fact 11 = .ok (.if_icmp .ne 9, 3) := by decide +kernel
theorem dX11_fact_14 : decode cX11_fact 14 = .ok (.aload_n 0, 1) := by decide +kernel
theorem dX11_fact_15 : decode cX11_fact 15 = .ok (.iconst 3, 1) := by decide +kernel
theorem dX11_fact_16 : decode cX11_fact 16 = .ok (.invokevirtual 126, 3) := by decide +kernel
theorem dX11_fact_19 : decode cX11_fact 19 = .ok (.ireturn, 1) := by decide +kernel
theorem dX11_fact_20 : decode cX11_fact 20 = .ok (.aload_n 0, 1) := by decide +kernel
theorem dX11_fact_21 : decode cX11_fact 21 = .ok (.dup, 1) := by decide +kernel
theorem dX11_fact_22 : decode cX11_fact 22 = .ok (.getfield 123, 3) := by decide +kernel
theorem dX11_fact_25 : decode cX11_fact 25 = .ok (.iconst 1, 1) := by decide +kernel
theorem dX11_fact_26 : decode cX11_fact 26 = .ok (.iadd, 1) := by decide +kernel
theorem dX11_fact_27 : decode cX11_fact 27 = .ok (.putfield 123, 3) := by decide +kernel
theorem dX11_fact_30 : decode cX11_fact 30 = .ok (.aload_n 0, 1) := by decide +kernel
theorem dX11_fact_31 : decode cX11_fact 31 = .ok (.aload_n 0, 1) := by decide +kernel
theorem dX11_fact_32 : decode cX11_fact 32 = .ok (.getfield 123, 3) := by decide +kernel
theorem dX11_fact_35 : decode cX11_fact 35 = .ok (.iconst 1, 1) := by decide +kernel
theorem dX11_fact_36 : decode cX11_fact 36 = .ok (.isub, 1) := by decide +kernel
theorem dX11_fact_37 : decode cX11_fact 37 = .ok (.invokevirtual 130, 3) := by decide +kernel
theorem dX11_fact_40 : decode cX11_fact 40 = .ok (.ireturn, 1) := by decide +kernel
set_option maxRecDepth 20000 in
theorem ggX11_sign_X11_refused : GoodIn wsX11_sign wsX11_refused := goodIn_r _ [9, 10, 11, 16, 17, 18, 19, 20, 21, 22, 23, 24, 25, 26, 27, 28, 29, 30, 31, 32, 33, 34, 35, 36, 37, 38, 39, 40, 41, 42, 43, 44, 45, 46, 47, 48, 49, 50, 51, 52, 53, 54, 55, 56, 57, 58, 59, 60, 61, 62, 63, 64, 65, 66, 67, 68, 69, 70, 71, 72, 73, 74, 75, 76, 77, 78, 79, 80, 81, 82, 83] (by decide +kernel) (by decide +kernel)
set_option maxRecDepth 20000 in
theorem gX11_sign_X11_refused : GoodIn wsX11_sign (wsV RX11 126 RX11 yX11_refused wsX11_refused) := goodIn_app (goodIn_of _ (by decide +kernel)) ggX11_sign_X11_refused
set_option maxRecDepth 20000 in
theorem ggX11_sign_X11_done : GoodIn wsX11_sign wsX11_done := goodIn_r _ [15, 10, 11, 16, 17, 18, 19, 20, 21, 22, 23, 24, 25, 26, 27, 28, 29, 30, 31, 32, 33, 34, 35, 36, 37, 38, 39, 40, 41, 42, 43, 44, 45, 46, 47, 48, 49, 50, 51, 52, 53, 54, 55, 56, 57, 58, 59, 60, 61, 62, 63, 64, 65, 66, 67, 68, 69, 70, 71, 72, 73, 74, 75, 76, 77, 78, 79, 80, 81, 82, 83] (by decide +kernel) (by decide +kernel)
set_option maxRecDepth 20000 in
theorem gX11_sign_X11_done : GoodIn wsX11_sign (wsV RX11 130 RX11 yX11_done wsX11_done) := goodIn_app (goodIn_of _ (by decide +kernel)) ggX11_sign_X11_done
theorem dX11_sign_0 : decode cX11_sign 0 = .ok (.aload_n 0, 1) := by decide +kernel
theorem dX11_sign_1 : decode cX11_sign 1 = .ok (.iconst 0, 1) := by decide +kernel
theorem dX11_sign_2 : decode cX11_sign 2 = .ok (.putfield 117, 3) := by decide +kernel
theorem dX11_sign_5 : decode cX11_sign 5 = .ok (.iload_n 1, 1) := by decide +kernel
theorem dX11_sign_6 : decode cX11_sign 6 = .ok (.ifCond .lt 11, 3) := by decide +kernel
theorem dX11_sign_9 : decode cX11_sign 9 = .ok (.iload_n 1, 1) := by decide +kernel
theorem dX11_sign_10 : decode cX11_sign 10 = .ok (.aload_n 0, 1) := by decide +kernel
theorem dX11_sign_11 : decode cX11_sign 11 = .ok (.getfield 123, 3) := by decide +kernel
theorem dX11_sign_14 : decode cX11_sign 14 = .ok (.if_icmp .lt 9, 3) := by decide +kernel
theorem dX11_sign_17 : decode cX11_sign 17 = .ok (.aload_n 0, 1) := by decide +kernel
theorem dX11_sign_18 : decode cX11_sign 18 = .ok (.iconst 1, 1) := by decide +kernel
theorem dX11_sign_19 : decode cX11_sign 19 = .ok (.invokevirtual 126, 3) := by decide +kernel
theorem dX11_sign_22 : decode cX11_sign 22 = .ok (.ireturn, 1) := by decide +kernel
theorem dX11_sign_23 : decode cX11_sign 23 = .ok (.aload_n 0, 1) := by decide +kernel
theorem dX11_sign_24 : decode cX11_sign 24 = .ok (.getfield 133, 3) := by decide +kernel
theorem dX11_sign_27 : decode cX11_sign 27 = .ok (.bipush 8, 2) := by decide +kernel
theorem dX11_sign_29 : decode cX11_sign 29 = .ok (.if_icmp .ne 9, 3) := by decide +kernel
theorem dX11_sign_32 : decode cX11_sign 32 = .ok (.aload_n 0, 1) := by decide +kernel
theorem dX11_sign_33 : decode cX11_sign 33 = .ok (.iconst 3, 1) := by decide +kernel
theorem dX11_sign_34 : decode cX11_sign 34 = .ok (.invokevirtual 126, 3) := by decide +kernel
theorem dX11_sign_37 : decode cX11_sign 37 = .ok (.ireturn, 1) := by decide +kernel
theorem dX11_sign_38 : decode cX11_sign 38 = .ok (.aload_n 0, 1) := by decide +kernel
theorem dX11_sign_39 : decode cX11_sign 39 = .ok (.getfield 16, 3) := by decide +kernel
theorem dX11_sign_42 : decode cX11_sign 42 = .ok (.aload_n 0, 1) := by decide +kernel
theorem dX11_sign_43 : decode cX11_sign 43 = .ok (.getfield 133, 3) := by decide +kernel
theorem dX11_sign_46 : decode cX11_sign 46 = .ok (.iload_n 1, 1) := by decide +kernel
theorem dX11_sign_47 : decode cX11_sign 47 = .ok (.iastore, 1) := by decide +kernel
theorem dX11_sign_48 : decode cX11_sign 48 = .ok (.aload_n 0, 1) := by decide +kernel
theorem dX11_sign_49 : decode cX11_sign 49 = .ok (.dup, 1) := by decide +kernel
theorem dX11_sign_50 : decode cX11_sign 50 = .ok (.getfield 133, 3) := by decide +kernel
theorem dX11_sign_53 : decode cX11_sign 53 = .ok (.iconst 1, 1) := by decide +kernel
theorem dX11_sign_54 : decode cX11_sign 54 = .ok (.iadd, 1) := by decide +kernel
theorem dX11_sign_55 : decode cX11_sign 55 = .ok (.putfield 133, 3) := by decide +kernel
theorem dX11_sign_58 : decode cX11_sign 58 = .ok (.aload_n 0, 1) := by decide +kernel
theorem dX11_sign_59 : decode cX11_sign 59 = .ok (.aload_n 0, 1) := by decide +kernel
theorem dX11_sign_60 : decode cX11_sign 60 = .ok (.getfield 133, 3) := by decide +kernel
theorem dX11_sign_63 : decode cX11_sign 63 = .ok (.iconst 1, 1) := by decide +kernel
theorem dX11_sign_64 : decode cX11_sign 64 = .ok (.isub, 1) := by decide +kernel
theorem dX11_sign_65 : decode cX11_sign 65 = .ok (.invokevirtual 130, 3) := by decide +kernel
theorem dX11_sign_68 : decode cX11_sign 68 = .ok (.ireturn, 1) := by decide +kernel
set_option maxRecDepth 20000 in
theorem ggX11_person_X11_in : GoodIn wsX11_person wsX11_in := goodIn_r _ [7] (by decide +kernel) (by decide +kernel)
set_option maxRecDepth 20000 in
theorem gX11_person_X11_in : GoodIn wsX11_person (va_wsS RX11 136 yX11_in wsX11_in) := goodIn_app (goodIn_of _ (by decide +kernel)) ggX11_person_X11_in
set_option maxRecDepth 20000 in
theorem ggX11_person_X11_refused : GoodIn wsX11_person wsX11_refused := goodIn_r _ [11, 12, 13, 18, 19, 20, 21, 22, 23, 24, 25, 26, 27, 28, 29, 30, 31, 32, 33, 34, 35, 36, 37, 38, 39, 40, 41, 42, 43, 44, 45, 46, 47, 48, 49, 50, 51, 52, 53, 54, 55, 56, 57, 58, 59, 60, 61, 62, 63, 64, 65, 66, 67, 68, 69, 70, 71, 72, 73, 74, 75, 76, 77, 78, 79, 80, 81, 82, 83, 84, 85] (by decide +kernel) (by decide +kernel)
set_option maxRecDepth 20000 in
theorem gX11_person_X11_refused : GoodIn wsX11_person (wsV RX11 126 RX11 yX11_refused wsX11_refused) := goodIn_app (goodIn_of _ (by decide +kernel)) ggX11_person_X11_refused
set_option maxRecDepth 20000 in
theorem ggX11_person_X11_done : GoodIn wsX11_person wsX11_done := goodIn_r _ [17, 12, 13, 18, 19, 20, 21, 22, 23, 24, 25, 26, 27, 28, 29, 30, 31, 32, 33, 34, 35, 36, 37, 38, 39, 40, 41, 42, 43, 44, 45, 46, 47, 48, 49, 50, 51, 52, 53, 54, 55, 56, 57, 58, 59, 60, 61, 62, 63, 64, 65, 66, 67, 68, 69, 70, 71, 72, 73, 74, 75, 76, 77, 78, 79, 80, 81, 82, 83, 84, 85] (by decide +kernel) (by decide +kernel)
set_option maxRecDepth 20000 in
theorem gX11_person_X11_done : GoodIn wsX11_person (wsV RX11 130 RX11 yX11_done wsX11_done) := goodIn_app (goodIn_of _ (by decide +kernel)) ggX11_person_X11_done
theorem dX11_person_0 : decode cX11_person 0 = .ok (.aload_n 0, 1) := by decide +kernel
theorem dX11_person_1 : decode cX11_person 1 = .ok (.iconst 0, 1) := by decide +kernel
theorem dX11_person_2 : decode cX11_person 2 = .ok (.putfield 117, 3) := by decide +kernel
theorem dX11_person_5 : decode cX11_person 5 = .ok (.iload_n 1, 1) := by decide +kernel
theorem dX11_person_6 : decode cX11_person 6 = .ok (.iconst 0, 1) := by decide +kernel
theorem dX11_person_7 : decode cX11_person 7 = .ok (.sipush 255, 3) := by decide +kernel
theorem dX11_person_10 : decode cX11_person 10 = .ok (.invokestatic 136, 3) := by decide +kernel
theorem dX11_person_13 : decode cX11_person 13 = .ok (.ifCond .ne 9, 3) := by decide +kernel
theorem dX11_person_16 : decode cX11_person 16 = .ok (.aload_n 0, 1) := by decide +kernel
theorem dX11_person_17 : decode cX11_person 17 = .ok (.iconst 2, 1) := by decide +kernel
theorem dX11_person_18 : decode cX11_person 18 = .ok (.invokevirtual 126, 3) := by decide +kernel
theorem dX11_person_21 : decode cX11_person 21 = .ok (.ireturn, 1) := by decide +kernel
theorem dX11_person_22 : decode cX11_person 22 = .ok (.aload_n 0, 1) := by decide +kernel
theorem dX11_person_23 : decode cX11_person 23 = .ok (.getfield 140, 3) := by decide +kernel
theorem dX11_person_26 : decode cX11_person 26 = .ok (.iconst 4, 1) := by decide +kernel
theorem dX11_person_27 : decode cX11_person 27 = .ok (.if_icmp .ne 9, 3) := by decide +kernel
theorem dX11_person_30 : decode cX11_person 30 = .ok (.aload_n 0, 1) := by decide +kernel
theorem dX11_person_31 : decode cX11_person 31 = .ok (.iconst 3, 1) := by decide +kernel
theorem dX11_person_32 : decode cX11_person 32 = .ok (.invokevirtual 126, 3) := by decide +kernel
theorem dX11_person_35 : decode cX11_person 35 = .ok (.ireturn, 1) := by decide +kernel
theorem dX11_person_36 : decode cX11_person 36 = .ok (.aload_n 0, 1) := by decide +kernel
theorem dX11_person_37 : decode cX11_person 37 = .ok (.getfield 20, 3) := by decide +kernel
theorem dX11_person_40 : decode cX11_person 40 = .ok (.aload_n 0, 1) := by decide +kernel
theorem dX11_person_41 : decode cX11_person 41 = .ok (.getfield 140, 3) := by decide +kernel
theorem dX11_person_44 : decode cX11_person 44 = .ok (.iload_n 1, 1) := by decide +kernel
theorem dX11_person_45 : decode cX11_person 45 = .ok (.iastore, 1) := by decide +kernel
theorem dX11_person_46 : decode cX11_person 46 = .ok (.aload_n 0, 1) := by decide +kernel
theorem dX11_person_47 : decode cX11_person 47 = .ok (.dup, 1) := by decide +kernel
theorem dX11_person_48 : decode cX11_person 48 = .ok (.getfield 140, 3) := by decide +kernel
theorem dX11_person_51 : decode cX11_person 51 = .ok (.iconst 1, 1) := by decide +kernel
theorem dX11_person_52 : decode cX11_person 52 = .ok (.iadd, 1) := by decide +kernel
theorem dX11_person_53 : decode cX11_person 53 = .ok (.putfield 140, 3) := by decide +kernel
theorem dX11_person_56 : decode cX11_person 56 = .ok (.aload_n 0, 1) := by decide +kernel
theorem dX11_person_57 : decode cX11_person 57 = .ok (.aload_n 0, 1) := by decide +kernel
theorem dX11_person_58 : decode cX11_person 58 = .ok (.getfield 140, 3) := by decide +kernel
theorem dX11_person_61 : decode cX11_person 61 = .ok (.iconst 1, 1) := by decide +kernel
theorem dX11_person_62 : decode cX11_person 62 = .ok (.isub, 1) := by decide +kernel
theorem dX11_person_63 : decode cX11_person 63 = .ok (.invokevirtual 130, 3) := by decide +kernel
theorem dX11_person_66 : decode cX11_person 66 = .ok (.ireturn, 1) := by decide +kernel
set_option maxRecDepth 20000 in
theorem ggX11_goal_X11_in : GoodIn wsX11_goal wsX11_in := goodIn_r _ [8] (by decide +kernel) (by decide +kernel)
set_option maxRecDepth 20000 in
theorem gX11_goal_X11_in : GoodIn wsX11_goal (va_wsS RX11 136 yX11_in wsX11_in) := goodIn_app (goodIn_of _ (by decide +kernel)) ggX11_goal_X11_in
theorem dX11_goal_0 : decode cX11_goal 0 = .ok (.aload_n 0, 1) := by decide +kernel
theorem dX11_goal_1 : decode cX11_goal 1 = .ok (.iconst 0, 1) := by decide +kernel
theorem dX11_goal_2 : decode cX11_goal 2 = .ok (.putfield 117, 3) := by decide +kernel
theorem dX11_goal_5 : decode cX11_goal 5 = .ok (.aload_n 0, 1) := by decide +kernel
theorem dX11_goal_6 : decode cX11_goal 6 = .ok (.iload_n 1, 1) := by decide +kernel
theorem dX11_goal_7 : decode cX11_goal 7 = .ok (.iconst 0, 1) := by decide +kernel
theorem dX11_goal_8 : decode cX11_goal 8 = .ok (.sipush 255, 3) := by decide +kernel
theorem dX11_goal_11 : decode cX11_goal 11 = .ok (.invokestatic 136, 3) := by decide +kernel
theorem dX11_goal_14 : decode cX11_goal 14 = .ok (.ifCond .eq 7, 3) := by decide +kernel
theorem dX11_goal_17 : decode cX11_goal 17 = .ok (.iconst 0, 1) := by decide +kernel
theorem dX11_goal_18 : decode cX11_goal 18 = .ok (.goto 4, 3) := by decide +kernel
theorem dX11_goal_21 : decode cX11_goal 21 = .ok (.iconst 2, 1) := by decide +kernel
theorem dX11_goal_22 : decode cX11_goal 22 = .ok (.putfield 120, 3) := by decide +kernel
theorem dX11_goal_25 : decode cX11_goal 25 = .ok (.aload_n 0, 1) := by decide +kernel
theorem dX11_goal_26 : decode cX11_goal 26 = .ok (.iconst (-1), 1) := by decide +kernel
theorem dX11_goal_27 : decode cX11_goal 27 = .ok (.putfield 9, 3) := by decide +kernel
theorem dX11_goal_30 : decode cX11_goal 30 = .ok (.aload_n 0, 1) := by decide +kernel
theorem dX11_goal_31 : decode cX11_goal 31 = .ok (.getfield 120, 3) := by decide +kernel
theorem dX11_goal_34 : decode cX11_goal 34 = .ok (.ifCond .ne 8, 3) := by decide +kernel
theorem dX11_goal_37 : decode cX11_goal 37 = .ok (.aload_n 0, 1) := by decide +kernel
theorem dX11_goal_38 : decode cX11_goal 38 = .ok (.iload_n 1, 1) := by decide +kernel
theorem dX11_goal_39 : decode cX11_goal 39 = .ok (.putfield 13, 3) := by decide +kernel
theorem dX11_goal_42 : decode cX11_goal 42 = .ok (.aload_n 0, 1) := by decide +kernel
theorem dX11_goal_43 : decode cX11_goal 43 = .ok (.getfield 120, 3) := by decide +kernel
theorem dX11_goal_46 : decode cX11_goal 46 = .ok (.ifCond .ne 7, 3) := by decide +kernel
theorem dX11_goal_49 : decode cX11_goal 49 = .ok (.iconst 1, 1) := by decide +kernel
theorem dX11_goal_50 : decode cX11_goal 50 = .ok (.goto 4, 3) := by decide +kernel
theorem dX11_goal_53 : decode cX11_goal 53 = .ok (.iconst 0, 1) := by decide +kernel
theorem dX11_goal_54 : decode cX11_goal 54 = .ok (.ireturn, 1) := by decide +kernel
theorem dX11_allFacts_0 : decode cX11_allFacts 0 = .ok (.iconst 1, 1) := by decide +kernel
theorem dX11_allFacts_1 : decode cX11_allFacts 1 = .ok (.aload_n 0, 1) := by decide +kernel
theorem dX11_allFacts_2 : decode cX11_allFacts 2 = .ok (.getfield 123, 3) := by decide +kernel
theorem dX11_allFacts_5 : decode cX11_allFacts 5 = .ok (.ishl, 1) := by decide +kernel
theorem dX11_allFacts_6 : decode cX11_allFacts 6 = .ok (.iconst 1, 1) := by decide +kernel
theorem dX11_allFacts_7 : decode cX11_allFacts 7 = .ok (.isub, 1) := by decide +kernel
theorem dX11_allFacts_8 : decode cX11_allFacts 8 = .ok (.ireturn, 1) := by decide +kernel
theorem dX11_stop_0 : decode cX11_stop 0 = .ok (.aload_n 0, 1) := by decide +kernel
theorem dX11_stop_1 : decode cX11_stop 1 = .ok (.getfield 44, 3) := by decide +kernel
theorem dX11_stop_4 : decode cX11_stop 4 = .ok (.iload_n 1, 1) := by decide +kernel
theorem dX11_stop_5 : decode cX11_stop 5 = .ok (.putfield 143, 3) := by decide +kernel
theorem dX11_stop_8 : decode cX11_stop 8 = .ok (.aload_n 0, 1) := by decide +kernel
theorem dX11_stop_9 : decode cX11_stop 9 = .ok (.getfield 44, 3) := by decide +kernel
theorem dX11_stop_12 : decode cX11_stop 12 = .ok (.iload_n 2, 1) := by decide +kernel
theorem dX11_stop_13 : decode cX11_stop 13 = .ok (.putfield 145, 3) := by decide +kernel
theorem dX11_stop_16 : decode cX11_stop 16 = .ok (.aload_n 0, 1) := by decide +kernel
theorem dX11_stop_17 : decode cX11_stop 17 = .ok (.getfield 44, 3) := by decide +kernel
theorem dX11_stop_20 : decode cX11_stop 20 = .ok (.areturn, 1) := by decide +kernel
theorem dX11_byteAt_0 : decode cX11_byteAt 0 = .ok (.iload_n 1, 1) := by decide +kernel
theorem dX11_byteAt_1 : decode cX11_byteAt 1 = .ok (.aload_n 0, 1) := by decide +kernel
theorem dX11_byteAt_2 : decode cX11_byteAt 2 = .ok (.getfield 148, 3) := by decide +kernel
theorem dX11_byteAt_5 : decode cX11_byteAt 5 = .ok (.if_icmp .ge 16, 3) := by decide +kernel
theorem dX11_byteAt_8 : decode cX11_byteAt 8 = .ok (.aload_n 0, 1) := by decide +kernel
theorem dX11_byteAt_9 : decode cX11_byteAt 9 = .ok (.getfield 48, 3) := by decide +kernel
theorem dX11_byteAt_12 : decode cX11_byteAt 12 = .ok (.iload_n 1, 1) := by decide +kernel
theorem dX11_byteAt_13 : decode cX11_byteAt 13 = .ok (.baload, 1) := by decide +kernel
theorem dX11_byteAt_14 : decode cX11_byteAt 14 = .ok (.sipush 255, 3) := by decide +kernel
theorem dX11_byteAt_17 : decode cX11_byteAt 17 = .ok (.iand, 1) := by decide +kernel
theorem dX11_byteAt_18 : decode cX11_byteAt 18 = .ok (.goto 4, 3) := by decide +kernel
theorem dX11_byteAt_21 : decode cX11_byteAt 21 = .ok (.iconst (-1), 1) := by decide +kernel
theorem dX11_byteAt_22 : decode cX11_byteAt 22 = .ok (.ireturn, 1) := by decide +kernel
theorem dX11_isLetter_0 : decode cX11_isLetter 0 = .ok (.iload_n 0, 1) := by decide +kernel
theorem dX11_isLetter_1 : decode cX11_isLetter 1 = .ok (.bipush 97, 2) := by decide +kernel
theorem dX11_isLetter_3 : decode cX11_isLetter 3 = .ok (.if_icmp .lt 13, 3) := by decide +kernel
theorem dX11_isLetter_6 : decode cX11_isLetter 6 = .ok (.iload_n 0, 1) := by decide +kernel
theorem dX11_isLetter_7 : decode cX11_isLetter 7 = .ok (.bipush 122, 2) := by decide +kernel
theorem dX11_isLetter_9 : decode cX11_isLetter 9 = .ok (.if_icmp .gt 7, 3) := by decide +kernel
theorem dX11_isLetter_12 : decode cX11_isLetter 12 = .ok (.iconst 1, 1) := by decide +kernel
theorem dX11_isLetter_13 : decode cX11_isLetter 13 = .ok (.goto 4, 3) := by decide +kernel
theorem dX11_isLetter_16 : decode cX11_isLetter 16 = .ok (.iconst 0, 1) := by decide +kernel
theorem dX11_isLetter_17 : decode cX11_isLetter 17 = .ok (.ireturn, 1) := by decide +kernel
theorem dX11_isDigit_0 : decode cX11_isDigit 0 = .ok (.iload_n 0, 1) := by decide +kernel
theorem dX11_isDigit_1 : decode cX11_isDigit 1 = .ok (.bipush 48, 2) := by decide +kernel
theorem dX11_isDigit_3 : decode cX11_isDigit 3 = .ok (.if_icmp .lt 13, 3) := by decide +kernel
theorem dX11_isDigit_6 : decode cX11_isDigit 6 = .ok (.iload_n 0, 1) := by decide +kernel
theorem dX11_isDigit_7 : decode cX11_isDigit 7 = .ok (.bipush 57, 2) := by decide +kernel
theorem dX11_isDigit_9 : decode cX11_isDigit 9 = .ok (.if_icmp .gt 7, 3) := by decide +kernel
theorem dX11_isDigit_12 : decode cX11_isDigit 12 = .ok (.iconst 1, 1) := by decide +kernel
theorem dX11_isDigit_13 : decode cX11_isDigit 13 = .ok (.goto 4, 3) := by decide +kernel
theorem dX11_isDigit_16 : decode cX11_isDigit 16 = .ok (.iconst 0, 1) := by decide +kernel
theorem dX11_isDigit_17 : decode cX11_isDigit 17 = .ok (.ireturn, 1) := by decide +kernel
set_option maxRecDepth 20000 in
theorem ggX11_wordOf_J0_length_8abf5 : GoodIn wsX11_wordOf wsJ0_length_8abf5 := goodIn_r _ [6, 7, 8, 9, 10, 5, 11, 12, 13] (by decide +kernel) (by decide +kernel)
set_option maxRecDepth 20000 in
theorem gX11_wordOf_J0_length_8abf5 : GoodIn wsX11_wordOf (wsV RX11 151 RJ0 yJ0_length_8abf5 wsJ0_length_8abf5) := goodIn_app (goodIn_of _ (by decide +kernel)) ggX11_wordOf_J0_length_8abf5
set_option maxRecDepth 20000 in
theorem ggX11_wordOf_J0_charAt_5068e : GoodIn wsX11_wordOf wsJ0_charAt_5068e := goodIn_r _ [17, 7, 18, 19, 20, 5, 21, 12, 13, 22, 23, 24, 25, 26, 27, 28, 29, 30, 31, 32, 33, 34, 35, 36, 37, 38, 39, 40, 41, 42, 43, 44, 45, 46, 47, 48, 49, 50] (by decide +kernel) (by decide +kernel)
set_option maxRecDepth 20000 in
theorem gX11_wordOf_J0_charAt_5068e : GoodIn wsX11_wordOf (wsV RX11 159 RJ0 yJ0_charAt_5068e wsJ0_charAt_5068e) := goodIn_app (goodIn_of _ (by decide +kernel)) ggX11_wordOf_J0_charAt_5068e
theorem dX11_wordOf_0 : decode cX11_wordOf 0 = .ok (.lconst 0, 1) := by decide +kernel
theorem dX11_wordOf_1 : decode cX11_wordOf 1 = .ok (.lstore_n 1, 1) := by decide +kernel
theorem dX11_wordOf_2 : decode cX11_wordOf 2 = .ok (.iconst 0, 1) := by decide +kernel
theorem dX11_wordOf_3 : decode cX11_wordOf 3 = .ok (.istore_n 3, 1) := by decide +kernel
theorem dX11_wordOf_4 : decode cX11_wordOf 4 = .ok (.iload_n 3, 1) := by decide +kernel
theorem dX11_wordOf_5 : decode cX11_wordOf 5 = .ok (.aload_n 0, 1) := by decide +kernel
theorem dX11_wordOf_6 : decode cX11_wordOf 6 = .ok (.invokevirtual 151, 3) := by decide +kernel
theorem dX11_wordOf_9 : decode cX11_wordOf 9 = .ok (.if_icmp .ge 27, 3) := by decide +kernel
theorem dX11_wordOf_12 : decode cX11_wordOf 12 = .ok (.ldc2_w 157, 3) := by decide +kernel
theorem dX11_wordOf_15 : decode cX11_wordOf 15 = .ok (.lload_n 1, 1) := by decide +kernel
theorem dX11_wordOf_16 : decode cX11_wordOf 16 = .ok (.lmul, 1) := by decide +kernel
theorem dX11_wordOf_17 : decode cX11_wordOf 17 = .ok (.aload_n 0, 1) := by decide +kernel
theorem dX11_wordOf_18 : decode cX11_wordOf 18 = .ok (.iload_n 3, 1) := by decide +kernel
theorem dX11_wordOf_19 : decode cX11_wordOf 19 = .ok (.invokevirtual 159, 3) := by decide +kernel
theorem dX11_wordOf_22 : decode cX11_wordOf 22 = .ok (.bipush 97, 2) := by decide +kernel
theorem dX11_wordOf_24 : decode cX11_wordOf 24 = .ok (.isub, 1) := by decide +kernel
theorem dX11_wordOf_25 : decode cX11_wordOf 25 = .ok (.iconst 1, 1) := by decide +kernel
theorem dX11_wordOf_26 : decode cX11_wordOf 26 = .ok (.iadd, 1) := by decide +kernel
theorem dX11_wordOf_27 : decode cX11_wordOf 27 = .ok (.i2l, 1) := by decide +kernel
theorem dX11_wordOf_28 : decode cX11_wordOf 28 = .ok (.ladd, 1) := by decide +kernel
theorem dX11_wordOf_29 : decode cX11_wordOf 29 = .ok (.lstore_n 1, 1) := by decide +kernel
theorem dX11_wordOf_30 : decode cX11_wordOf 30 = .ok (.iinc 3 1, 3) := by decide +kernel
theorem dX11_wordOf_33 : decode cX11_wordOf 33 = .ok (.goto (-29), 3) := by decide +kernel
theorem dX11_wordOf_36 : decode cX11_wordOf 36 = .ok (.lload_n 1, 1) := by decide +kernel
theorem dX11_wordOf_37 : decode cX11_wordOf 37 = .ok (.lreturn, 1) := by decide +kernel
set_option maxRecDepth 20000 in
theorem ggX11_next_X11_byteAt : GoodIn wsX11_next wsX11_byteAt := goodIn_r _ [11, 12, 13, 20, 21, 22, 23, 24, 25, 26, 27, 28, 29, 30, 31, 32, 33, 34, 35, 36, 37, 38, 39, 40, 41, 42, 43, 44, 45, 46, 47, 48, 49, 50, 51, 52, 53, 54, 55, 56, 57, 58, 59, 60, 61, 62, 63, 64, 65, 66, 67, 68, 69, 70, 71, 72, 73, 74, 75, 76, 77, 78, 79, 80, 81, 82, 83, 84, 85, 86, 87] (by decide +kernel) (by decide +kernel)
set_option maxRecDepth 20000 in
theorem gX11_next_X11_byteAt : GoodIn wsX11_next (wsV RX11 166 RX11 yX11_byteAt wsX11_byteAt) := goodIn_app (goodIn_of _ (by decide +kernel)) ggX11_next_X11_byteAt
set_option maxRecDepth 20000 in
theorem ggX11_next_X11_isLetter : GoodIn wsX11_next wsX11_isLetter := goodIn_r _ [16] (by decide +kernel) (by decide +kernel)
set_option maxRecDepth 20000 in
theorem gX11_next_X11_isLetter : GoodIn wsX11_next (va_wsS RX11 173 yX11_isLetter wsX11_isLetter) := goodIn_app (goodIn_of _ (by decide +kernel)) ggX11_next_X11_isLetter
set_option maxRecDepth 20000 in
theorem ggX11_next_X11_isDigit : GoodIn wsX11_next wsX11_isDigit := goodIn_r _ [19] (by decide +kernel) (by decide +kernel)
set_option maxRecDepth 20000 in
theorem gX11_next_X11_isDigit : GoodIn wsX11_next (va_wsS RX11 181 yX11_isDigit wsX11_isDigit) := goodIn_app (goodIn_of _ (by decide +kernel)) ggX11_next_X11_isDigit
theorem dX11_next_0 : decode cX11_next 0 = .ok (.aload_n 0, 1) := by decide +kernel
theorem dX11_next_1 : decode cX11_next 1 = .ok (.aload_n 0, 1) := by decide +kernel
theorem dX11_next_2 : decode cX11_next 2 = .ok (.getfield 163, 3) := by decide +kernel
theorem dX11_next_5 : decode cX11_next 5 = .ok (.invokevirtual 166, 3) := by decide +kernel
theorem dX11_next_8 : decode cX11_next 8 = .ok (.bipush 32, 2) := by decide +kernel
theorem dX11_next_10 : decode cX11_next 10 = .ok (.if_icmp .eq 16, 3) := by decide +kernel
theorem dX11_next_13 : decode cX11_next 13 = .ok (.aload_n 0, 1) := by decide +kernel
theorem dX11_next_14 : decode cX11_next 14 = .ok (.aload_n 0, 1) := by decide +kernel
theorem dX11_next_15 : decode cX11_next 15 = .ok (.getfield 163, 3) := by decide +kernel
theorem dX11_next_18 : decode cX11_next 18 = .ok (.invokevirtual 166, 3) := by decide +kernel
theorem dX11_next_21 : decode cX11_next 21 = .ok (.bipush 10, 2) := by decide +kernel
theorem dX11_next_23 : decode cX11_next 23 = .ok (.if_icmp .ne 16, 3) := by decide +kernel
theorem dX11_next_26 : decode cX11_next 26 = .ok (.aload_n 0, 1) := by decide +kernel
theorem dX11_next_27 : decode cX11_next 27 = .ok (.dup, 1) := by decide +kernel
theorem dX11_next_28 : decode cX11_next 28 = .ok (.getfield 163, 3) := by decide +kernel
theorem dX11_next_31 : decode cX11_next 31 = .ok (.iconst 1, 1) := by decide +kernel
theorem dX11_next_32 : decode cX11_next 32 = .ok (.iadd, 1) := by decide +kernel
theorem dX11_next_33 : decode cX11_next 33 = .ok (.putfield 163, 3) := by decide +kernel
theorem dX11_next_36 : decode cX11_next 36 = .ok (.goto (-36), 3) := by decide +kernel
theorem dX11_next_39 : decode cX11_next 39 = .ok (.aload_n 0, 1) := by decide +kernel
theorem dX11_next_40 : decode cX11_next 40 = .ok (.aload_n 0, 1) := by decide +kernel
theorem dX11_next_41 : decode cX11_next 41 = .ok (.getfield 163, 3) := by decide +kernel
theorem dX11_next_44 : decode cX11_next 44 = .ok (.putfield 169, 3) := by decide +kernel
theorem dX11_next_47 : decode cX11_next 47 = .ok (.aload_n 0, 1) := by decide +kernel
theorem dX11_next_48 : decode cX11_next 48 = .ok (.iconst 0, 1) := by decide +kernel
theorem dX11_next_49 : decode cX11_next 49 = .ok (.putfield 170, 3) := by decide +kernel
theorem dX11_next_52 : decode cX11_next 52 = .ok (.aload_n 0, 1) := by decide +kernel
theorem dX11_next_53 : decode cX11_next 53 = .ok (.aload_n 0, 1) := by decide +kernel
theorem dX11_next_54 : decode cX11_next 54 = .ok (.getfield 163, 3) := by decide +kernel
theorem dX11_next_57 : decode cX11_next 57 = .ok (.invokevirtual 166, 3) := by decide +kernel
theorem dX11_next_60 : decode cX11_next 60 = .ok (.istore_n 1, 1) := by decide +kernel
theorem dX11_next_61 : decode cX11_next 61 = .ok (.iconst 0, 1) := by decide +kernel
theorem dX11_next_62 : decode cX11_next 62 = .ok (.istore_n 2, 1) := by decide +kernel
theorem dX11_next_63 : decode cX11_next 63 = .ok (.iload_n 1, 1) := by decide +kernel
theorem dX11_next_64 : decode cX11_next 64 = .ok (.iconst (-1), 1) := by decide +kernel
theorem dX11_next_65 : decode cX11_next 65 = .ok (.if_icmp .ne 11, 3) := by decide +kernel
theorem dX11_next_68 : decode cX11_next 68 = .ok (.aload_n 0, 1) := by decide +kernel
theorem dX11_next_69 : decode cX11_next 69 = .ok (.iconst 1, 1) := by decide +kernel
theorem dX11_next_70 : decode cX11_next 70 = .ok (.putfield 170, 3) := by decide +kernel
theorem dX11_next_73 : decode cX11_next 73 = .ok (.goto 196, 3) := by decide +kernel
theorem dX11_next_76 : decode cX11_next 76 = .ok (.iload_n 1, 1) := by decide +kernel
theorem dX11_next_77 : decode cX11_next 77 = .ok (.invokestatic 173, 3) := by decide +kernel
theorem dX11_next_80 : decode cX11_next 80 = .ok (.ifCond .eq 85, 3) := by decide +kernel
theorem dX11_next_83 : decode cX11_next 83 = .ok (.aload_n 0, 1) := by decide +kernel
theorem dX11_next_84 : decode cX11_next 84 = .ok (.lconst 0, 1) := by decide +kernel
theorem dX11_next_85 : decode cX11_next 85 = .ok (.putfield 177, 3) := by decide +kernel
theorem dX11_next_88 : decode cX11_next 88 = .ok (.aload_n 0, 1) := by decide +kernel
theorem dX11_next_89 : decode cX11_next 89 = .ok (.aload_n 0, 1) := by decide +kernel
theorem dX11_next_90 : decode cX11_next 90 = .ok (.getfield 163, 3) := by decide +kernel
theorem dX11_next_93 : decode cX11_next 93 = .ok (.invokevirtual 166, 3) := by decide +kernel
theorem dX11_next_96 : decode cX11_next 96 = .ok (.invokestatic 173, 3) := by decide +kernel
theorem dX11_next_99 : decode cX11_next 99 = .ok (.ifCond .eq 52, 3) := by decide +kernel
theorem dX11_next_102 : decode cX11_next 102 = .ok (.iload_n 2, 1) := by decide +kernel
theorem dX11_next_103 : decode cX11_next 103 = .ok (.bipush 8, 2) := by decide +kernel
theorem dX11_next_105 : decode cX11_next 105 = .ok (.if_icmp .ge 30, 3) := by decide +kernel
theorem dX11_next_108 : decode cX11_next 108 = .ok (.aload_n 0, 1) := by decide +kernel
theorem dX11_next_109 : decode cX11_next 109 = .ok (.ldc2_w 157, 3) := by decide +kernel
theorem dX11_next_112 : decode cX11_next 112 = .ok (.aload_n 0, 1) := by decide +kernel
theorem dX11_next_113 : decode cX11_next 113 = .ok (.getfield 177, 3) := by decide +kernel
theorem dX11_next_116 : decode cX11_next 116 = .ok (.lmul, 1) := by decide +kernel
theorem dX11_next_117 : decode cX11_next 117 = .ok (.aload_n 0, 1) := by decide +kernel
theorem dX11_next_118 : decode cX11_next 118 = .ok (.aload_n 0, 1) := by decide +kernel
theorem dX11_next_119 : decode cX11_next 119 = .ok (.getfield 163, 3) := by decide +kernel
theorem dX11_next_122 : decode cX11_next 122 = .ok (.invokevirtual 166, 3) := by decide +kernel
theorem dX11_next_125 : decode cX11_next 125 = .ok (.bipush 97, 2) := by decide +kernel
theorem dX11_next_127 : decode cX11_next 127 = .ok (.isub, 1) := by decide +kernel
theorem dX11_next_128 : decode cX11_next 128 = .ok (.iconst 1, 1) := by decide +kernel
theorem dX11_next_129 : decode cX11_next 129 = .ok (.iadd, 1) := by decide +kernel
theorem dX11_next_130 : decode cX11_next 130 = .ok (.i2l, 1) := by decide +kernel
theorem dX11_next_131 : decode cX11_next 131 = .ok (.ladd, 1) := by decide +kernel
theorem dX11_next_132 : decode cX11_next 132 = .ok (.putfield 177, 3) := by decide +kernel
theorem dX11_next_135 : decode cX11_next 135 = .ok (.iinc 2 1, 3) := by decide +kernel
theorem dX11_next_138 : decode cX11_next 138 = .ok (.aload_n 0, 1) := by decide +kernel
theorem dX11_next_139 : decode cX11_next 139 = .ok (.dup, 1) := by decide +kernel
theorem dX11_next_140 : decode cX11_next 140 = .ok (.getfield 163, 3) := by decide +kernel
theorem dX11_next_143 : decode cX11_next 143 = .ok (.iconst 1, 1) := by decide +kernel
theorem dX11_next_144 : decode cX11_next 144 = .ok (.iadd, 1) := by decide +kernel
theorem dX11_next_145 : decode cX11_next 145 = .ok (.putfield 163, 3) := by decide +kernel
theorem dX11_next_148 : decode cX11_next 148 = .ok (.goto (-60), 3) := by decide +kernel
theorem dX11_next_151 : decode cX11_next 151 = .ok (.iload_n 2, 1) := by decide +kernel
theorem dX11_next_152 : decode cX11_next 152 = .ok (.bipush 9, 2) := by decide +kernel
theorem dX11_next_154 : decode cX11_next 154 = .ok (.if_icmp .ge 115, 3) := by decide +kernel
theorem dX11_next_157 : decode cX11_next 157 = .ok (.aload_n 0, 1) := by decide +kernel
theorem dX11_next_158 : decode cX11_next 158 = .ok (.iconst 2, 1) := by decide +kernel
theorem dX11_next_159 : decode cX11_next 159 = .ok (.putfield 170, 3) := by decide +kernel
theorem dX11_next_162 : decode cX11_next 162 = .ok (.goto 107, 3) := by decide +kernel
theorem dX11_next_165 : decode cX11_next 165 = .ok (.iload_n 1, 1) := by decide +kernel
theorem dX11_next_166 : decode cX11_next 166 = .ok (.invokestatic 181, 3) := by decide +kernel
theorem dX11_next_169 : decode cX11_next 169 = .ok (.ifCond .eq 79, 3) := by decide +kernel
theorem dX11_next_172 : decode cX11_next 172 = .ok (.aload_n 0, 1) := by decide +kernel
theorem dX11_next_173 : decode cX11_next 173 = .ok (.iconst 0, 1) := by decide +kernel
theorem dX11_next_174 : decode cX11_next 174 = .ok (.putfield 184, 3) := by decide +kernel
theorem dX11_next_177 : decode cX11_next 177 = .ok (.aload_n 0, 1) := by decide +kernel
theorem dX11_next_178 : decode cX11_next 178 = .ok (.aload_n 0, 1) := by decide +kernel
theorem dX11_next_179 : decode cX11_next 179 = .ok (.getfield 163, 3) := by decide +kernel
theorem dX11_next_182 : decode cX11_next 182 = .ok (.invokevirtual 166, 3) := by decide +kernel
theorem dX11_next_185 : decode cX11_next 185 = .ok (.invokestatic 181, 3) := by decide +kernel
theorem dX11_next_188 : decode cX11_next 188 = .ok (.ifCond .eq 47, 3) := by decide +kernel
theorem dX11_next_191 : decode cX11_next 191 = .ok (.iload_n 2, 1) := by decide +kernel
theorem dX11_next_192 : decode cX11_next 192 = .ok (.iconst 2, 1) := by decide +kernel
theorem dX11_next_193 : decode cX11_next 193 = .ok (.if_icmp .ge 26, 3) := by decide +kernel
theorem dX11_next_196 : decode cX11_next 196 = .ok (.aload_n 0, 1) := by decide +kernel
theorem dX11_next_197 : decode cX11_next 197 = .ok (.bipush 10, 2) := by decide +kernel
theorem dX11_next_199 : decode cX11_next 199 = .ok (.aload_n 0, 1) := by decide +kernel
theorem dX11_next_200 : decode cX11_next 200 = .ok (.getfield 184, 3) := by decide +kernel
theorem dX11_next_203 : decode cX11_next 203 = .ok (.imul, 1) := by decide +kernel
theorem dX11_next_204 : decode cX11_next 204 = .ok (.aload_n 0, 1) := by decide +kernel
theorem dX11_next_205 : decode cX11_next 205 = .ok (.aload_n 0, 1) := by decide +kernel
theorem dX11_next_206 : decode cX11_next 206 = .ok (.getfield 163, 3) := by decide +kernel
theorem dX11_next_209 : decode cX11_next 209 = .ok (.invokevirtual 166, 3) := by decide +kernel
theorem dX11_next_212 : decode cX11_next 212 = .ok (.iadd, 1) := by decide +kernel
theorem dX11_next_213 : decode cX11_next 213 = .ok (.bipush 48, 2) := by decide +kernel
theorem dX11_next_215 : decode cX11_next 215 = .ok (.isub, 1) := by decide +kernel
theorem dX11_next_216 : decode cX11_next 216 = .ok (.putfield 184, 3) := by decide +kernel
theorem dX11_next_219 : decode cX11_next 219 = .ok (.iinc 2 1, 3) := by decide +kernel
theorem dX11_next_222 : decode cX11_next 222 = .ok (.aload_n 0, 1) := by decide +kernel
theorem dX11_next_223 : decode cX11_next 223 = .ok (.dup, 1) := by decide +kernel
theorem dX11_next_224 : decode cX11_next 224 = .ok (.getfield 163, 3) := by decide +kernel
theorem dX11_next_227 : decode cX11_next 227 = .ok (.iconst 1, 1) := by decide +kernel
theorem dX11_next_228 : decode cX11_next 228 = .ok (.iadd, 1) := by decide +kernel
theorem dX11_next_229 : decode cX11_next 229 = .ok (.putfield 163, 3) := by decide +kernel
theorem dX11_next_232 : decode cX11_next 232 = .ok (.goto (-55), 3) := by decide +kernel
theorem dX11_next_235 : decode cX11_next 235 = .ok (.iload_n 2, 1) := by decide +kernel
theorem dX11_next_236 : decode cX11_next 236 = .ok (.iconst 3, 1) := by decide +kernel
theorem dX11_next_237 : decode cX11_next 237 = .ok (.if_icmp .ge 32, 3) := by decide +kernel
theorem dX11_next_240 : decode cX11_next 240 = .ok (.aload_n 0, 1) := by decide +kernel
theorem dX11_next_241 : decode cX11_next 241 = .ok (.iconst 3, 1) := by decide +kernel
theorem dX11_next_242 : decode cX11_next 242 = .ok (.putfield 170, 3) := by decide +kernel
theorem dX11_next_245 : decode cX11_next 245 = .ok (.goto 24, 3) := by decide +kernel
theorem dX11_next_248 : decode cX11_next 248 = .ok (.iload_n 1, 1) := by decide +kernel
theorem dX11_next_249 : decode cX11_next 249 = .ok (.bipush 59, 2) := by decide +kernel
theorem dX11_next_251 : decode cX11_next 251 = .ok (.if_icmp .ne 18, 3) := by decide +kernel
theorem dX11_next_254 : decode cX11_next 254 = .ok (.aload_n 0, 1) := by decide +kernel
theorem dX11_next_255 : decode cX11_next 255 = .ok (.iconst 4, 1) := by decide +kernel
theorem dX11_next_256 : decode cX11_next 256 = .ok (.putfield 170, 3) := by decide +kernel
theorem dX11_next_259 : decode cX11_next 259 = .ok (.aload_n 0, 1) := by decide +kernel
theorem dX11_next_260 : decode cX11_next 260 = .ok (.dup, 1) := by decide +kernel
theorem dX11_next_261 : decode cX11_next 261 = .ok (.getfield 163, 3) := by decide +kernel
theorem dX11_next_264 : decode cX11_next 264 = .ok (.iconst 1, 1) := by decide +kernel
theorem dX11_next_265 : decode cX11_next 265 = .ok (.iadd, 1) := by decide +kernel
theorem dX11_next_266 : decode cX11_next 266 = .ok (.putfield 163, 3) := by decide +kernel
theorem dX11_next_269 : decode cX11_next 269 = .ok (.return_, 1) := by decide +kernel
set_option maxRecDepth 20000 in
theorem ggX11_isWord_X11_wordOf : GoodIn wsX11_isWord wsX11_wordOf := goodIn_r _ [6, 7, 8, 9, 10, 11, 12, 13, 14, 15, 16, 17, 18, 19, 20, 21, 22, 23, 24, 25, 26, 27, 28, 29, 30, 31, 32, 33, 34, 35, 36, 37, 38, 39, 40, 41, 42, 43, 44, 45, 46, 47, 48, 49, 50, 51, 52, 53, 54, 55, 56] (by decide +kernel) (by decide +kernel)
set_option maxRecDepth 20000 in
theorem gX11_isWord_X11_wordOf : GoodIn wsX11_isWord (va_wsS RX11 187 yX11_wordOf wsX11_wordOf) := goodIn_app (goodIn_of _ (by decide +kernel)) ggX11_isWord_X11_wordOf
theorem dX11_isWord_0 : decode cX11_isWord 0 = .ok (.aload_n 0, 1) := by decide +kernel
theorem dX11_isWord_1 : decode cX11_isWord 1 = .ok (.getfield 170, 3) := by decide +kernel
theorem dX11_isWord_4 : decode cX11_isWord 4 = .ok (.iconst 2, 1) := by decide +kernel
theorem dX11_isWord_5 : decode cX11_isWord 5 = .ok (.if_icmp .ne 19, 3) := by decide +kernel
theorem dX11_isWord_8 : decode cX11_isWord 8 = .ok (.aload_n 0, 1) := by decide +kernel
theorem dX11_isWord_9 : decode cX11_isWord 9 = .ok (.getfield 177, 3) := by decide +kernel
theorem dX11_isWord_12 : decode cX11_isWord 12 = .ok (.aload_n 1, 1) := by decide +kernel
theorem dX11_isWord_13 : decode cX11_isWord 13 = .ok (.invokestatic 187, 3) := by decide +kernel
theorem dX11_isWord_16 : decode cX11_isWord 16 = .ok (.lcmp, 1) := by decide +kernel
theorem dX11_isWord_17 : decode cX11_isWord 17 = .ok (.ifCond .ne 7, 3) := by decide +kernel
theorem dX11_isWord_20 : decode cX11_isWord 20 = .ok (.iconst 1, 1) := by decide +kernel
theorem dX11_isWord_21 : decode cX11_isWord 21 = .ok (.goto 4, 3) := by decide +kernel
theorem dX11_isWord_24 : decode cX11_isWord 24 = .ok (.iconst 0, 1) := by decide +kernel
theorem dX11_isWord_25 : decode cX11_isWord 25 = .ok (.ireturn, 1) := by decide +kernel
set_option maxRecDepth 20000 in
theorem ggX11_needWord_X11_isWord : GoodIn wsX11_needWord wsX11_isWord := goodIn_r _ [6, 7, 8, 9, 10, 5, 11, 12, 13, 14, 15, 16, 17, 18, 19, 20, 21, 22, 23, 24, 25, 26, 27, 28, 29, 30, 31, 32, 33, 34, 35, 36, 37, 38, 39, 40, 41, 42, 43, 44, 45, 46, 47, 48, 49, 50, 51, 52, 53, 54, 55, 56, 57, 58, 59, 60, 61, 80, 81, 82, 83, 84, 85, 86, 87, 88, 89, 90, 91, 92, 93, 94, 95, 96, 97, 98, 99, 100, 101, 102, 103, 104, 105, 106, 107, 108, 109, 110, 111, 112, 113, 114, 115, 116, 117, 118, 119, 120, 121, 122, 123, 124, 125, 126, 127, 128, 129, 130, 131, 132, 133, 134, 135, 136, 137, 138, 139, 140, 141, 142, 143, 144, 145, 146, 147] (by decide +kernel) (by decide +kernel)
set_option maxRecDepth 20000 in
theorem gX11_needWord_X11_isWord : GoodIn wsX11_needWord (wsV RX11 191 RX11 yX11_isWord wsX11_isWord) := goodIn_app (goodIn_of _ (by decide +kernel)) ggX11_needWord_X11_isWord
set_option maxRecDepth 20000 in
theorem ggX11_needWord_X11_next : GoodIn wsX11_needWord wsX11_next := goodIn_r _ [65, 66, 1, 7, 8, 12, 67, 68, 69, 70, 5, 71, 72, 73, 74, 75, 76, 77, 78, 79, 80, 81, 82, 83, 84, 85, 86, 87, 88, 89, 90, 91, 92, 93, 94, 95, 96, 97, 98, 99, 100, 101, 102, 103, 104, 105, 106, 107, 108, 109, 110, 111, 112, 113, 114, 115, 116, 117, 118, 119, 120, 121, 122, 123, 124, 125, 126, 127, 128, 129, 130, 131, 132, 133, 134, 135, 136, 137, 138, 139, 140, 141, 142, 143, 144, 145, 146, 147] (by decide +kernel) (by decide +kernel)
set_option maxRecDepth 20000 in
theorem gX11_needWord_X11_next : GoodIn wsX11_needWord (wsV RX11 198 RX11 yX11_next wsX11_next) := goodIn_app (goodIn_of _ (by decide +kernel)) ggX11_needWord_X11_next
theorem dX11_needWord_0 : decode cX11_needWord 0 = .ok (.aload_n 0, 1) := by decide +kernel
theorem dX11_needWord_1 : decode cX11_needWord 1 = .ok (.aload_n 1, 1) := by decide +kernel
theorem dX11_needWord_2 : decode cX11_needWord 2 = .ok (.invokevirtual 191, 3) := by decide +kernel
theorem dX11_needWord_5 : decode cX11_needWord 5 = .ok (.ifCond .ne 13, 3) := by decide +kernel
theorem dX11_needWord_8 : decode cX11_needWord 8 = .ok (.aload_n 0, 1) := by decide +kernel
theorem dX11_needWord_9 : decode cX11_needWord 9 = .ok (.iconst 1, 1) := by decide +kernel
theorem dX11_needWord_10 : decode cX11_needWord 10 = .ok (.aload_n 0, 1) := by decide +kernel
theorem dX11_needWord_11 : decode cX11_needWord 11 = .ok (.getfield 169, 3) := by decide +kernel
theorem dX11_needWord_14 : decode cX11_needWord 14 = .ok (.invokevirtual 195, 3) := by decide +kernel
theorem dX11_needWord_17 : decode cX11_needWord 17 = .ok (.athrow, 1) := by decide +kernel
theorem dX11_needWord_18 : decode cX11_needWord 18 = .ok (.aload_n 0, 1) := by decide +kernel
theorem dX11_needWord_19 : decode cX11_needWord 19 = .ok (.invokevirtual 198, 3) := by decide +kernel
theorem dX11_needWord_22 : decode cX11_needWord 22 = .ok (.return_, 1) := by decide +kernel
set_option maxRecDepth 20000 in
theorem ggX11_needNumber_X11_in : GoodIn wsX11_needNumber wsX11_in := goodIn_r _ [7] (by decide +kernel) (by decide +kernel)
set_option maxRecDepth 20000 in
theorem gX11_needNumber_X11_in : GoodIn wsX11_needNumber (va_wsS RX11 136 yX11_in wsX11_in) := goodIn_app (goodIn_of _ (by decide +kernel)) ggX11_needNumber_X11_in
set_option maxRecDepth 20000 in
theorem ggX11_needNumber_X11_next : GoodIn wsX11_needNumber wsX11_next := goodIn_r _ [11, 12, 2, 1, 13, 14, 3, 15, 16, 17, 6, 18, 19, 20, 21, 22, 23, 24, 25, 26, 27, 28, 29, 30, 31, 32, 33, 34, 35, 36, 37, 38, 39, 40, 41, 42, 43, 44, 45, 46, 47, 48, 49, 50, 51, 52, 53, 54, 55, 56, 57, 58, 59, 60, 61, 62, 63, 64, 65, 66, 67, 68, 69, 70, 71, 72, 73, 74, 75, 76, 77, 78, 79, 80, 81, 82, 83, 84, 85, 86, 87, 88, 89, 90, 91, 92, 93, 94] (by decide +kernel) (by decide +kernel)
set_option maxRecDepth 20000 in
theorem gX11_needNumber_X11_next : GoodIn wsX11_needNumber (wsV RX11 198 RX11 yX11_next wsX11_next) := goodIn_app (goodIn_of _ (by decide +kernel)) ggX11_needNumber_X11_next
theorem dX11_needNumber_0 : decode cX11_needNumber 0 = .ok (.aload_n 0, 1) := by decide +kernel
theorem dX11_needNumber_1 : decode cX11_needNumber 1 = .ok (.getfield 170, 3) := by decide +kernel
theorem dX11_needNumber_4 : decode cX11_needNumber 4 = .ok (.iconst 3, 1) := by decide +kernel
theorem dX11_needNumber_5 : decode cX11_needNumber 5 = .ok (.if_icmp .eq 13, 3) := by decide +kernel
theorem dX11_needNumber_8 : decode cX11_needNumber 8 = .ok (.aload_n 0, 1) := by decide +kernel
theorem dX11_needNumber_9 : decode cX11_needNumber 9 = .ok (.iconst 1, 1) := by decide +kernel
theorem dX11_needNumber_10 : decode cX11_needNumber 10 = .ok (.aload_n 0, 1) := by decide +kernel
theorem dX11_needNumber_11 : decode cX11_needNumber 11 = .ok (.getfield 169, 3) := by decide +kernel
theorem dX11_needNumber_14 : decode cX11_needNumber 14 = .ok (.invokevirtual 195, 3) := by decide +kernel
theorem dX11_needNumber_17 : decode cX11_needNumber 17 = .ok (.athrow, 1) := by decide +kernel
theorem dX11_needNumber_18 : decode cX11_needNumber 18 = .ok (.aload_n 0, 1) := by decide +kernel
theorem dX11_needNumber_19 : decode cX11_needNumber 19 = .ok (.getfield 184, 3) := by decide +kernel
theorem dX11_needNumber_22 : decode cX11_needNumber 22 = .ok (.iload_n 1, 1) := by decide +kernel
theorem dX11_needNumber_23 : decode cX11_needNumber 23 = .ok (.iload_n 2, 1) := by decide +kernel
theorem dX11_needNumber_24 : decode cX11_needNumber 24 = .ok (.invokestatic 136, 3) := by decide +kernel
theorem dX11_needNumber_27 : decode cX11_needNumber 27 = .ok (.ifCond .ne 13, 3) := by decide +kernel
theorem dX11_needNumber_30 : decode cX11_needNumber 30 = .ok (.aload_n 0, 1) := by decide +kernel
theorem dX11_needNumber_31 : decode cX11_needNumber 31 = .ok (.iconst 2, 1) := by decide +kernel
theorem dX11_needNumber_32 : decode cX11_needNumber 32 = .ok (.aload_n 0, 1) := by decide +kernel
theorem dX11_needNumber_33 : decode cX11_needNumber 33 = .ok (.getfield 169, 3) := by decide +kernel
theorem dX11_needNumber_36 : decode cX11_needNumber 36 = .ok (.invokevirtual 195, 3) := by decide +kernel
theorem dX11_needNumber_39 : decode cX11_needNumber 39 = .ok (.athrow, 1) := by decide +kernel
theorem dX11_needNumber_40 : decode cX11_needNumber 40 = .ok (.aload_n 0, 1) := by decide +kernel
theorem dX11_needNumber_41 : decode cX11_needNumber 41 = .ok (.getfield 184, 3) := by decide +kernel
theorem dX11_needNumber_44 : decode cX11_needNumber 44 = .ok (.istore_n 3, 1) := by decide +kernel
theorem dX11_needNumber_45 : decode cX11_needNumber 45 = .ok (.aload_n 0, 1) := by decide +kernel
theorem dX11_needNumber_46 : decode cX11_needNumber 46 = .ok (.invokevirtual 198, 3) := by decide +kernel
theorem dX11_needNumber_49 : decode cX11_needNumber 49 = .ok (.iload_n 3, 1) := by decide +kernel
theorem dX11_needNumber_50 : decode cX11_needNumber 50 = .ok (.ireturn, 1) := by decide +kernel
set_option maxRecDepth 20000 in
theorem ggX11_needTarget_X11_next : GoodIn wsX11_needTarget wsX11_next := goodIn_r _ [9, 10, 2, 1, 11, 12, 4, 13, 14, 15, 8, 16, 17, 18, 19, 20, 21, 22, 23, 24, 25, 26, 27, 28, 29, 30, 31, 32, 33, 34, 35, 36, 37, 38, 39, 40, 41, 42, 43, 44, 45, 46, 47, 48, 49, 50, 51, 52, 53, 54, 55, 56, 57, 58, 59, 60, 61, 62, 63, 64, 65, 66, 67, 68, 69, 70, 71, 72, 73, 74, 75, 76, 77, 78, 79, 80, 81, 82, 83, 84, 85, 86, 87, 88, 89, 90, 91, 92] (by decide +kernel) (by decide +kernel)
set_option maxRecDepth 20000 in
theorem gX11_needTarget_X11_next : GoodIn wsX11_needTarget (wsV RX11 198 RX11 yX11_next wsX11_next) := goodIn_app (goodIn_of _ (by decide +kernel)) ggX11_needTarget_X11_next
theorem dX11_needTarget_0 : decode cX11_needTarget 0 = .ok (.aload_n 0, 1) := by decide +kernel
theorem dX11_needTarget_1 : decode cX11_needTarget 1 = .ok (.getfield 170, 3) := by decide +kernel
theorem dX11_needTarget_4 : decode cX11_needTarget 4 = .ok (.iconst 3, 1) := by decide +kernel
theorem dX11_needTarget_5 : decode cX11_needTarget 5 = .ok (.if_icmp .eq 13, 3) := by decide +kernel
theorem dX11_needTarget_8 : decode cX11_needTarget 8 = .ok (.aload_n 0, 1) := by decide +kernel
theorem dX11_needTarget_9 : decode cX11_needTarget 9 = .ok (.iconst 1, 1) := by decide +kernel
theorem dX11_needTarget_10 : decode cX11_needTarget 10 = .ok (.aload_n 0, 1) := by decide +kernel
theorem dX11_needTarget_11 : decode cX11_needTarget 11 = .ok (.getfield 169, 3) := by decide +kernel
theorem dX11_needTarget_14 : decode cX11_needTarget 14 = .ok (.invokevirtual 195, 3) := by decide +kernel
theorem dX11_needTarget_17 : decode cX11_needTarget 17 = .ok (.athrow, 1) := by decide +kernel
theorem dX11_needTarget_18 : decode cX11_needTarget 18 = .ok (.aload_n 0, 1) := by decide +kernel
theorem dX11_needTarget_19 : decode cX11_needTarget 19 = .ok (.getfield 52, 3) := by decide +kernel
theorem dX11_needTarget_22 : decode cX11_needTarget 22 = .ok (.iconst 2, 1) := by decide +kernel
theorem dX11_needTarget_23 : decode cX11_needTarget 23 = .ok (.iload_n 1, 1) := by decide +kernel
theorem dX11_needTarget_24 : decode cX11_needTarget 24 = .ok (.imul, 1) := by decide +kernel
theorem dX11_needTarget_25 : decode cX11_needTarget 25 = .ok (.iload_n 2, 1) := by decide +kernel
theorem dX11_needTarget_26 : decode cX11_needTarget 26 = .ok (.iadd, 1) := by decide +kernel
theorem dX11_needTarget_27 : decode cX11_needTarget 27 = .ok (.aload_n 0, 1) := by decide +kernel
theorem dX11_needTarget_28 : decode cX11_needTarget 28 = .ok (.getfield 169, 3) := by decide +kernel
theorem dX11_needTarget_31 : decode cX11_needTarget 31 = .ok (.iastore, 1) := by decide +kernel
theorem dX11_needTarget_32 : decode cX11_needTarget 32 = .ok (.aload_n 0, 1) := by decide +kernel
theorem dX11_needTarget_33 : decode cX11_needTarget 33 = .ok (.getfield 184, 3) := by decide +kernel
theorem dX11_needTarget_36 : decode cX11_needTarget 36 = .ok (.istore_n 3, 1) := by decide +kernel
theorem dX11_needTarget_37 : decode cX11_needTarget 37 = .ok (.aload_n 0, 1) := by decide +kernel
theorem dX11_needTarget_38 : decode cX11_needTarget 38 = .ok (.invokevirtual 198, 3) := by decide +kernel
theorem dX11_needTarget_41 : decode cX11_needTarget 41 = .ok (.iload_n 3, 1) := by decide +kernel
theorem dX11_needTarget_42 : decode cX11_needTarget 42 = .ok (.ireturn, 1) := by decide +kernel
set_option maxRecDepth 20000 in
theorem ggX11_reads_X11_next : GoodIn wsX11_reads wsX11_next := goodIn_r _ [14, 15, 3, 4, 16, 17, 18, 19, 20, 21, 13, 22, 23, 24, 25, 26, 27, 28, 29, 30, 109, 110, 111, 112, 113, 114, 115, 116, 117, 118, 119, 120, 121, 122, 123, 124, 125, 126, 127, 128, 129, 130, 131, 132, 133, 134, 135, 136, 137, 138, 139, 140, 141, 142, 143, 144, 145, 146, 147, 148, 149, 150, 151, 152, 153, 154, 155, 156, 157, 158, 159, 160, 161, 162, 163, 164, 165, 166, 167, 168, 169, 170, 171, 172, 173, 174, 175, 176] (by decide +kernel) (by decide +kernel)
set_option maxRecDepth 20000 in
theorem gX11_reads_X11_next : GoodIn wsX11_reads (wsV RX11 198 RX11 yX11_next wsX11_next) := goodIn_app (goodIn_of _ (by decide +kernel)) ggX11_reads_X11_next
set_option maxRecDepth 20000 in
theorem ggX11_reads_X11_isWord : GoodIn wsX11_reads wsX11_isWord := goodIn_r _ [34, 4, 16, 35, 36, 13, 37, 17, 38, 39, 40, 41, 42, 43, 44, 45, 46, 47, 48, 49, 50, 51, 52, 53, 54, 55, 56, 57, 58, 59, 60, 61, 62, 63, 64, 65, 66, 67, 68, 69, 70, 71, 72, 73, 74, 75, 76, 77, 78, 79, 80, 81, 82, 83, 84, 85, 86, 109, 110, 111, 112, 113, 114, 115, 116, 117, 118, 119, 120, 121, 122, 123, 124, 125, 126, 127, 128, 129, 130, 131, 132, 133, 134, 135, 136, 137, 138, 139, 140, 141, 142, 143, 144, 145, 146, 147, 148, 149, 150, 151, 152, 153, 154, 155, 156, 157, 158, 159, 160, 161, 162, 163, 164, 165, 166, 167, 168, 169, 170, 171, 172, 173, 174, 175, 176] (by decide +kernel) (by decide +kernel)
set_option maxRecDepth 20000 in
theorem gX11_reads_X11_isWord : GoodIn wsX11_reads (wsV RX11 191 RX11 yX11_isWord wsX11_isWord) := goodIn_app (goodIn_of _ (by decide +kernel)) ggX11_reads_X11_isWord
set_option maxRecDepth 20000 in
theorem ggX11_reads_X11_readStep : GoodIn wsX11_reads wsX11_readStep := goodIn_r _ [90, 5, 8, 6, 7, 91, 3, 92, 93, 94, 95, 96, 13, 97, 4, 18, 98, 99, 100, 10, 11, 12, 14, 15, 16, 17, 19, 20, 21, 22, 23, 24, 25, 26, 27, 28, 29, 30, 31, 32, 33, 34, 35, 36, 37, 38, 39, 40, 41, 42, 43, 44, 45, 46, 47, 48, 49, 50, 51, 52, 53, 54, 55, 56, 57, 58, 59, 60, 61, 62, 63, 64, 65, 66, 67, 68, 69, 70, 71, 72, 73, 74, 75, 76, 77, 78, 79, 80, 81, 82, 83, 84, 85, 86, 101, 102, 103, 104, 105, 106, 107, 108, 9, 109, 110, 111, 112, 113, 114, 115, 116, 117, 118, 119, 120, 121, 122, 123, 124, 125, 126, 127, 128, 129, 130, 131, 132, 133, 134, 135, 136, 137, 138, 139, 140, 141, 142, 143, 144, 145, 146, 147, 148, 149, 150, 151, 152, 153, 154, 155, 156, 157, 158, 159, 160, 161, 162, 163, 164, 165, 166, 167, 168, 169, 170, 171, 172, 173, 174, 175, 176] (by decide +kernel) (by decide +kernel)
set_option maxRecDepth 20000 in
theorem gX11_reads_X11_readStep : GoodIn wsX11_reads (wsV RX11 214 RX11 yX11_readStep wsX11_readStep) := goodIn_app (goodIn_of _ (by decide +kernel)) ggX11_reads_X11_readStep
theorem dX11_reads_0 : decode cX11_reads 0 = .ok (.aload_n 0, 1) := by decide +kernel
theorem dX11_reads_1 : decode cX11_reads 1 = .ok (.getfield 201, 3) := by decide +kernel
theorem dX11_reads_4 : decode cX11_reads 4 = .ok (.istore_n 1, 1) := by decide +kernel
theorem dX11_reads_5 : decode cX11_reads 5 = .ok (.aload_n 0, 1) := by decide +kernel
theorem dX11_reads_6 : decode cX11_reads 6 = .ok (.getfield 23, 3) := by decide +kernel
theorem dX11_reads_9 : decode cX11_reads 9 = .ok (.iload_n 1, 1) := by decide +kernel
theorem dX11_reads_10 : decode cX11_reads 10 = .ok (.iconst 0, 1) := by decide +kernel
theorem dX11_reads_11 : decode cX11_reads 11 = .ok (.iastore, 1) := by decide +kernel
theorem dX11_reads_12 : decode cX11_reads 12 = .ok (.aload_n 0, 1) := by decide +kernel
theorem dX11_reads_13 : decode cX11_reads 13 = .ok (.invokevirtual 198, 3) := by decide +kernel
theorem dX11_reads_16 : decode cX11_reads 16 = .ok (.iconst 1, 1) := by decide +kernel
theorem dX11_reads_17 : decode cX11_reads 17 = .ok (.istore_n 2, 1) := by decide +kernel
theorem dX11_reads_18 : decode cX11_reads 18 = .ok (.iload_n 2, 1) := by decide +kernel
theorem dX11_reads_19 : decode cX11_reads 19 = .ok (.ifCond .eq 167, 3) := by decide +kernel
theorem dX11_reads_22 : decode cX11_reads 22 = .ok (.aload_n 0, 1) := by decide +kernel
theorem dX11_reads_23 : decode cX11_reads 23 = .ok (.ldc 204, 2) := by decide +kernel
theorem dX11_reads_25 : decode cX11_reads 25 = .ok (.invokevirtual 191, 3) := by decide +kernel
theorem dX11_reads_28 : decode cX11_reads 28 = .ok (.ifCond .eq 7, 3) := by decide +kernel
theorem dX11_reads_31 : decode cX11_reads 31 = .ok (.iconst 0, 1) := by decide +kernel
theorem dX11_reads_32 : decode cX11_reads 32 = .ok (.goto 56, 3) := by decide +kernel
theorem dX11_reads_35 : decode cX11_reads 35 = .ok (.aload_n 0, 1) := by decide +kernel
theorem dX11_reads_36 : decode cX11_reads 36 = .ok (.ldc 206, 2) := by decide +kernel
theorem dX11_reads_38 : decode cX11_reads 38 = .ok (.invokevirtual 191, 3) := by decide +kernel
theorem dX11_reads_41 : decode cX11_reads 41 = .ok (.ifCond .eq 7, 3) := by decide +kernel
theorem dX11_reads_44 : decode cX11_reads 44 = .ok (.iconst 2, 1) := by decide +kernel
theorem dX11_reads_45 : decode cX11_reads 45 = .ok (.goto 43, 3) := by decide +kernel
theorem dX11_reads_48 : decode cX11_reads 48 = .ok (.aload_n 0, 1) := by decide +kernel
theorem dX11_reads_49 : decode cX11_reads 49 = .ok (.ldc 208, 2) := by decide +kernel
theorem dX11_reads_51 : decode cX11_reads 51 = .ok (.invokevirtual 191, 3) := by decide +kernel
theorem dX11_reads_54 : decode cX11_reads 54 = .ok (.ifCond .eq 7, 3) := by decide +kernel
theorem dX11_reads_57 : decode cX11_reads 57 = .ok (.iconst 3, 1) := by decide +kernel
theorem dX11_reads_58 : decode cX11_reads 58 = .ok (.goto 30, 3) := by decide +kernel
theorem dX11_reads_61 : decode cX11_reads 61 = .ok (.aload_n 0, 1) := by decide +kernel
theorem dX11_reads_62 : decode cX11_reads 62 = .ok (.ldc 210, 2) := by decide +kernel
theorem dX11_reads_64 : decode cX11_reads 64 = .ok (.invokevirtual 191, 3) := by decide +kernel
theorem dX11_reads_67 : decode cX11_reads 67 = .ok (.ifCond .eq 7, 3) := by decide +kernel
theorem dX11_reads_70 : decode cX11_reads 70 = .ok (.iconst 4, 1) := by decide +kernel
theorem dX11_reads_71 : decode cX11_reads 71 = .ok (.goto 17, 3) := by decide +kernel
theorem dX11_reads_74 : decode cX11_reads 74 = .ok (.aload_n 0, 1) := by decide +kernel
theorem dX11_reads_75 : decode cX11_reads 75 = .ok (.ldc 212, 2) := by decide +kernel
theorem dX11_reads_77 : decode cX11_reads 77 = .ok (.invokevirtual 191, 3) := by decide +kernel
theorem dX11_reads_80 : decode cX11_reads 80 = .ok (.ifCond .eq 7, 3) := by decide +kernel
theorem dX11_reads_83 : decode cX11_reads 83 = .ok (.iconst 5, 1) := by decide +kernel
theorem dX11_reads_84 : decode cX11_reads 84 = .ok (.goto 4, 3) := by decide +kernel
theorem dX11_reads_87 : decode cX11_reads 87 = .ok (.iconst (-1), 1) := by decide +kernel
theorem dX11_reads_88 : decode cX11_reads 88 = .ok (.istore_n 3, 1) := by decide +kernel
theorem dX11_reads_89 : decode cX11_reads 89 = .ok (.iload_n 3, 1) := by decide +kernel
theorem dX11_reads_90 : decode cX11_reads 90 = .ok (.iconst (-1), 1) := by decide +kernel
theorem dX11_reads_91 : decode cX11_reads 91 = .ok (.if_icmp .ne 13, 3) := by decide +kernel
theorem dX11_reads_94 : decode cX11_reads 94 = .ok (.aload_n 0, 1) := by decide +kernel
theorem dX11_reads_95 : decode cX11_reads 95 = .ok (.iconst 1, 1) := by decide +kernel
theorem dX11_reads_96 : decode cX11_reads 96 = .ok (.aload_n 0, 1) := by decide +kernel
theorem dX11_reads_97 : decode cX11_reads 97 = .ok (.getfield 169, 3) := by decide +kernel
theorem dX11_reads_100 : decode cX11_reads 100 = .ok (.invokevirtual 195, 3) := by decide +kernel
theorem dX11_reads_103 : decode cX11_reads 103 = .ok (.athrow, 1) := by decide +kernel
theorem dX11_reads_104 : decode cX11_reads 104 = .ok (.aload_n 0, 1) := by decide +kernel
theorem dX11_reads_105 : decode cX11_reads 105 = .ok (.getfield 23, 3) := by decide +kernel
theorem dX11_reads_108 : decode cX11_reads 108 = .ok (.iload_n 1, 1) := by decide +kernel
theorem dX11_reads_109 : decode cX11_reads 109 = .ok (.iaload, 1) := by decide +kernel
theorem dX11_reads_110 : decode cX11_reads 110 = .ok (.bipush 24, 2) := by decide +kernel
theorem dX11_reads_112 : decode cX11_reads 112 = .ok (.if_icmp .ne 13, 3) := by decide +kernel
theorem dX11_reads_115 : decode cX11_reads 115 = .ok (.aload_n 0, 1) := by decide +kernel
theorem dX11_reads_116 : decode cX11_reads 116 = .ok (.iconst 3, 1) := by decide +kernel
theorem dX11_reads_117 : decode cX11_reads 117 = .ok (.aload_n 0, 1) := by decide +kernel
theorem dX11_reads_118 : decode cX11_reads 118 = .ok (.getfield 169, 3) := by decide +kernel
theorem dX11_reads_121 : decode cX11_reads 121 = .ok (.invokevirtual 195, 3) := by decide +kernel
theorem dX11_reads_124 : decode cX11_reads 124 = .ok (.athrow, 1) := by decide +kernel
theorem dX11_reads_125 : decode cX11_reads 125 = .ok (.aload_n 0, 1) := by decide +kernel
theorem dX11_reads_126 : decode cX11_reads 126 = .ok (.invokevirtual 198, 3) := by decide +kernel
theorem dX11_reads_129 : decode cX11_reads 129 = .ok (.aload_n 0, 1) := by decide +kernel
theorem dX11_reads_130 : decode cX11_reads 130 = .ok (.bipush 24, 2) := by decide +kernel
theorem dX11_reads_132 : decode cX11_reads 132 = .ok (.iload_n 1, 1) := by decide +kernel
theorem dX11_reads_133 : decode cX11_reads 133 = .ok (.imul, 1) := by decide +kernel
theorem dX11_reads_134 : decode cX11_reads 134 = .ok (.aload_n 0, 1) := by decide +kernel
theorem dX11_reads_135 : decode cX11_reads 135 = .ok (.getfield 23, 3) := by decide +kernel
theorem dX11_reads_138 : decode cX11_reads 138 = .ok (.iload_n 1, 1) := by decide +kernel
theorem dX11_reads_139 : decode cX11_reads 139 = .ok (.iaload, 1) := by decide +kernel
theorem dX11_reads_140 : decode cX11_reads 140 = .ok (.iadd, 1) := by decide +kernel
theorem dX11_reads_141 : decode cX11_reads 141 = .ok (.aload_n 0, 1) := by decide +kernel
theorem dX11_reads_142 : decode cX11_reads 142 = .ok (.getfield 23, 3) := by decide +kernel
theorem dX11_reads_145 : decode cX11_reads 145 = .ok (.iload_n 1, 1) := by decide +kernel
theorem dX11_reads_146 : decode cX11_reads 146 = .ok (.iaload, 1) := by decide +kernel
theorem dX11_reads_147 : decode cX11_reads 147 = .ok (.iload_n 3, 1) := by decide +kernel
theorem dX11_reads_148 : decode cX11_reads 148 = .ok (.invokevirtual 214, 3) := by decide +kernel
theorem dX11_reads_151 : decode cX11_reads 151 = .ok (.aload_n 0, 1) := by decide +kernel
theorem dX11_reads_152 : decode cX11_reads 152 = .ok (.getfield 23, 3) := by decide +kernel
theorem dX11_reads_155 : decode cX11_reads 155 = .ok (.iload_n 1, 1) := by decide +kernel
theorem dX11_reads_156 : decode cX11_reads 156 = .ok (.dup2, 1) := by decide +kernel
