theorem dX11_night_6 : decode cX11_night 6 = .ok (.getfield 411, 3) := by decide +kernel
theorem dX11_night_9 : decode cX11_night 9 = .ok (.ifCond .ne 5, 3) := by decide +kernel
theorem dX11_night_12 : decode cX11_night 12 = .ok (.iconst (-1), 1) := by decide +kernel
theorem dX11_night_13 : decode cX11_night 13 = .ok (.ireturn, 1) := by decide +kernel
theorem dX11_night_14 : decode cX11_night 14 = .ok (.iload_n 1, 1) := by decide +kernel
theorem dX11_night_15 : decode cX11_night 15 = .ok (.ifCond .eq 10, 3) := by decide +kernel
theorem dX11_night_18 : decode cX11_night 18 = .ok (.aload_n 0, 1) := by decide +kernel
theorem dX11_night_19 : decode cX11_night 19 = .ok (.getfield 96, 3) := by decide +kernel
theorem dX11_night_22 : decode cX11_night 22 = .ok (.goto 7, 3) := by decide +kernel
theorem dX11_night_25 : decode cX11_night 25 = .ok (.aload_n 0, 1) := by decide +kernel
theorem dX11_night_26 : decode cX11_night 26 = .ok (.getfield 92, 3) := by decide +kernel
theorem dX11_night_29 : decode cX11_night 29 = .ok (.astore_n 3, 1) := by decide +kernel
theorem dX11_night_30 : decode cX11_night 30 = .ok (.iload_n 2, 1) := by decide +kernel
theorem dX11_night_31 : decode cX11_night 31 = .ok (.ifCond .ne 10, 3) := by decide +kernel
theorem dX11_night_34 : decode cX11_night 34 = .ok (.aload_n 3, 1) := by decide +kernel
theorem dX11_night_35 : decode cX11_night 35 = .ok (.getfield 361, 3) := by decide +kernel
theorem dX11_night_38 : decode cX11_night 38 = .ok (.goto 28, 3) := by decide +kernel
theorem dX11_night_41 : decode cX11_night 41 = .ok (.iload_n 2, 1) := by decide +kernel
theorem dX11_night_42 : decode cX11_night 42 = .ok (.iconst 1, 1) := by decide +kernel
theorem dX11_night_43 : decode cX11_night 43 = .ok (.if_icmp .ne 10, 3) := by decide +kernel
theorem dX11_night_46 : decode cX11_night 46 = .ok (.aload_n 3, 1) := by decide +kernel
theorem dX11_night_47 : decode cX11_night 47 = .ok (.getfield 414, 3) := by decide +kernel
theorem dX11_night_50 : decode cX11_night 50 = .ok (.goto 16, 3) := by decide +kernel
theorem dX11_night_53 : decode cX11_night 53 = .ok (.iload_n 2, 1) := by decide +kernel
theorem dX11_night_54 : decode cX11_night 54 = .ok (.iconst 2, 1) := by decide +kernel
theorem dX11_night_55 : decode cX11_night 55 = .ok (.if_icmp .ne 10, 3) := by decide +kernel
theorem dX11_night_58 : decode cX11_night 58 = .ok (.aload_n 3, 1) := by decide +kernel
theorem dX11_night_59 : decode cX11_night 59 = .ok (.getfield 401, 3) := by decide +kernel
theorem dX11_night_62 : decode cX11_night 62 = .ok (.goto 4, 3) := by decide +kernel
theorem dX11_night_65 : decode cX11_night 65 = .ok (.iconst (-1), 1) := by decide +kernel
theorem dX11_night_66 : decode cX11_night 66 = .ok (.ireturn, 1) := by decide +kernel
set_option maxRecDepth 20000 in
theorem ggX11_log_X11_in : GoodIn wsX11_log wsX11_in := goodIn_r _ [7] (by decide +kernel) (by decide +kernel)
set_option maxRecDepth 20000 in
theorem gX11_log_X11_in : GoodIn wsX11_log (va_wsS RX11 136 yX11_in wsX11_in) := goodIn_app (goodIn_of _ (by decide +kernel)) ggX11_log_X11_in
set_option maxRecDepth 20000 in
theorem ggX11_log_X11_refused : GoodIn wsX11_log wsX11_refused := goodIn_r _ [11, 12, 13, 18, 19, 20, 21, 22, 23, 24, 25, 26, 27, 28, 29, 30, 31, 32, 33, 34, 35, 36, 37, 38, 39, 40, 41, 42, 43, 44, 45, 46, 47, 48, 49, 50, 51, 52, 53, 54, 55, 56, 57, 58, 59, 60, 61, 62, 63, 64, 65, 66, 67, 68, 69, 70, 71, 72, 73, 74, 75, 76, 77, 78, 79, 80, 81, 82, 83, 84, 85] (by decide +kernel) (by decide +kernel)
set_option maxRecDepth 20000 in
theorem gX11_log_X11_refused : GoodIn wsX11_log (wsV RX11 126 RX11 yX11_refused wsX11_refused) := goodIn_app (goodIn_of _ (by decide +kernel)) ggX11_log_X11_refused
set_option maxRecDepth 20000 in
theorem ggX11_log_X11_done : GoodIn wsX11_log wsX11_done := goodIn_r _ [17, 12, 13, 18, 19, 20, 21, 22, 23, 24, 25, 26, 27, 28, 29, 30, 31, 32, 33, 34, 35, 36, 37, 38, 39, 40, 41, 42, 43, 44, 45, 46, 47, 48, 49, 50, 51, 52, 53, 54, 55, 56, 57, 58, 59, 60, 61, 62, 63, 64, 65, 66, 67, 68, 69, 70, 71, 72, 73, 74, 75, 76, 77, 78, 79, 80, 81, 82, 83, 84, 85] (by decide +kernel) (by decide +kernel)
set_option maxRecDepth 20000 in
theorem gX11_log_X11_done : GoodIn wsX11_log (wsV RX11 130 RX11 yX11_done wsX11_done) := goodIn_app (goodIn_of _ (by decide +kernel)) ggX11_log_X11_done
theorem dX11_log_0 : decode cX11_log 0 = .ok (.aload_n 0, 1) := by decide +kernel
theorem dX11_log_1 : decode cX11_log 1 = .ok (.iconst 0, 1) := by decide +kernel
theorem dX11_log_2 : decode cX11_log 2 = .ok (.putfield 117, 3) := by decide +kernel
theorem dX11_log_5 : decode cX11_log 5 = .ok (.iload_n 1, 1) := by decide +kernel
theorem dX11_log_6 : decode cX11_log 6 = .ok (.iconst 0, 1) := by decide +kernel
theorem dX11_log_7 : decode cX11_log 7 = .ok (.bipush 23, 2) := by decide +kernel
theorem dX11_log_9 : decode cX11_log 9 = .ok (.invokestatic 136, 3) := by decide +kernel
theorem dX11_log_12 : decode cX11_log 12 = .ok (.ifCond .ne 9, 3) := by decide +kernel
theorem dX11_log_15 : decode cX11_log 15 = .ok (.aload_n 0, 1) := by decide +kernel
theorem dX11_log_16 : decode cX11_log 16 = .ok (.iconst 2, 1) := by decide +kernel
theorem dX11_log_17 : decode cX11_log 17 = .ok (.invokevirtual 126, 3) := by decide +kernel
theorem dX11_log_20 : decode cX11_log 20 = .ok (.ireturn, 1) := by decide +kernel
theorem dX11_log_21 : decode cX11_log 21 = .ok (.aload_n 0, 1) := by decide +kernel
theorem dX11_log_22 : decode cX11_log 22 = .ok (.getfield 420, 3) := by decide +kernel
theorem dX11_log_25 : decode cX11_log 25 = .ok (.sipush 200, 3) := by decide +kernel
theorem dX11_log_28 : decode cX11_log 28 = .ok (.if_icmp .ne 9, 3) := by decide +kernel
theorem dX11_log_31 : decode cX11_log 31 = .ok (.aload_n 0, 1) := by decide +kernel
theorem dX11_log_32 : decode cX11_log 32 = .ok (.iconst 3, 1) := by decide +kernel
theorem dX11_log_33 : decode cX11_log 33 = .ok (.invokevirtual 126, 3) := by decide +kernel
theorem dX11_log_36 : decode cX11_log 36 = .ok (.ireturn, 1) := by decide +kernel
theorem dX11_log_37 : decode cX11_log 37 = .ok (.aload_n 0, 1) := by decide +kernel
theorem dX11_log_38 : decode cX11_log 38 = .ok (.getfield 102, 3) := by decide +kernel
theorem dX11_log_41 : decode cX11_log 41 = .ok (.aload_n 0, 1) := by decide +kernel
theorem dX11_log_42 : decode cX11_log 42 = .ok (.getfield 420, 3) := by decide +kernel
theorem dX11_log_45 : decode cX11_log 45 = .ok (.iload_n 1, 1) := by decide +kernel
theorem dX11_log_46 : decode cX11_log 46 = .ok (.iastore, 1) := by decide +kernel
theorem dX11_log_47 : decode cX11_log 47 = .ok (.aload_n 0, 1) := by decide +kernel
theorem dX11_log_48 : decode cX11_log 48 = .ok (.dup, 1) := by decide +kernel
theorem dX11_log_49 : decode cX11_log 49 = .ok (.getfield 420, 3) := by decide +kernel
theorem dX11_log_52 : decode cX11_log 52 = .ok (.iconst 1, 1) := by decide +kernel
theorem dX11_log_53 : decode cX11_log 53 = .ok (.iadd, 1) := by decide +kernel
theorem dX11_log_54 : decode cX11_log 54 = .ok (.putfield 420, 3) := by decide +kernel
theorem dX11_log_57 : decode cX11_log 57 = .ok (.aload_n 0, 1) := by decide +kernel
theorem dX11_log_58 : decode cX11_log 58 = .ok (.aload_n 0, 1) := by decide +kernel
theorem dX11_log_59 : decode cX11_log 59 = .ok (.getfield 420, 3) := by decide +kernel
theorem dX11_log_62 : decode cX11_log 62 = .ok (.invokevirtual 130, 3) := by decide +kernel
theorem dX11_log_65 : decode cX11_log 65 = .ok (.ireturn, 1) := by decide +kernel
theorem dX11_clear_0 : decode cX11_clear 0 = .ok (.aload_n 0, 1) := by decide +kernel
theorem dX11_clear_1 : decode cX11_clear 1 = .ok (.iconst 0, 1) := by decide +kernel
theorem dX11_clear_2 : decode cX11_clear 2 = .ok (.putfield 117, 3) := by decide +kernel
theorem dX11_clear_5 : decode cX11_clear 5 = .ok (.aload_n 0, 1) := by decide +kernel
theorem dX11_clear_6 : decode cX11_clear 6 = .ok (.getfield 420, 3) := by decide +kernel
theorem dX11_clear_9 : decode cX11_clear 9 = .ok (.istore_n 1, 1) := by decide +kernel
theorem dX11_clear_10 : decode cX11_clear 10 = .ok (.aload_n 0, 1) := by decide +kernel
theorem dX11_clear_11 : decode cX11_clear 11 = .ok (.iconst 0, 1) := by decide +kernel
theorem dX11_clear_12 : decode cX11_clear 12 = .ok (.putfield 420, 3) := by decide +kernel
theorem dX11_clear_15 : decode cX11_clear 15 = .ok (.iload_n 1, 1) := by decide +kernel
theorem dX11_clear_16 : decode cX11_clear 16 = .ok (.ireturn, 1) := by decide +kernel
set_option maxRecDepth 20000 in
theorem ggX11_laid_X11_refused : GoodIn wsX11_laid wsX11_refused := goodIn_r _ [22, 23, 24, 29, 30, 31, 32, 33, 34, 35, 36, 37, 38, 39, 40, 41, 42, 43, 44, 45, 46, 47, 48, 49, 50, 51, 52, 53, 54, 55, 56, 57, 58, 59, 60, 61, 62, 63, 64, 65, 66, 67, 68, 69, 70, 71, 72, 73, 74, 75, 76, 77, 78, 79, 80, 81, 82, 83, 84, 85, 86, 87, 88, 89, 90, 91, 92, 93, 94, 95, 96] (by decide +kernel) (by decide +kernel)
set_option maxRecDepth 20000 in
theorem gX11_laid_X11_refused : GoodIn wsX11_laid (wsV RX11 126 RX11 yX11_refused wsX11_refused) := goodIn_app (goodIn_of _ (by decide +kernel)) ggX11_laid_X11_refused
set_option maxRecDepth 20000 in
theorem ggX11_laid_X11_done : GoodIn wsX11_laid wsX11_done := goodIn_r _ [28, 23, 24, 29, 30, 31, 32, 33, 34, 35, 36, 37, 38, 39, 40, 41, 42, 43, 44, 45, 46, 47, 48, 49, 50, 51, 52, 53, 54, 55, 56, 57, 58, 59, 60, 61, 62, 63, 64, 65, 66, 67, 68, 69, 70, 71, 72, 73, 74, 75, 76, 77, 78, 79, 80, 81, 82, 83, 84, 85, 86, 87, 88, 89, 90, 91, 92, 93, 94, 95, 96] (by decide +kernel) (by decide +kernel)
set_option maxRecDepth 20000 in
theorem gX11_laid_X11_done : GoodIn wsX11_laid (wsV RX11 130 RX11 yX11_done wsX11_done) := goodIn_app (goodIn_of _ (by decide +kernel)) ggX11_laid_X11_done
theorem dX11_laid_0 : decode cX11_laid 0 = .ok (.aload_n 0, 1) := by decide +kernel
theorem dX11_laid_1 : decode cX11_laid 1 = .ok (.iconst 0, 1) := by decide +kernel
theorem dX11_laid_2 : decode cX11_laid 2 = .ok (.putfield 117, 3) := by decide +kernel
theorem dX11_laid_5 : decode cX11_laid 5 = .ok (.aload_n 0, 1) := by decide +kernel
theorem dX11_laid_6 : decode cX11_laid 6 = .ok (.getfield 298, 3) := by decide +kernel
theorem dX11_laid_9 : decode cX11_laid 9 = .ok (.ifCond .ne 9, 3) := by decide +kernel
theorem dX11_laid_12 : decode cX11_laid 12 = .ok (.aload_n 0, 1) := by decide +kernel
theorem dX11_laid_13 : decode cX11_laid 13 = .ok (.iconst 5, 1) := by decide +kernel
theorem dX11_laid_14 : decode cX11_laid 14 = .ok (.invokevirtual 126, 3) := by decide +kernel
theorem dX11_laid_17 : decode cX11_laid 17 = .ok (.ireturn, 1) := by decide +kernel
theorem dX11_laid_18 : decode cX11_laid 18 = .ok (.aload_n 0, 1) := by decide +kernel
theorem dX11_laid_19 : decode cX11_laid 19 = .ok (.getfield 305, 3) := by decide +kernel
theorem dX11_laid_22 : decode cX11_laid 22 = .ok (.sipush 300, 3) := by decide +kernel
theorem dX11_laid_25 : decode cX11_laid 25 = .ok (.invokestatic 423, 3) := by decide +kernel
theorem dX11_laid_28 : decode cX11_laid 28 = .ok (.istore_n 1, 1) := by decide +kernel
theorem dX11_laid_29 : decode cX11_laid 29 = .ok (.iconst 0, 1) := by decide +kernel
theorem dX11_laid_30 : decode cX11_laid 30 = .ok (.istore_n 2, 1) := by decide +kernel
theorem dX11_laid_31 : decode cX11_laid 31 = .ok (.iload_n 2, 1) := by decide +kernel
theorem dX11_laid_32 : decode cX11_laid 32 = .ok (.aload_n 0, 1) := by decide +kernel
theorem dX11_laid_33 : decode cX11_laid 33 = .ok (.getfield 420, 3) := by decide +kernel
theorem dX11_laid_36 : decode cX11_laid 36 = .ok (.if_icmp .gt 16, 3) := by decide +kernel
theorem dX11_laid_39 : decode cX11_laid 39 = .ok (.aload_n 0, 1) := by decide +kernel
theorem dX11_laid_40 : decode cX11_laid 40 = .ok (.getfield 105, 3) := by decide +kernel
theorem dX11_laid_43 : decode cX11_laid 43 = .ok (.iload_n 2, 1) := by decide +kernel
theorem dX11_laid_44 : decode cX11_laid 44 = .ok (.iconst 0, 1) := by decide +kernel
theorem dX11_laid_45 : decode cX11_laid 45 = .ok (.iastore, 1) := by decide +kernel
theorem dX11_laid_46 : decode cX11_laid 46 = .ok (.iinc 2 1, 3) := by decide +kernel
theorem dX11_laid_49 : decode cX11_laid 49 = .ok (.goto (-18), 3) := by decide +kernel
theorem dX11_laid_52 : decode cX11_laid 52 = .ok (.iconst 0, 1) := by decide +kernel
theorem dX11_laid_53 : decode cX11_laid 53 = .ok (.istore_n 2, 1) := by decide +kernel
theorem dX11_laid_54 : decode cX11_laid 54 = .ok (.iload_n 2, 1) := by decide +kernel
theorem dX11_laid_55 : decode cX11_laid 55 = .ok (.iload_n 1, 1) := by decide +kernel
theorem dX11_laid_56 : decode cX11_laid 56 = .ok (.if_icmp .ge 113, 3) := by decide +kernel
theorem dX11_laid_59 : decode cX11_laid 59 = .ok (.aload_n 0, 1) := by decide +kernel
theorem dX11_laid_60 : decode cX11_laid 60 = .ok (.getfield 108, 3) := by decide +kernel
theorem dX11_laid_63 : decode cX11_laid 63 = .ok (.iconst 0, 1) := by decide +kernel
theorem dX11_laid_64 : decode cX11_laid 64 = .ok (.iconst 0, 1) := by decide +kernel
theorem dX11_laid_65 : decode cX11_laid 65 = .ok (.iastore, 1) := by decide +kernel
theorem dX11_laid_66 : decode cX11_laid 66 = .ok (.iconst 1, 1) := by decide +kernel
theorem dX11_laid_67 : decode cX11_laid 67 = .ok (.istore_n 3, 1) := by decide +kernel
theorem dX11_laid_68 : decode cX11_laid 68 = .ok (.iload_n 3, 1) := by decide +kernel
theorem dX11_laid_69 : decode cX11_laid 69 = .ok (.aload_n 0, 1) := by decide +kernel
theorem dX11_laid_70 : decode cX11_laid 70 = .ok (.getfield 420, 3) := by decide +kernel
theorem dX11_laid_73 : decode cX11_laid 73 = .ok (.if_icmp .gt 62, 3) := by decide +kernel
theorem dX11_laid_76 : decode cX11_laid 76 = .ok (.aload_n 0, 1) := by decide +kernel
theorem dX11_laid_77 : decode cX11_laid 77 = .ok (.getfield 108, 3) := by decide +kernel
theorem dX11_laid_80 : decode cX11_laid 80 = .ok (.iload_n 3, 1) := by decide +kernel
theorem dX11_laid_81 : decode cX11_laid 81 = .ok (.aload_n 0, 1) := by decide +kernel
theorem dX11_laid_82 : decode cX11_laid 82 = .ok (.getfield 102, 3) := by decide +kernel
theorem dX11_laid_85 : decode cX11_laid 85 = .ok (.iload_n 3, 1) := by decide +kernel
theorem dX11_laid_86 : decode cX11_laid 86 = .ok (.iconst 1, 1) := by decide +kernel
theorem dX11_laid_87 : decode cX11_laid 87 = .ok (.isub, 1) := by decide +kernel
theorem dX11_laid_88 : decode cX11_laid 88 = .ok (.iaload, 1) := by decide +kernel
theorem dX11_laid_89 : decode cX11_laid 89 = .ok (.aload_n 0, 1) := by decide +kernel
theorem dX11_laid_90 : decode cX11_laid 90 = .ok (.getfield 64, 3) := by decide +kernel
theorem dX11_laid_93 : decode cX11_laid 93 = .ok (.iload_n 2, 1) := by decide +kernel
theorem dX11_laid_94 : decode cX11_laid 94 = .ok (.iaload, 1) := by decide +kernel
theorem dX11_laid_95 : decode cX11_laid 95 = .ok (.if_icmp .ne 16, 3) := by decide +kernel
theorem dX11_laid_98 : decode cX11_laid 98 = .ok (.aload_n 0, 1) := by decide +kernel
theorem dX11_laid_99 : decode cX11_laid 99 = .ok (.getfield 105, 3) := by decide +kernel
theorem dX11_laid_102 : decode cX11_laid 102 = .ok (.iload_n 3, 1) := by decide +kernel
theorem dX11_laid_103 : decode cX11_laid 103 = .ok (.iconst 1, 1) := by decide +kernel
theorem dX11_laid_104 : decode cX11_laid 104 = .ok (.isub, 1) := by decide +kernel
theorem dX11_laid_105 : decode cX11_laid 105 = .ok (.iaload, 1) := by decide +kernel
theorem dX11_laid_106 : decode cX11_laid 106 = .ok (.iconst 1, 1) := by decide +kernel
theorem dX11_laid_107 : decode cX11_laid 107 = .ok (.iadd, 1) := by decide +kernel
theorem dX11_laid_108 : decode cX11_laid 108 = .ok (.goto 20, 3) := by decide +kernel
theorem dX11_laid_111 : decode cX11_laid 111 = .ok (.aload_n 0, 1) := by decide +kernel
theorem dX11_laid_112 : decode cX11_laid 112 = .ok (.getfield 105, 3) := by decide +kernel
theorem dX11_laid_115 : decode cX11_laid 115 = .ok (.iload_n 3, 1) := by decide +kernel
theorem dX11_laid_116 : decode cX11_laid 116 = .ok (.iaload, 1) := by decide +kernel
theorem dX11_laid_117 : decode cX11_laid 117 = .ok (.aload_n 0, 1) := by decide +kernel
theorem dX11_laid_118 : decode cX11_laid 118 = .ok (.getfield 108, 3) := by decide +kernel
theorem dX11_laid_121 : decode cX11_laid 121 = .ok (.iload_n 3, 1) := by decide +kernel
theorem dX11_laid_122 : decode cX11_laid 122 = .ok (.iconst 1, 1) := by decide +kernel
theorem dX11_laid_123 : decode cX11_laid 123 = .ok (.isub, 1) := by decide +kernel
theorem dX11_laid_124 : decode cX11_laid 124 = .ok (.iaload, 1) := by decide +kernel
theorem dX11_laid_125 : decode cX11_laid 125 = .ok (.invokestatic 415, 3) := by decide +kernel
theorem dX11_laid_128 : decode cX11_laid 128 = .ok (.iastore, 1) := by decide +kernel
theorem dX11_laid_129 : decode cX11_laid 129 = .ok (.iinc 3 1, 3) := by decide +kernel
theorem dX11_laid_132 : decode cX11_laid 132 = .ok (.goto (-64), 3) := by decide +kernel
theorem dX11_laid_135 : decode cX11_laid 135 = .ok (.iconst 0, 1) := by decide +kernel
theorem dX11_laid_136 : decode cX11_laid 136 = .ok (.istore_n 3, 1) := by decide +kernel
theorem dX11_laid_137 : decode cX11_laid 137 = .ok (.iload_n 3, 1) := by decide +kernel
theorem dX11_laid_138 : decode cX11_laid 138 = .ok (.aload_n 0, 1) := by decide +kernel
theorem dX11_laid_139 : decode cX11_laid 139 = .ok (.getfield 420, 3) := by decide +kernel
theorem dX11_laid_142 : decode cX11_laid 142 = .ok (.if_icmp .gt 21, 3) := by decide +kernel
theorem dX11_laid_145 : decode cX11_laid 145 = .ok (.aload_n 0, 1) := by decide +kernel
theorem dX11_laid_146 : decode cX11_laid 146 = .ok (.getfield 105, 3) := by decide +kernel
theorem dX11_laid_149 : decode cX11_laid 149 = .ok (.iload_n 3, 1) := by decide +kernel
theorem dX11_laid_150 : decode cX11_laid 150 = .ok (.aload_n 0, 1) := by decide +kernel
theorem dX11_laid_151 : decode cX11_laid 151 = .ok (.getfield 108, 3) := by decide +kernel
theorem dX11_laid_154 : decode cX11_laid 154 = .ok (.iload_n 3, 1) := by decide +kernel
theorem dX11_laid_155 : decode cX11_laid 155 = .ok (.iaload, 1) := by decide +kernel
theorem dX11_laid_156 : decode cX11_laid 156 = .ok (.iastore, 1) := by decide +kernel
theorem dX11_laid_157 : decode cX11_laid 157 = .ok (.iinc 3 1, 3) := by decide +kernel
theorem dX11_laid_160 : decode cX11_laid 160 = .ok (.goto (-23), 3) := by decide +kernel
theorem dX11_laid_163 : decode cX11_laid 163 = .ok (.iinc 2 1, 3) := by decide +kernel
theorem dX11_laid_166 : decode cX11_laid 166 = .ok (.goto (-112), 3) := by decide +kernel
theorem dX11_laid_169 : decode cX11_laid 169 = .ok (.aload_n 0, 1) := by decide +kernel
theorem dX11_laid_170 : decode cX11_laid 170 = .ok (.iload_n 1, 1) := by decide +kernel
theorem dX11_laid_171 : decode cX11_laid 171 = .ok (.aload_n 0, 1) := by decide +kernel
theorem dX11_laid_172 : decode cX11_laid 172 = .ok (.getfield 105, 3) := by decide +kernel
theorem dX11_laid_175 : decode cX11_laid 175 = .ok (.aload_n 0, 1) := by decide +kernel
theorem dX11_laid_176 : decode cX11_laid 176 = .ok (.getfield 420, 3) := by decide +kernel
theorem dX11_laid_179 : decode cX11_laid 179 = .ok (.iaload, 1) := by decide +kernel
theorem dX11_laid_180 : decode cX11_laid 180 = .ok (.isub, 1) := by decide +kernel
theorem dX11_laid_181 : decode cX11_laid 181 = .ok (.putfield 111, 3) := by decide +kernel
theorem dX11_laid_184 : decode cX11_laid 184 = .ok (.aload_n 0, 1) := by decide +kernel
theorem dX11_laid_185 : decode cX11_laid 185 = .ok (.aload_n 0, 1) := by decide +kernel
theorem dX11_laid_186 : decode cX11_laid 186 = .ok (.getfield 420, 3) := by decide +kernel
theorem dX11_laid_189 : decode cX11_laid 189 = .ok (.aload_n 0, 1) := by decide +kernel
theorem dX11_laid_190 : decode cX11_laid 190 = .ok (.getfield 105, 3) := by decide +kernel
theorem dX11_laid_193 : decode cX11_laid 193 = .ok (.aload_n 0, 1) := by decide +kernel
theorem dX11_laid_194 : decode cX11_laid 194 = .ok (.getfield 420, 3) := by decide +kernel
theorem dX11_laid_197 : decode cX11_laid 197 = .ok (.iaload, 1) := by decide +kernel
theorem dX11_laid_198 : decode cX11_laid 198 = .ok (.isub, 1) := by decide +kernel
theorem dX11_laid_199 : decode cX11_laid 199 = .ok (.putfield 114, 3) := by decide +kernel
theorem dX11_laid_202 : decode cX11_laid 202 = .ok (.aload_n 0, 1) := by decide +kernel
theorem dX11_laid_203 : decode cX11_laid 203 = .ok (.aload_n 0, 1) := by decide +kernel
theorem dX11_laid_204 : decode cX11_laid 204 = .ok (.getfield 105, 3) := by decide +kernel
theorem dX11_laid_207 : decode cX11_laid 207 = .ok (.aload_n 0, 1) := by decide +kernel
theorem dX11_laid_208 : decode cX11_laid 208 = .ok (.getfield 420, 3) := by decide +kernel
theorem dX11_laid_211 : decode cX11_laid 211 = .ok (.iaload, 1) := by decide +kernel
theorem dX11_laid_212 : decode cX11_laid 212 = .ok (.invokevirtual 130, 3) := by decide +kernel
theorem dX11_laid_215 : decode cX11_laid 215 = .ok (.ireturn, 1) := by decide +kernel
theorem dX11_apart_0 : decode cX11_apart 0 = .ok (.aload_n 0, 1) := by decide +kernel
theorem dX11_apart_1 : decode cX11_apart 1 = .ok (.iconst 0, 1) := by decide +kernel
theorem dX11_apart_2 : decode cX11_apart 2 = .ok (.putfield 117, 3) := by decide +kernel
theorem dX11_apart_5 : decode cX11_apart 5 = .ok (.iload_n 1, 1) := by decide +kernel
theorem dX11_apart_6 : decode cX11_apart 6 = .ok (.ifCond .eq 10, 3) := by decide +kernel
theorem dX11_apart_9 : decode cX11_apart 9 = .ok (.aload_n 0, 1) := by decide +kernel
theorem dX11_apart_10 : decode cX11_apart 10 = .ok (.getfield 114, 3) := by decide +kernel
theorem dX11_apart_13 : decode cX11_apart 13 = .ok (.goto 7, 3) := by decide +kernel
theorem dX11_apart_16 : decode cX11_apart 16 = .ok (.aload_n 0, 1) := by decide +kernel
theorem dX11_apart_17 : decode cX11_apart 17 = .ok (.getfield 111, 3) := by decide +kernel
theorem dX11_apart_20 : decode cX11_apart 20 = .ok (.ireturn, 1) := by decide +kernel
set_option maxRecDepth 20000 in
theorem ggX11_differ_X11_isBook : GoodIn wsX11_differ wsX11_isBook := goodIn_r _ [9, 10, 80, 81, 82, 83, 84, 85, 86, 87, 88, 89, 90, 91, 92, 93, 94, 95, 96, 97, 98, 99, 100, 101, 102, 103, 104, 105, 106, 107, 108, 109, 110, 111, 112, 113, 114, 115, 116, 117, 118, 119, 120, 121, 122, 123, 124, 125, 126, 127, 128, 129, 130, 131, 132, 133, 134, 135, 136, 137, 138, 139, 140, 141, 142, 143, 144, 145, 146, 147] (by decide +kernel) (by decide +kernel)
set_option maxRecDepth 20000 in
theorem gX11_differ_X11_isBook : GoodIn wsX11_differ (wsV RX11 251 RX11 yX11_isBook wsX11_isBook) := goodIn_app (goodIn_of _ (by decide +kernel)) ggX11_differ_X11_isBook
set_option maxRecDepth 20000 in
theorem ggX11_differ_X11_refused : GoodIn wsX11_differ wsX11_refused := goodIn_r _ [14, 15, 16, 80, 81, 82, 83, 84, 85, 86, 87, 88, 89, 90, 91, 92, 93, 94, 95, 96, 97, 98, 99, 100, 101, 102, 103, 104, 105, 106, 107, 108, 109, 110, 111, 112, 113, 114, 115, 116, 117, 118, 119, 120, 121, 122, 123, 124, 125, 126, 127, 128, 129, 130, 131, 132, 133, 134, 135, 136, 137, 138, 139, 140, 141, 142, 143, 144, 145, 146, 147] (by decide +kernel) (by decide +kernel)
set_option maxRecDepth 20000 in
theorem gX11_differ_X11_refused : GoodIn wsX11_differ (wsV RX11 126 RX11 yX11_refused wsX11_refused) := goodIn_app (goodIn_of _ (by decide +kernel)) ggX11_differ_X11_refused
set_option maxRecDepth 20000 in
theorem ggX11_differ_X11_in : GoodIn wsX11_differ wsX11_in := goodIn_r _ [19] (by decide +kernel) (by decide +kernel)
set_option maxRecDepth 20000 in
theorem gX11_differ_X11_in : GoodIn wsX11_differ (va_wsS RX11 136 yX11_in wsX11_in) := goodIn_app (goodIn_of _ (by decide +kernel)) ggX11_differ_X11_in
set_option maxRecDepth 20000 in
theorem ggX11_differ_X11_chooses : GoodIn wsX11_differ wsX11_chooses := goodIn_r _ [23, 2, 24, 25, 3, 26, 27, 28, 29, 30, 8, 31, 32, 33, 34, 35, 80, 81, 82, 83, 84, 85, 86, 87, 88, 89, 90, 91, 92, 93, 94, 95, 96, 97, 98, 99, 100, 101, 102, 103, 104, 105, 106, 107, 108, 109, 110, 111, 112, 113, 114, 115, 116, 117, 118, 119, 120, 121, 122, 123, 124, 125, 126, 127, 128, 129, 130, 131, 132, 133, 134, 135, 136, 137, 138, 139, 140, 141, 142, 143, 144, 145, 146, 147] (by decide +kernel) (by decide +kernel)
set_option maxRecDepth 20000 in
theorem gX11_differ_X11_chooses : GoodIn wsX11_differ (wsV RX11 321 RX11 yX11_chooses wsX11_chooses) := goodIn_app (goodIn_of _ (by decide +kernel)) ggX11_differ_X11_chooses
set_option maxRecDepth 20000 in
theorem ggX11_differ_X11_playsChoice : GoodIn wsX11_differ wsX11_playsChoice := goodIn_r _ [39, 40, 41, 42, 8, 43, 44, 45, 4, 46, 47, 48, 49, 50, 51, 52, 53, 54, 55, 56, 28, 29, 30, 31, 32, 57, 58, 59, 60, 61, 62, 63, 64, 65, 66, 67, 68, 69, 70, 24, 71, 72, 73, 74, 75, 80, 81, 82, 83, 84, 85, 86, 87, 88, 89, 90, 91, 92, 93, 94, 95, 96, 97, 98, 99, 100, 101, 102, 103, 104, 105, 106, 107, 108, 109, 110, 111, 112, 113, 114, 115, 116, 117, 118, 119, 120, 121, 122, 123, 124, 125, 126, 127, 128, 129, 130, 131, 132, 133, 134, 135, 136, 137, 138, 139, 140, 141, 142, 143, 144, 145, 146, 147] (by decide +kernel) (by decide +kernel)
set_option maxRecDepth 20000 in
theorem gX11_differ_X11_playsChoice : GoodIn wsX11_differ (wsV RX11 337 RX11 yX11_playsChoice wsX11_playsChoice) := goodIn_app (goodIn_of _ (by decide +kernel)) ggX11_differ_X11_playsChoice
set_option maxRecDepth 20000 in
theorem ggX11_differ_X11_done : GoodIn wsX11_differ wsX11_done := goodIn_r _ [79, 15, 16, 80, 81, 82, 83, 84, 85, 86, 87, 88, 89, 90, 91, 92, 93, 94, 95, 96, 97, 98, 99, 100, 101, 102, 103, 104, 105, 106, 107, 108, 109, 110, 111, 112, 113, 114, 115, 116, 117, 118, 119, 120, 121, 122, 123, 124, 125, 126, 127, 128, 129, 130, 131, 132, 133, 134, 135, 136, 137, 138, 139, 140, 141, 142, 143, 144, 145, 146, 147] (by decide +kernel) (by decide +kernel)
set_option maxRecDepth 20000 in
theorem gX11_differ_X11_done : GoodIn wsX11_differ (wsV RX11 130 RX11 yX11_done wsX11_done) := goodIn_app (goodIn_of _ (by decide +kernel)) ggX11_differ_X11_done
theorem dX11_differ_0 : decode cX11_differ 0 = .ok (.aload_n 0, 1) := by decide +kernel
theorem dX11_differ_1 : decode cX11_differ 1 = .ok (.iconst 0, 1) := by decide +kernel
theorem dX11_differ_2 : decode cX11_differ 2 = .ok (.putfield 117, 3) := by decide +kernel
theorem dX11_differ_5 : decode cX11_differ 5 = .ok (.aload_n 0, 1) := by decide +kernel
theorem dX11_differ_6 : decode cX11_differ 6 = .ok (.iload_n 1, 1) := by decide +kernel
theorem dX11_differ_7 : decode cX11_differ 7 = .ok (.invokevirtual 251, 3) := by decide +kernel
theorem dX11_differ_10 : decode cX11_differ 10 = .ok (.ifCond .eq 11, 3) := by decide +kernel
theorem dX11_differ_13 : decode cX11_differ 13 = .ok (.aload_n 0, 1) := by decide +kernel
theorem dX11_differ_14 : decode cX11_differ 14 = .ok (.iload_n 2, 1) := by decide +kernel
theorem dX11_differ_15 : decode cX11_differ 15 = .ok (.invokevirtual 251, 3) := by decide +kernel
theorem dX11_differ_18 : decode cX11_differ 18 = .ok (.ifCond .ne 9, 3) := by decide +kernel
theorem dX11_differ_21 : decode cX11_differ 21 = .ok (.aload_n 0, 1) := by decide +kernel
theorem dX11_differ_22 : decode cX11_differ 22 = .ok (.iconst 1, 1) := by decide +kernel
theorem dX11_differ_23 : decode cX11_differ 23 = .ok (.invokevirtual 126, 3) := by decide +kernel
theorem dX11_differ_26 : decode cX11_differ 26 = .ok (.ireturn, 1) := by decide +kernel
theorem dX11_differ_27 : decode cX11_differ 27 = .ok (.iload_n 3, 1) := by decide +kernel
theorem dX11_differ_28 : decode cX11_differ 28 = .ok (.iconst 0, 1) := by decide +kernel
theorem dX11_differ_29 : decode cX11_differ 29 = .ok (.sipush 255, 3) := by decide +kernel
theorem dX11_differ_32 : decode cX11_differ 32 = .ok (.invokestatic 136, 3) := by decide +kernel
theorem dX11_differ_35 : decode cX11_differ 35 = .ok (.ifCond .eq 36, 3) := by decide +kernel
theorem dX11_differ_38 : decode cX11_differ 38 = .ok (.iload 4, 2) := by decide +kernel
theorem dX11_differ_40 : decode cX11_differ 40 = .ok (.iconst 0, 1) := by decide +kernel
theorem dX11_differ_41 : decode cX11_differ 41 = .ok (.bipush 8, 2) := by decide +kernel
theorem dX11_differ_43 : decode cX11_differ 43 = .ok (.invokestatic 136, 3) := by decide +kernel
theorem dX11_differ_46 : decode cX11_differ 46 = .ok (.ifCond .eq 25, 3) := by decide +kernel
theorem dX11_differ_49 : decode cX11_differ 49 = .ok (.iload 5, 2) := by decide +kernel
theorem dX11_differ_51 : decode cX11_differ 51 = .ok (.iconst 0, 1) := by decide +kernel
theorem dX11_differ_52 : decode cX11_differ 52 = .ok (.bipush 8, 2) := by decide +kernel
theorem dX11_differ_54 : decode cX11_differ 54 = .ok (.invokestatic 136, 3) := by decide +kernel
theorem dX11_differ_57 : decode cX11_differ 57 = .ok (.ifCond .eq 14, 3) := by decide +kernel
theorem dX11_differ_60 : decode cX11_differ 60 = .ok (.iload 6, 2) := by decide +kernel
theorem dX11_differ_62 : decode cX11_differ 62 = .ok (.iconst 0, 1) := by decide +kernel
theorem dX11_differ_63 : decode cX11_differ 63 = .ok (.bipush 8, 2) := by decide +kernel
theorem dX11_differ_65 : decode cX11_differ 65 = .ok (.invokestatic 136, 3) := by decide +kernel
theorem dX11_differ_68 : decode cX11_differ 68 = .ok (.ifCond .ne 9, 3) := by decide +kernel
theorem dX11_differ_71 : decode cX11_differ 71 = .ok (.aload_n 0, 1) := by decide +kernel
theorem dX11_differ_72 : decode cX11_differ 72 = .ok (.iconst 2, 1) := by decide +kernel
theorem dX11_differ_73 : decode cX11_differ 73 = .ok (.invokevirtual 126, 3) := by decide +kernel
theorem dX11_differ_76 : decode cX11_differ 76 = .ok (.ireturn, 1) := by decide +kernel
theorem dX11_differ_77 : decode cX11_differ 77 = .ok (.aload_n 0, 1) := by decide +kernel
theorem dX11_differ_78 : decode cX11_differ 78 = .ok (.iload_n 3, 1) := by decide +kernel
theorem dX11_differ_79 : decode cX11_differ 79 = .ok (.iload 4, 2) := by decide +kernel
theorem dX11_differ_81 : decode cX11_differ 81 = .ok (.iload 5, 2) := by decide +kernel
theorem dX11_differ_83 : decode cX11_differ 83 = .ok (.iload 6, 2) := by decide +kernel
theorem dX11_differ_85 : decode cX11_differ 85 = .ok (.invokevirtual 321, 3) := by decide +kernel
theorem dX11_differ_88 : decode cX11_differ 88 = .ok (.ifCond .ne 9, 3) := by decide +kernel
theorem dX11_differ_91 : decode cX11_differ 91 = .ok (.aload_n 0, 1) := by decide +kernel
theorem dX11_differ_92 : decode cX11_differ 92 = .ok (.iconst 3, 1) := by decide +kernel
theorem dX11_differ_93 : decode cX11_differ 93 = .ok (.invokevirtual 126, 3) := by decide +kernel
theorem dX11_differ_96 : decode cX11_differ 96 = .ok (.ireturn, 1) := by decide +kernel
theorem dX11_differ_97 : decode cX11_differ 97 = .ok (.iconst 0, 1) := by decide +kernel
theorem dX11_differ_98 : decode cX11_differ 98 = .ok (.istore 7, 2) := by decide +kernel
theorem dX11_differ_100 : decode cX11_differ 100 = .ok (.iconst 0, 1) := by decide +kernel
theorem dX11_differ_101 : decode cX11_differ 101 = .ok (.istore 8, 2) := by decide +kernel
theorem dX11_differ_103 : decode cX11_differ 103 = .ok (.iload 8, 2) := by decide +kernel
theorem dX11_differ_105 : decode cX11_differ 105 = .ok (.aload_n 0, 1) := by decide +kernel
theorem dX11_differ_106 : decode cX11_differ 106 = .ok (.getfield 314, 3) := by decide +kernel
theorem dX11_differ_109 : decode cX11_differ 109 = .ok (.if_icmp .ge 74, 3) := by decide +kernel
theorem dX11_differ_112 : decode cX11_differ 112 = .ok (.aload_n 0, 1) := by decide +kernel
theorem dX11_differ_113 : decode cX11_differ 113 = .ok (.iload_n 1, 1) := by decide +kernel
theorem dX11_differ_114 : decode cX11_differ 114 = .ok (.aload_n 0, 1) := by decide +kernel
theorem dX11_differ_115 : decode cX11_differ 115 = .ok (.getfield 67, 3) := by decide +kernel
theorem dX11_differ_118 : decode cX11_differ 118 = .ok (.iload 8, 2) := by decide +kernel
theorem dX11_differ_120 : decode cX11_differ 120 = .ok (.iaload, 1) := by decide +kernel
theorem dX11_differ_121 : decode cX11_differ 121 = .ok (.invokevirtual 337, 3) := by decide +kernel
theorem dX11_differ_124 : decode cX11_differ 124 = .ok (.istore 9, 2) := by decide +kernel
theorem dX11_differ_126 : decode cX11_differ 126 = .ok (.aload_n 0, 1) := by decide +kernel
theorem dX11_differ_127 : decode cX11_differ 127 = .ok (.getfield 263, 3) := by decide +kernel
theorem dX11_differ_130 : decode cX11_differ 130 = .ok (.istore 10, 2) := by decide +kernel
theorem dX11_differ_132 : decode cX11_differ 132 = .ok (.aload_n 0, 1) := by decide +kernel
theorem dX11_differ_133 : decode cX11_differ 133 = .ok (.iload_n 2, 1) := by decide +kernel
theorem dX11_differ_134 : decode cX11_differ 134 = .ok (.aload_n 0, 1) := by decide +kernel
theorem dX11_differ_135 : decode cX11_differ 135 = .ok (.getfield 67, 3) := by decide +kernel
theorem dX11_differ_138 : decode cX11_differ 138 = .ok (.iload 8, 2) := by decide +kernel
theorem dX11_differ_140 : decode cX11_differ 140 = .ok (.iaload, 1) := by decide +kernel
theorem dX11_differ_141 : decode cX11_differ 141 = .ok (.invokevirtual 337, 3) := by decide +kernel
theorem dX11_differ_144 : decode cX11_differ 144 = .ok (.istore 11, 2) := by decide +kernel
theorem dX11_differ_146 : decode cX11_differ 146 = .ok (.iload 7, 2) := by decide +kernel
theorem dX11_differ_148 : decode cX11_differ 148 = .ok (.iload 9, 2) := by decide +kernel
theorem dX11_differ_150 : decode cX11_differ 150 = .ok (.iload 11, 2) := by decide +kernel
theorem dX11_differ_152 : decode cX11_differ 152 = .ok (.if_icmp .ne 17, 3) := by decide +kernel
theorem dX11_differ_155 : decode cX11_differ 155 = .ok (.iload 9, 2) := by decide +kernel
theorem dX11_differ_157 : decode cX11_differ 157 = .ok (.ifCond .ne 16, 3) := by decide +kernel
theorem dX11_differ_160 : decode cX11_differ 160 = .ok (.iload 10, 2) := by decide +kernel
theorem dX11_differ_162 : decode cX11_differ 162 = .ok (.aload_n 0, 1) := by decide +kernel
theorem dX11_differ_163 : decode cX11_differ 163 = .ok (.getfield 263, 3) := by decide +kernel
theorem dX11_differ_166 : decode cX11_differ 166 = .ok (.if_icmp .eq 7, 3) := by decide +kernel
theorem dX11_differ_169 : decode cX11_differ 169 = .ok (.iconst 1, 1) := by decide +kernel
theorem dX11_differ_170 : decode cX11_differ 170 = .ok (.goto 4, 3) := by decide +kernel
theorem dX11_differ_173 : decode cX11_differ 173 = .ok (.iconst 0, 1) := by decide +kernel
theorem dX11_differ_174 : decode cX11_differ 174 = .ok (.iadd, 1) := by decide +kernel
theorem dX11_differ_175 : decode cX11_differ 175 = .ok (.istore 7, 2) := by decide +kernel
theorem dX11_differ_177 : decode cX11_differ 177 = .ok (.iinc 8 1, 3) := by decide +kernel
theorem dX11_differ_180 : decode cX11_differ 180 = .ok (.goto (-77), 3) := by decide +kernel
theorem dX11_differ_183 : decode cX11_differ 183 = .ok (.aload_n 0, 1) := by decide +kernel
theorem dX11_differ_184 : decode cX11_differ 184 = .ok (.iload 7, 2) := by decide +kernel
theorem dX11_differ_186 : decode cX11_differ 186 = .ok (.invokevirtual 130, 3) := by decide +kernel
theorem dX11_differ_189 : decode cX11_differ 189 = .ok (.ireturn, 1) := by decide +kernel
theorem dX11_count_0 : decode cX11_count 0 = .ok (.aload_n 0, 1) := by decide +kernel
theorem dX11_count_1 : decode cX11_count 1 = .ok (.iconst 0, 1) := by decide +kernel
theorem dX11_count_2 : decode cX11_count 2 = .ok (.putfield 117, 3) := by decide +kernel
theorem dX11_count_5 : decode cX11_count 5 = .ok (.iload_n 1, 1) := by decide +kernel
theorem dX11_count_6 : decode cX11_count 6 = .ok (.tableswitch 68 0 5 #[38, 43, 48, 53, 58, 63], 38) := by decide +kernel
theorem dX11_count_44 : decode cX11_count 44 = .ok (.aload_n 0, 1) := by decide +kernel
theorem dX11_count_45 : decode cX11_count 45 = .ok (.getfield 123, 3) := by decide +kernel
theorem dX11_count_48 : decode cX11_count 48 = .ok (.ireturn, 1) := by decide +kernel
theorem dX11_count_49 : decode cX11_count 49 = .ok (.aload_n 0, 1) := by decide +kernel
theorem dX11_count_50 : decode cX11_count 50 = .ok (.getfield 133, 3) := by decide +kernel
theorem dX11_count_53 : decode cX11_count 53 = .ok (.ireturn, 1) := by decide +kernel
theorem dX11_count_54 : decode cX11_count 54 = .ok (.aload_n 0, 1) := by decide +kernel
theorem dX11_count_55 : decode cX11_count 55 = .ok (.getfield 140, 3) := by decide +kernel
theorem dX11_count_58 : decode cX11_count 58 = .ok (.ireturn, 1) := by decide +kernel
theorem dX11_count_59 : decode cX11_count 59 = .ok (.aload_n 0, 1) := by decide +kernel
theorem dX11_count_60 : decode cX11_count 60 = .ok (.getfield 201, 3) := by decide +kernel
theorem dX11_count_63 : decode cX11_count 63 = .ok (.ireturn, 1) := by decide +kernel
theorem dX11_count_64 : decode cX11_count 64 = .ok (.aload_n 0, 1) := by decide +kernel
theorem dX11_count_65 : decode cX11_count 65 = .ok (.getfield 420, 3) := by decide +kernel
theorem dX11_count_68 : decode cX11_count 68 = .ok (.ireturn, 1) := by decide +kernel
theorem dX11_count_69 : decode cX11_count 69 = .ok (.aload_n 0, 1) := by decide +kernel
theorem dX11_count_70 : decode cX11_count 70 = .ok (.getfield 242, 3) := by decide +kernel
theorem dX11_count_73 : decode cX11_count 73 = .ok (.ireturn, 1) := by decide +kernel
theorem dX11_count_74 : decode cX11_count 74 = .ok (.iconst (-1), 1) := by decide +kernel
theorem dX11_count_75 : decode cX11_count 75 = .ok (.ireturn, 1) := by decide +kernel
theorem dX11_trouble_0 : decode cX11_trouble 0 = .ok (.aload_n 0, 1) := by decide +kernel
theorem dX11_trouble_1 : decode cX11_trouble 1 = .ok (.iconst 0, 1) := by decide +kernel
theorem dX11_trouble_2 : decode cX11_trouble 2 = .ok (.putfield 117, 3) := by decide +kernel
theorem dX11_trouble_5 : decode cX11_trouble 5 = .ok (.aload_n 0, 1) := by decide +kernel
theorem dX11_trouble_6 : decode cX11_trouble 6 = .ok (.getfield 120, 3) := by decide +kernel
theorem dX11_trouble_9 : decode cX11_trouble 9 = .ok (.ireturn, 1) := by decide +kernel
theorem dJ6_bitCount_0f7a4_0 : decode cJ6_bitCount_0f7a4 0 = .ok (.iload_n 0, 1) := by decide +kernel
theorem dJ6_bitCount_0f7a4_1 : decode cJ6_bitCount_0f7a4 1 = .ok (.iload_n 0, 1) := by decide +kernel
theorem dJ6_bitCount_0f7a4_2 : decode cJ6_bitCount_0f7a4 2 = .ok (.iconst 1, 1) := by decide +kernel
theorem dJ6_bitCount_0f7a4_3 : decode cJ6_bitCount_0f7a4 3 = .ok (.iushr, 1) := by decide +kernel
theorem dJ6_bitCount_0f7a4_4 : decode cJ6_bitCount_0f7a4 4 = .ok (.ldc_w 265, 3) := by decide +kernel
theorem dJ6_bitCount_0f7a4_7 : decode cJ6_bitCount_0f7a4 7 = .ok (.iand, 1) := by decide +kernel
theorem dJ6_bitCount_0f7a4_8 : decode cJ6_bitCount_0f7a4 8 = .ok (.isub, 1) := by decide +kernel
theorem dJ6_bitCount_0f7a4_9 : decode cJ6_bitCount_0f7a4 9 = .ok (.istore_n 0, 1) := by decide +kernel
theorem dJ6_bitCount_0f7a4_10 : decode cJ6_bitCount_0f7a4 10 = .ok (.iload_n 0, 1) := by decide +kernel
theorem dJ6_bitCount_0f7a4_11 : decode cJ6_bitCount_0f7a4 11 = .ok (.ldc_w 266, 3) := by decide +kernel
theorem dJ6_bitCount_0f7a4_14 : decode cJ6_bitCount_0f7a4 14 = .ok (.iand, 1) := by decide +kernel
theorem dJ6_bitCount_0f7a4_15 : decode cJ6_bitCount_0f7a4 15 = .ok (.iload_n 0, 1) := by decide +kernel
theorem dJ6_bitCount_0f7a4_16 : decode cJ6_bitCount_0f7a4 16 = .ok (.iconst 2, 1) := by decide +kernel
theorem dJ6_bitCount_0f7a4_17 : decode cJ6_bitCount_0f7a4 17 = .ok (.iushr, 1) := by decide +kernel
theorem dJ6_bitCount_0f7a4_18 : decode cJ6_bitCount_0f7a4 18 = .ok (.ldc_w 266, 3) := by decide +kernel
theorem dJ6_bitCount_0f7a4_21 : decode cJ6_bitCount_0f7a4 21 = .ok (.iand, 1) := by decide +kernel
theorem dJ6_bitCount_0f7a4_22 : decode cJ6_bitCount_0f7a4 22 = .ok (.iadd, 1) := by decide +kernel
theorem dJ6_bitCount_0f7a4_23 : decode cJ6_bitCount_0f7a4 23 = .ok (.istore_n 0, 1) := by decide +kernel
theorem dJ6_bitCount_0f7a4_24 : decode cJ6_bitCount_0f7a4 24 = .ok (.iload_n 0, 1) := by decide +kernel
theorem dJ6_bitCount_0f7a4_25 : decode cJ6_bitCount_0f7a4 25 = .ok (.iload_n 0, 1) := by decide +kernel
theorem dJ6_bitCount_0f7a4_26 : decode cJ6_bitCount_0f7a4 26 = .ok (.iconst 4, 1) := by decide +kernel
theorem dJ6_bitCount_0f7a4_27 : decode cJ6_bitCount_0f7a4 27 = .ok (.iushr, 1) := by decide +kernel
theorem dJ6_bitCount_0f7a4_28 : decode cJ6_bitCount_0f7a4 28 = .ok (.iadd, 1) := by decide +kernel
theorem dJ6_bitCount_0f7a4_29 : decode cJ6_bitCount_0f7a4 29 = .ok (.ldc_w 267, 3) := by decide +kernel
theorem dJ6_bitCount_0f7a4_32 : decode cJ6_bitCount_0f7a4 32 = .ok (.iand, 1) := by decide +kernel
theorem dJ6_bitCount_0f7a4_33 : decode cJ6_bitCount_0f7a4 33 = .ok (.istore_n 0, 1) := by decide +kernel
theorem dJ6_bitCount_0f7a4_34 : decode cJ6_bitCount_0f7a4 34 = .ok (.iload_n 0, 1) := by decide +kernel
theorem dJ6_bitCount_0f7a4_35 : decode cJ6_bitCount_0f7a4 35 = .ok (.iload_n 0, 1) := by decide +kernel
theorem dJ6_bitCount_0f7a4_36 : decode cJ6_bitCount_0f7a4 36 = .ok (.bipush 8, 2) := by decide +kernel
theorem dJ6_bitCount_0f7a4_38 : decode cJ6_bitCount_0f7a4 38 = .ok (.iushr, 1) := by decide +kernel
theorem dJ6_bitCount_0f7a4_39 : decode cJ6_bitCount_0f7a4 39 = .ok (.iadd, 1) := by decide +kernel
theorem dJ6_bitCount_0f7a4_40 : decode cJ6_bitCount_0f7a4 40 = .ok (.istore_n 0, 1) := by decide +kernel
theorem dJ6_bitCount_0f7a4_41 : decode cJ6_bitCount_0f7a4 41 = .ok (.iload_n 0, 1) := by decide +kernel
theorem dJ6_bitCount_0f7a4_42 : decode cJ6_bitCount_0f7a4 42 = .ok (.iload_n 0, 1) := by decide +kernel
theorem dJ6_bitCount_0f7a4_43 : decode cJ6_bitCount_0f7a4 43 = .ok (.bipush 16, 2) := by decide +kernel
theorem dJ6_bitCount_0f7a4_45 : decode cJ6_bitCount_0f7a4 45 = .ok (.iushr, 1) := by decide +kernel
theorem dJ6_bitCount_0f7a4_46 : decode cJ6_bitCount_0f7a4 46 = .ok (.iadd, 1) := by decide +kernel
theorem dJ6_bitCount_0f7a4_47 : decode cJ6_bitCount_0f7a4 47 = .ok (.istore_n 0, 1) := by decide +kernel
theorem dJ6_bitCount_0f7a4_48 : decode cJ6_bitCount_0f7a4 48 = .ok (.iload_n 0, 1) := by decide +kernel
theorem dJ6_bitCount_0f7a4_49 : decode cJ6_bitCount_0f7a4 49 = .ok (.bipush 63, 2) := by decide +kernel
theorem dJ6_bitCount_0f7a4_51 : decode cJ6_bitCount_0f7a4 51 = .ok (.iand, 1) := by decide +kernel
theorem dJ6_bitCount_0f7a4_52 : decode cJ6_bitCount_0f7a4 52 = .ok (.ireturn, 1) := by decide +kernel
theorem dJ9_max_7cf53_0 : decode cJ9_max_7cf53 0 = .ok (.iload_n 0, 1) := by decide +kernel
theorem dJ9_max_7cf53_1 : decode cJ9_max_7cf53 1 = .ok (.iload_n 1, 1) := by decide +kernel
theorem dJ9_max_7cf53_2 : decode cJ9_max_7cf53 2 = .ok (.if_icmp .lt 7, 3) := by decide +kernel
theorem dJ9_max_7cf53_5 : decode cJ9_max_7cf53 5 = .ok (.iload_n 0, 1) := by decide +kernel
theorem dJ9_max_7cf53_6 : decode cJ9_max_7cf53 6 = .ok (.goto 4, 3) := by decide +kernel
theorem dJ9_max_7cf53_9 : decode cJ9_max_7cf53 9 = .ok (.iload_n 1, 1) := by decide +kernel
theorem dJ9_max_7cf53_10 : decode cJ9_max_7cf53 10 = .ok (.ireturn, 1) := by decide +kernel
theorem dJ9_min_7cf53_0 : decode cJ9_min_7cf53 0 = .ok (.iload_n 0, 1) := by decide +kernel
theorem dJ9_min_7cf53_1 : decode cJ9_min_7cf53 1 = .ok (.iload_n 1, 1) := by decide +kernel
theorem dJ9_min_7cf53_2 : decode cJ9_min_7cf53 2 = .ok (.if_icmp .gt 7, 3) := by decide +kernel
theorem dJ9_min_7cf53_5 : decode cJ9_min_7cf53 5 = .ok (.iload_n 0, 1) := by decide +kernel
theorem dJ9_min_7cf53_6 : decode cJ9_min_7cf53 6 = .ok (.goto 4, 3) := by decide +kernel
theorem dJ9_min_7cf53_9 : decode cJ9_min_7cf53 9 = .ok (.iload_n 1, 1) := by decide +kernel
theorem dJ9_min_7cf53_10 : decode cJ9_min_7cf53 10 = .ok (.ireturn, 1) := by decide +kernel
set_option maxRecDepth 20000 in
theorem ggJ0_length_8abf5_J0_coder_7d493 : GoodIn wsJ0_length_8abf5 wsJ0_coder_7d493 := goodIn_r _ [6, 7, 8] (by decide +kernel) (by decide +kernel)
set_option maxRecDepth 20000 in
theorem gJ0_length_8abf5_J0_coder_7d493 : GoodIn wsJ0_length_8abf5 (wsV RJ0 335 RJ0 yJ0_coder_7d493 wsJ0_coder_7d493) := goodIn_app (goodIn_of _ (by decide +kernel)) ggJ0_length_8abf5_J0_coder_7d493
theorem dJ0_length_8abf5_0 : decode cJ0_length_8abf5 0 = .ok (.aload_n 0, 1) := by decide +kernel
theorem dJ0_length_8abf5_1 : decode cJ0_length_8abf5 1 = .ok (.getfield 9, 3) := by decide +kernel
theorem dJ0_length_8abf5_4 : decode cJ0_length_8abf5 4 = .ok (.arraylength, 1) := by decide +kernel
theorem dJ0_length_8abf5_5 : decode cJ0_length_8abf5 5 = .ok (.aload_n 0, 1) := by decide +kernel
theorem dJ0_length_8abf5_6 : decode cJ0_length_8abf5 6 = .ok (.invokevirtual 335, 3) := by decide +kernel
theorem dJ0_length_8abf5_9 : decode cJ0_length_8abf5 9 = .ok (.ishr, 1) := by decide +kernel
theorem dJ0_length_8abf5_10 : decode cJ0_length_8abf5 10 = .ok (.ireturn, 1) := by decide +kernel
set_option maxRecDepth 20000 in
theorem ggJ0_charAt_5068e_J0_isLatin1_aae02 : GoodIn wsJ0_charAt_5068e wsJ0_isLatin1_aae02 := goodIn_r _ [6, 7, 8] (by decide +kernel) (by decide +kernel)
set_option maxRecDepth 20000 in
theorem gJ0_charAt_5068e_J0_isLatin1_aae02 : GoodIn wsJ0_charAt_5068e (wsV RJ0 492 RJ0 yJ0_isLatin1_aae02 wsJ0_isLatin1_aae02) := goodIn_app (goodIn_of _ (by decide +kernel)) ggJ0_charAt_5068e_J0_isLatin1_aae02
set_option maxRecDepth 20000 in
theorem ggJ0_charAt_5068e_J1_charAt_3b067 : GoodIn wsJ0_charAt_5068e wsJ1_charAt_3b067 := goodIn_r _ [12, 13, 14, 5, 15, 16, 17, 18, 19, 20] (by decide +kernel) (by decide +kernel)
set_option maxRecDepth 20000 in
theorem gJ0_charAt_5068e_J1_charAt_3b067 : GoodIn wsJ0_charAt_5068e (va_wsS RJ0 495 yJ1_charAt_3b067 wsJ1_charAt_3b067) := goodIn_app (goodIn_of _ (by decide +kernel)) ggJ0_charAt_5068e_J1_charAt_3b067
set_option maxRecDepth 20000 in
theorem ggJ0_charAt_5068e_J2_charAt_3b067 : GoodIn wsJ0_charAt_5068e wsJ2_charAt_3b067 := goodIn_r _ [24, 25, 26, 23, 27, 28, 29, 30, 31, 14, 5, 15, 16, 17, 18, 19, 20, 32, 33, 34, 35, 36, 37] (by decide +kernel) (by decide +kernel)
set_option maxRecDepth 20000 in
theorem gJ0_charAt_5068e_J2_charAt_3b067 : GoodIn wsJ0_charAt_5068e (va_wsS RJ0 498 yJ2_charAt_3b067 wsJ2_charAt_3b067) := goodIn_app (goodIn_of _ (by decide +kernel)) ggJ0_charAt_5068e_J2_charAt_3b067
theorem dJ0_charAt_5068e_0 : decode cJ0_charAt_5068e 0 = .ok (.aload_n 0, 1) := by decide +kernel
theorem dJ0_charAt_5068e_1 : decode cJ0_charAt_5068e 1 = .ok (.invokevirtual 492, 3) := by decide +kernel
theorem dJ0_charAt_5068e_4 : decode cJ0_charAt_5068e 4 = .ok (.ifCond .eq 12, 3) := by decide +kernel
theorem dJ0_charAt_5068e_7 : decode cJ0_charAt_5068e 7 = .ok (.aload_n 0, 1) := by decide +kernel
theorem dJ0_charAt_5068e_8 : decode cJ0_charAt_5068e 8 = .ok (.getfield 9, 3) := by decide +kernel
theorem dJ0_charAt_5068e_11 : decode cJ0_charAt_5068e 11 = .ok (.iload_n 1, 1) := by decide +kernel
theorem dJ0_charAt_5068e_12 : decode cJ0_charAt_5068e 12 = .ok (.invokestatic 495, 3) := by decide +kernel
theorem dJ0_charAt_5068e_15 : decode cJ0_charAt_5068e 15 = .ok (.ireturn, 1) := by decide +kernel
theorem dJ0_charAt_5068e_16 : decode cJ0_charAt_5068e 16 = .ok (.aload_n 0, 1) := by decide +kernel
theorem dJ0_charAt_5068e_17 : decode cJ0_charAt_5068e 17 = .ok (.getfield 9, 3) := by decide +kernel
theorem dJ0_charAt_5068e_20 : decode cJ0_charAt_5068e 20 = .ok (.iload_n 1, 1) := by decide +kernel
theorem dJ0_charAt_5068e_21 : decode cJ0_charAt_5068e 21 = .ok (.invokestatic 498, 3) := by decide +kernel
theorem dJ0_charAt_5068e_24 : decode cJ0_charAt_5068e 24 = .ok (.ireturn, 1) := by decide +kernel
theorem dJ0_coder_7d493_0 : decode cJ0_coder_7d493 0 = .ok (.getstatic 38, 3) := by decide +kernel
theorem dJ0_coder_7d493_3 : decode cJ0_coder_7d493 3 = .ok (.ifCond .eq 10, 3) := by decide +kernel
theorem dJ0_coder_7d493_6 : decode cJ0_coder_7d493 6 = .ok (.aload_n 0, 1) := by decide +kernel
theorem dJ0_coder_7d493_7 : decode cJ0_coder_7d493 7 = .ok (.getfield 15, 3) := by decide +kernel
theorem dJ0_coder_7d493_10 : decode cJ0_coder_7d493 10 = .ok (.goto 4, 3) := by decide +kernel
theorem dJ0_coder_7d493_13 : decode cJ0_coder_7d493 13 = .ok (.iconst 1, 1) := by decide +kernel
theorem dJ0_coder_7d493_14 : decode cJ0_coder_7d493 14 = .ok (.ireturn, 1) := by decide +kernel
theorem dJ0_isLatin1_aae02_0 : decode cJ0_isLatin1_aae02 0 = .ok (.getstatic 38, 3) := by decide +kernel
theorem dJ0_isLatin1_aae02_3 : decode cJ0_isLatin1_aae02 3 = .ok (.ifCond .eq 14, 3) := by decide +kernel
theorem dJ0_isLatin1_aae02_6 : decode cJ0_isLatin1_aae02 6 = .ok (.aload_n 0, 1) := by decide +kernel
theorem dJ0_isLatin1_aae02_7 : decode cJ0_isLatin1_aae02 7 = .ok (.getfield 15, 3) := by decide +kernel
theorem dJ0_isLatin1_aae02_10 : decode cJ0_isLatin1_aae02 10 = .ok (.ifCond .ne 7, 3) := by decide +kernel
theorem dJ0_isLatin1_aae02_13 : decode cJ0_isLatin1_aae02 13 = .ok (.iconst 1, 1) := by decide +kernel
theorem dJ0_isLatin1_aae02_14 : decode cJ0_isLatin1_aae02 14 = .ok (.goto 4, 3) := by decide +kernel
theorem dJ0_isLatin1_aae02_17 : decode cJ0_isLatin1_aae02 17 = .ok (.iconst 0, 1) := by decide +kernel
theorem dJ0_isLatin1_aae02_18 : decode cJ0_isLatin1_aae02 18 = .ok (.ireturn, 1) := by decide +kernel
set_option maxRecDepth 20000 in
theorem ggJ0_checkIndex_df160_J3_checkIndex_8e157 : GoodIn wsJ0_checkIndex_df160 wsJ3_checkIndex_8e157 := goodIn_r _ [5] (by decide +kernel) (by decide +kernel)
set_option maxRecDepth 20000 in
theorem gJ0_checkIndex_df160_J3_checkIndex_8e157 : GoodIn wsJ0_checkIndex_df160 (va_wsS RJ0 1059 yJ3_checkIndex_8e157 wsJ3_checkIndex_8e157) := goodIn_app (goodIn_of _ (by decide +kernel)) ggJ0_checkIndex_df160_J3_checkIndex_8e157
theorem dJ0_checkIndex_df160_0 : decode cJ0_checkIndex_df160 0 = .ok (.iload_n 0, 1) := by decide +kernel
theorem dJ0_checkIndex_df160_1 : decode cJ0_checkIndex_df160 1 = .ok (.iload_n 1, 1) := by decide +kernel
theorem dJ0_checkIndex_df160_2 : decode cJ0_checkIndex_df160 2 = .ok (.getstatic 1053, 3) := by decide +kernel
theorem dJ0_checkIndex_df160_5 : decode cJ0_checkIndex_df160 5 = .ok (.invokestatic 1059, 3) := by decide +kernel
theorem dJ0_checkIndex_df160_8 : decode cJ0_checkIndex_df160 8 = .ok (.pop, 1) := by decide +kernel
theorem dJ0_checkIndex_df160_9 : decode cJ0_checkIndex_df160 9 = .ok (.return_, 1) := by decide +kernel
set_option maxRecDepth 20000 in
theorem ggJ1_charAt_3b067_J0_checkIndex_df160 : GoodIn wsJ1_charAt_3b067 wsJ0_checkIndex_df160 := goodIn_r _ [4, 5, 6, 7, 8, 9] (by decide +kernel) (by decide +kernel)
set_option maxRecDepth 20000 in
theorem gJ1_charAt_3b067_J0_checkIndex_df160 : GoodIn wsJ1_charAt_3b067 (va_wsS RJ1 9 yJ0_checkIndex_df160 wsJ0_checkIndex_df160) := goodIn_app (goodIn_of _ (by decide +kernel)) ggJ1_charAt_3b067_J0_checkIndex_df160
theorem dJ1_charAt_3b067_0 : decode cJ1_charAt_3b067 0 = .ok (.iload_n 1, 1) := by decide +kernel
theorem dJ1_charAt_3b067_1 : decode cJ1_charAt_3b067 1 = .ok (.aload_n 0, 1) := by decide +kernel
theorem dJ1_charAt_3b067_2 : decode cJ1_charAt_3b067 2 = .ok (.arraylength, 1) := by decide +kernel
theorem dJ1_charAt_3b067_3 : decode cJ1_charAt_3b067 3 = .ok (.invokestatic 9, 3) := by decide +kernel
theorem dJ1_charAt_3b067_6 : decode cJ1_charAt_3b067 6 = .ok (.aload_n 0, 1) := by decide +kernel
theorem dJ1_charAt_3b067_7 : decode cJ1_charAt_3b067 7 = .ok (.iload_n 1, 1) := by decide +kernel
theorem dJ1_charAt_3b067_8 : decode cJ1_charAt_3b067 8 = .ok (.baload, 1) := by decide +kernel
theorem dJ1_charAt_3b067_9 : decode cJ1_charAt_3b067 9 = .ok (.sipush 255, 3) := by decide +kernel
theorem dJ1_charAt_3b067_12 : decode cJ1_charAt_3b067 12 = .ok (.iand, 1) := by decide +kernel
theorem dJ1_charAt_3b067_13 : decode cJ1_charAt_3b067 13 = .ok (.i2c, 1) := by decide +kernel
theorem dJ1_charAt_3b067_14 : decode cJ1_charAt_3b067 14 = .ok (.ireturn, 1) := by decide +kernel
set_option maxRecDepth 20000 in
theorem ggJ2_getChar_3b067_J2_length_9d52b : GoodIn wsJ2_getChar_3b067 wsJ2_length_9d52b := goodIn_r _ [7] (by decide +kernel) (by decide +kernel)
set_option maxRecDepth 20000 in
theorem gJ2_getChar_3b067_J2_length_9d52b : GoodIn wsJ2_getChar_3b067 (va_wsS RJ2 48 yJ2_length_9d52b wsJ2_length_9d52b) := goodIn_app (goodIn_of _ (by decide +kernel)) ggJ2_getChar_3b067_J2_length_9d52b
theorem dJ2_getChar_3b067_0 : decode cJ2_getChar_3b067 0 = .ok (.getstatic 44, 3) := by decide +kernel
theorem dJ2_getChar_3b067_3 : decode cJ2_getChar_3b067 3 = .ok (.ifCond .ne 25, 3) := by decide +kernel
theorem dJ2_getChar_3b067_6 : decode cJ2_getChar_3b067 6 = .ok (.iload_n 1, 1) := by decide +kernel
theorem dJ2_getChar_3b067_7 : decode cJ2_getChar_3b067 7 = .ok (.ifCond .lt 11, 3) := by decide +kernel
theorem dJ2_getChar_3b067_10 : decode cJ2_getChar_3b067 10 = .ok (.iload_n 1, 1) := by decide +kernel
theorem dJ2_getChar_3b067_11 : decode cJ2_getChar_3b067 11 = .ok (.aload_n 0, 1) := by decide +kernel
theorem dJ2_getChar_3b067_12 : decode cJ2_getChar_3b067 12 = .ok (.invokestatic 48, 3) := by decide +kernel
theorem dJ2_getChar_3b067_15 : decode cJ2_getChar_3b067 15 = .ok (.if_icmp .lt 13, 3) := by decide +kernel
theorem dJ2_getChar_3b067_18 : decode cJ2_getChar_3b067 18 = .ok (.new 52, 3) := by decide +kernel
theorem dJ2_getChar_3b067_21 : decode cJ2_getChar_3b067 21 = .ok (.dup, 1) := by decide +kernel
theorem dJ2_getChar_3b067_22 : decode cJ2_getChar_3b067 22 = .ok (.ldc 54, 2) := by decide +kernel
theorem dJ2_getChar_3b067_24 : decode cJ2_getChar_3b067 24 = .ok (.invokespecial 56, 3) := by decide +kernel
theorem dJ2_getChar_3b067_27 : decode cJ2_getChar_3b067 27 = .ok (.athrow, 1) := by decide +kernel
theorem dJ2_getChar_3b067_28 : decode cJ2_getChar_3b067 28 = .ok (.iload_n 1, 1) := by decide +kernel
theorem dJ2_getChar_3b067_29 : decode cJ2_getChar_3b067 29 = .ok (.iconst 1, 1) := by decide +kernel
theorem dJ2_getChar_3b067_30 : decode cJ2_getChar_3b067 30 = .ok (.ishl, 1) := by decide +kernel
theorem dJ2_getChar_3b067_31 : decode cJ2_getChar_3b067 31 = .ok (.istore_n 1, 1) := by decide +kernel
theorem dJ2_getChar_3b067_32 : decode cJ2_getChar_3b067 32 = .ok (.aload_n 0, 1) := by decide +kernel
theorem dJ2_getChar_3b067_33 : decode cJ2_getChar_3b067 33 = .ok (.iload_n 1, 1) := by decide +kernel
theorem dJ2_getChar_3b067_34 : decode cJ2_getChar_3b067 34 = .ok (.iinc 1 1, 3) := by decide +kernel
theorem dJ2_getChar_3b067_37 : decode cJ2_getChar_3b067 37 = .ok (.baload, 1) := by decide +kernel
theorem dJ2_getChar_3b067_38 : decode cJ2_getChar_3b067 38 = .ok (.sipush 255, 3) := by decide +kernel
theorem dJ2_getChar_3b067_41 : decode cJ2_getChar_3b067 41 = .ok (.iand, 1) := by decide +kernel
theorem dJ2_getChar_3b067_42 : decode cJ2_getChar_3b067 42 = .ok (.getstatic 59, 3) := by decide +kernel
theorem dJ2_getChar_3b067_45 : decode cJ2_getChar_3b067 45 = .ok (.ishl, 1) := by decide +kernel
theorem dJ2_getChar_3b067_46 : decode cJ2_getChar_3b067 46 = .ok (.aload_n 0, 1) := by decide +kernel
theorem dJ2_getChar_3b067_47 : decode cJ2_getChar_3b067 47 = .ok (.iload_n 1, 1) := by decide +kernel
theorem dJ2_getChar_3b067_48 : decode cJ2_getChar_3b067 48 = .ok (.baload, 1) := by decide +kernel
theorem dJ2_getChar_3b067_49 : decode cJ2_getChar_3b067 49 = .ok (.sipush 255, 3) := by decide +kernel
theorem dJ2_getChar_3b067_52 : decode cJ2_getChar_3b067 52 = .ok (.iand, 1) := by decide +kernel
theorem dJ2_getChar_3b067_53 : decode cJ2_getChar_3b067 53 = .ok (.getstatic 63, 3) := by decide +kernel
theorem dJ2_getChar_3b067_56 : decode cJ2_getChar_3b067 56 = .ok (.ishl, 1) := by decide +kernel
theorem dJ2_getChar_3b067_57 : decode cJ2_getChar_3b067 57 = .ok (.ior, 1) := by decide +kernel
theorem dJ2_getChar_3b067_58 : decode cJ2_getChar_3b067 58 = .ok (.i2c, 1) := by decide +kernel
theorem dJ2_getChar_3b067_59 : decode cJ2_getChar_3b067 59 = .ok (.ireturn, 1) := by decide +kernel
theorem dJ2_length_9d52b_0 : decode cJ2_length_9d52b 0 = .ok (.aload_n 0, 1) := by decide +kernel
theorem dJ2_length_9d52b_1 : decode cJ2_length_9d52b 1 = .ok (.arraylength, 1) := by decide +kernel
theorem dJ2_length_9d52b_2 : decode cJ2_length_9d52b 2 = .ok (.iconst 1, 1) := by decide +kernel
theorem dJ2_length_9d52b_3 : decode cJ2_length_9d52b 3 = .ok (.ishr, 1) := by decide +kernel
theorem dJ2_length_9d52b_4 : decode cJ2_length_9d52b 4 = .ok (.ireturn, 1) := by decide +kernel
set_option maxRecDepth 20000 in
theorem ggJ2_charAt_3b067_J2_checkIndex_2214a : GoodIn wsJ2_charAt_3b067 wsJ2_checkIndex_2214a := goodIn_r _ [4, 5, 6, 3, 7, 8, 9, 10, 11, 12, 13, 14, 15, 16] (by decide +kernel) (by decide +kernel)
set_option maxRecDepth 20000 in
theorem gJ2_charAt_3b067_J2_checkIndex_2214a : GoodIn wsJ2_charAt_3b067 (va_wsS RJ2 67 yJ2_checkIndex_2214a wsJ2_checkIndex_2214a) := goodIn_app (goodIn_of _ (by decide +kernel)) ggJ2_charAt_3b067_J2_checkIndex_2214a
set_option maxRecDepth 20000 in
theorem ggJ2_charAt_3b067_J2_getChar_3b067 : GoodIn wsJ2_charAt_3b067 wsJ2_getChar_3b067 := goodIn_r _ [19, 20, 21, 22, 5, 6, 3, 7] (by decide +kernel) (by decide +kernel)
set_option maxRecDepth 20000 in
theorem gJ2_charAt_3b067_J2_getChar_3b067 : GoodIn wsJ2_charAt_3b067 (va_wsS RJ2 71 yJ2_getChar_3b067 wsJ2_getChar_3b067) := goodIn_app (goodIn_of _ (by decide +kernel)) ggJ2_charAt_3b067_J2_getChar_3b067
theorem dJ2_charAt_3b067_0 : decode cJ2_charAt_3b067 0 = .ok (.iload_n 1, 1) := by decide +kernel
theorem dJ2_charAt_3b067_1 : decode cJ2_charAt_3b067 1 = .ok (.aload_n 0, 1) := by decide +kernel
theorem dJ2_charAt_3b067_2 : decode cJ2_charAt_3b067 2 = .ok (.invokestatic 67, 3) := by decide +kernel
theorem dJ2_charAt_3b067_5 : decode cJ2_charAt_3b067 5 = .ok (.aload_n 0, 1) := by decide +kernel
theorem dJ2_charAt_3b067_6 : decode cJ2_charAt_3b067 6 = .ok (.iload_n 1, 1) := by decide +kernel
theorem dJ2_charAt_3b067_7 : decode cJ2_charAt_3b067 7 = .ok (.invokestatic 71, 3) := by decide +kernel
theorem dJ2_charAt_3b067_10 : decode cJ2_charAt_3b067 10 = .ok (.ireturn, 1) := by decide +kernel
set_option maxRecDepth 20000 in
theorem ggJ2_checkIndex_2214a_J2_length_9d52b : GoodIn wsJ2_checkIndex_2214a wsJ2_length_9d52b := goodIn_r _ [4] (by decide +kernel) (by decide +kernel)
set_option maxRecDepth 20000 in
theorem gJ2_checkIndex_2214a_J2_length_9d52b : GoodIn wsJ2_checkIndex_2214a (va_wsS RJ2 48 yJ2_length_9d52b wsJ2_length_9d52b) := goodIn_app (goodIn_of _ (by decide +kernel)) ggJ2_checkIndex_2214a_J2_length_9d52b
set_option maxRecDepth 20000 in
theorem ggJ2_checkIndex_2214a_J0_checkIndex_df160 : GoodIn wsJ2_checkIndex_2214a wsJ0_checkIndex_df160 := goodIn_r _ [8, 9, 10, 11, 12, 13] (by decide +kernel) (by decide +kernel)
set_option maxRecDepth 20000 in
theorem gJ2_checkIndex_2214a_J0_checkIndex_df160 : GoodIn wsJ2_checkIndex_2214a (va_wsS RJ2 414 yJ0_checkIndex_df160 wsJ0_checkIndex_df160) := goodIn_app (goodIn_of _ (by decide +kernel)) ggJ2_checkIndex_2214a_J0_checkIndex_df160
theorem dJ2_checkIndex_2214a_0 : decode cJ2_checkIndex_2214a 0 = .ok (.iload_n 0, 1) := by decide +kernel
theorem dJ2_checkIndex_2214a_1 : decode cJ2_checkIndex_2214a 1 = .ok (.aload_n 1, 1) := by decide +kernel
theorem dJ2_checkIndex_2214a_2 : decode cJ2_checkIndex_2214a 2 = .ok (.invokestatic 48, 3) := by decide +kernel
theorem dJ2_checkIndex_2214a_5 : decode cJ2_checkIndex_2214a 5 = .ok (.invokestatic 414, 3) := by decide +kernel
theorem dJ2_checkIndex_2214a_8 : decode cJ2_checkIndex_2214a 8 = .ok (.return_, 1) := by decide +kernel
theorem dJ7_fill_d0a16_0 : decode cJ7_fill_d0a16 0 = .ok (.iconst 0, 1) := by decide +kernel
theorem dJ7_fill_d0a16_1 : decode cJ7_fill_d0a16 1 = .ok (.istore_n 3, 1) := by decide +kernel
theorem dJ7_fill_d0a16_2 : decode cJ7_fill_d0a16 2 = .ok (.aload_n 0, 1) := by decide +kernel
theorem dJ7_fill_d0a16_3 : decode cJ7_fill_d0a16 3 = .ok (.arraylength, 1) := by decide +kernel
theorem dJ7_fill_d0a16_4 : decode cJ7_fill_d0a16 4 = .ok (.istore 4, 2) := by decide +kernel
theorem dJ7_fill_d0a16_6 : decode cJ7_fill_d0a16 6 = .ok (.iload_n 3, 1) := by decide +kernel
theorem dJ7_fill_d0a16_7 : decode cJ7_fill_d0a16 7 = .ok (.iload 4, 2) := by decide +kernel
theorem dJ7_fill_d0a16_9 : decode cJ7_fill_d0a16 9 = .ok (.if_icmp .ge 13, 3) := by decide +kernel
theorem dJ7_fill_d0a16_12 : decode cJ7_fill_d0a16 12 = .ok (.aload_n 0, 1) := by decide +kernel
theorem dJ7_fill_d0a16_13 : decode cJ7_fill_d0a16 13 = .ok (.iload_n 3, 1) := by decide +kernel
theorem dJ7_fill_d0a16_14 : decode cJ7_fill_d0a16 14 = .ok (.lload_n 1, 1) := by decide +kernel
theorem dJ7_fill_d0a16_15 : decode cJ7_fill_d0a16 15 = .ok (.lastore, 1) := by decide +kernel
theorem dJ7_fill_d0a16_16 : decode cJ7_fill_d0a16 16 = .ok (.iinc 3 1, 3) := by decide +kernel
theorem dJ7_fill_d0a16_19 : decode cJ7_fill_d0a16 19 = .ok (.goto (-13), 3) := by decide +kernel
theorem dJ7_fill_d0a16_22 : decode cJ7_fill_d0a16 22 = .ok (.return_, 1) := by decide +kernel
theorem dJ7_fill_53178_0 : decode cJ7_fill_53178 0 = .ok (.iconst 0, 1) := by decide +kernel
theorem dJ7_fill_53178_1 : decode cJ7_fill_53178 1 = .ok (.istore_n 2, 1) := by decide +kernel
theorem dJ7_fill_53178_2 : decode cJ7_fill_53178 2 = .ok (.aload_n 0, 1) := by decide +kernel
theorem dJ7_fill_53178_3 : decode cJ7_fill_53178 3 = .ok (.arraylength, 1) := by decide +kernel
theorem dJ7_fill_53178_4 : decode cJ7_fill_53178 4 = .ok (.istore_n 3, 1) := by decide +kernel
theorem dJ7_fill_53178_5 : decode cJ7_fill_53178 5 = .ok (.iload_n 2, 1) := by decide +kernel
theorem dJ7_fill_53178_6 : decode cJ7_fill_53178 6 = .ok (.iload_n 3, 1) := by decide +kernel
theorem dJ7_fill_53178_7 : decode cJ7_fill_53178 7 = .ok (.if_icmp .ge 13, 3) := by decide +kernel
theorem dJ7_fill_53178_10 : decode cJ7_fill_53178 10 = .ok (.aload_n 0, 1) := by decide +kernel
theorem dJ7_fill_53178_11 : decode cJ7_fill_53178 11 = .ok (.iload_n 2, 1) := by decide +kernel
theorem dJ7_fill_53178_12 : decode cJ7_fill_53178 12 = .ok (.iload_n 1, 1) := by decide +kernel
theorem dJ7_fill_53178_13 : decode cJ7_fill_53178 13 = .ok (.iastore, 1) := by decide +kernel
theorem dJ7_fill_53178_14 : decode cJ7_fill_53178 14 = .ok (.iinc 2 1, 3) := by decide +kernel
theorem dJ7_fill_53178_17 : decode cJ7_fill_53178 17 = .ok (.goto (-12), 3) := by decide +kernel
theorem dJ7_fill_53178_20 : decode cJ7_fill_53178 20 = .ok (.return_, 1) := by decide +kernel
theorem dJ3_checkIndex_8e157_0 : decode cJ3_checkIndex_8e157 0 = .ok (.iload_n 0, 1) := by decide +kernel
theorem dJ3_checkIndex_8e157_1 : decode cJ3_checkIndex_8e157 1 = .ok (.ifCond .lt 8, 3) := by decide +kernel
theorem dJ3_checkIndex_8e157_4 : decode cJ3_checkIndex_8e157 4 = .ok (.iload_n 0, 1) := by decide +kernel
theorem dJ3_checkIndex_8e157_5 : decode cJ3_checkIndex_8e157 5 = .ok (.iload_n 1, 1) := by decide +kernel
theorem dJ3_checkIndex_8e157_6 : decode cJ3_checkIndex_8e157 6 = .ok (.if_icmp .lt 10, 3) := by decide +kernel
theorem dJ3_checkIndex_8e157_9 : decode cJ3_checkIndex_8e157 9 = .ok (.aload_n 2, 1) := by decide +kernel
theorem dJ3_checkIndex_8e157_10 : decode cJ3_checkIndex_8e157 10 = .ok (.iload_n 0, 1) := by decide +kernel
theorem dJ3_checkIndex_8e157_11 : decode cJ3_checkIndex_8e157 11 = .ok (.iload_n 1, 1) := by decide +kernel
theorem dJ3_checkIndex_8e157_12 : decode cJ3_checkIndex_8e157 12 = .ok (.invokestatic 95, 3) := by decide +kernel
theorem dJ3_checkIndex_8e157_15 : decode cJ3_checkIndex_8e157 15 = .ok (.athrow, 1) := by decide +kernel
theorem dJ3_checkIndex_8e157_16 : decode cJ3_checkIndex_8e157 16 = .ok (.iload_n 0, 1) := by decide +kernel
theorem dJ3_checkIndex_8e157_17 : decode cJ3_checkIndex_8e157 17 = .ok (.ireturn, 1) := by decide +kernel
