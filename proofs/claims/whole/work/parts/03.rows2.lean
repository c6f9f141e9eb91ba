theorem dX7_nextOf_22 : decode cX7_nextOf 22 = .ok (.iload_n 1, 1) := by decide +kernel
theorem dX7_nextOf_23 : decode cX7_nextOf 23 = .ok (.iload_n 2, 1) := by decide +kernel
theorem dX7_nextOf_24 : decode cX7_nextOf 24 = .ok (.iconst 1, 1) := by decide +kernel
theorem dX7_nextOf_25 : decode cX7_nextOf 25 = .ok (.invokevirtual 44, 3) := by decide +kernel
theorem dX7_nextOf_28 : decode cX7_nextOf 28 = .ok (.ishl, 1) := by decide +kernel
theorem dX7_nextOf_29 : decode cX7_nextOf 29 = .ok (.ireturn, 1) := by decide +kernel
theorem dX7_nextOf_30 : decode cX7_nextOf 30 = .ok (.iload_n 3, 1) := by decide +kernel
theorem dX7_nextOf_31 : decode cX7_nextOf 31 = .ok (.iconst 2, 1) := by decide +kernel
theorem dX7_nextOf_32 : decode cX7_nextOf 32 = .ok (.if_icmp .ne 23, 3) := by decide +kernel
theorem dX7_nextOf_35 : decode cX7_nextOf 35 = .ok (.iconst 1, 1) := by decide +kernel
theorem dX7_nextOf_36 : decode cX7_nextOf 36 = .ok (.aload_n 0, 1) := by decide +kernel
theorem dX7_nextOf_37 : decode cX7_nextOf 37 = .ok (.iload_n 1, 1) := by decide +kernel
theorem dX7_nextOf_38 : decode cX7_nextOf 38 = .ok (.iload_n 2, 1) := by decide +kernel
theorem dX7_nextOf_39 : decode cX7_nextOf 39 = .ok (.iconst 2, 1) := by decide +kernel
theorem dX7_nextOf_40 : decode cX7_nextOf 40 = .ok (.invokevirtual 44, 3) := by decide +kernel
theorem dX7_nextOf_43 : decode cX7_nextOf 43 = .ok (.ishl, 1) := by decide +kernel
theorem dX7_nextOf_44 : decode cX7_nextOf 44 = .ok (.iconst 1, 1) := by decide +kernel
theorem dX7_nextOf_45 : decode cX7_nextOf 45 = .ok (.aload_n 0, 1) := by decide +kernel
theorem dX7_nextOf_46 : decode cX7_nextOf 46 = .ok (.iload_n 1, 1) := by decide +kernel
theorem dX7_nextOf_47 : decode cX7_nextOf 47 = .ok (.iload_n 2, 1) := by decide +kernel
theorem dX7_nextOf_48 : decode cX7_nextOf 48 = .ok (.iconst 3, 1) := by decide +kernel
theorem dX7_nextOf_49 : decode cX7_nextOf 49 = .ok (.invokevirtual 44, 3) := by decide +kernel
theorem dX7_nextOf_52 : decode cX7_nextOf 52 = .ok (.ishl, 1) := by decide +kernel
theorem dX7_nextOf_53 : decode cX7_nextOf 53 = .ok (.ior, 1) := by decide +kernel
theorem dX7_nextOf_54 : decode cX7_nextOf 54 = .ok (.ireturn, 1) := by decide +kernel
theorem dX7_nextOf_55 : decode cX7_nextOf 55 = .ok (.iconst 1, 1) := by decide +kernel
theorem dX7_nextOf_56 : decode cX7_nextOf 56 = .ok (.iload_n 2, 1) := by decide +kernel
theorem dX7_nextOf_57 : decode cX7_nextOf 57 = .ok (.iconst 1, 1) := by decide +kernel
theorem dX7_nextOf_58 : decode cX7_nextOf 58 = .ok (.iadd, 1) := by decide +kernel
theorem dX7_nextOf_59 : decode cX7_nextOf 59 = .ok (.ishl, 1) := by decide +kernel
theorem dX7_nextOf_60 : decode cX7_nextOf 60 = .ok (.ireturn, 1) := by decide +kernel
set_option maxRecDepth 20000 in
theorem ggX7_reached_X7_sizeOf : GoodIn wsX7_reached wsX7_sizeOf := goodIn_r _ [5, 6, 16, 17, 18, 19, 20, 21, 22, 23, 24] (by decide +kernel) (by decide +kernel)
set_option maxRecDepth 20000 in
theorem gX7_reached_X7_sizeOf : GoodIn wsX7_reached (wsV RX7 56 RX7 yX7_sizeOf wsX7_sizeOf) := goodIn_app (goodIn_of _ (by decide +kernel)) ggX7_reached_X7_sizeOf
set_option maxRecDepth 20000 in
theorem ggX7_reached_X7_nextOf : GoodIn wsX7_reached wsX7_nextOf := goodIn_r _ [10, 11, 12, 13, 4, 14, 15, 16, 17, 18, 19, 20, 21, 22, 23, 24] (by decide +kernel) (by decide +kernel)
set_option maxRecDepth 20000 in
theorem gX7_reached_X7_nextOf : GoodIn wsX7_reached (wsV RX7 59 RX7 yX7_nextOf wsX7_nextOf) := goodIn_app (goodIn_of _ (by decide +kernel)) ggX7_reached_X7_nextOf
theorem dX7_reached_0 : decode cX7_reached 0 = .ok (.aload_n 0, 1) := by decide +kernel
theorem dX7_reached_1 : decode cX7_reached 1 = .ok (.iload_n 1, 1) := by decide +kernel
theorem dX7_reached_2 : decode cX7_reached 2 = .ok (.invokevirtual 56, 3) := by decide +kernel
theorem dX7_reached_5 : decode cX7_reached 5 = .ok (.istore_n 2, 1) := by decide +kernel
theorem dX7_reached_6 : decode cX7_reached 6 = .ok (.iconst 1, 1) := by decide +kernel
theorem dX7_reached_7 : decode cX7_reached 7 = .ok (.istore_n 3, 1) := by decide +kernel
theorem dX7_reached_8 : decode cX7_reached 8 = .ok (.iconst 0, 1) := by decide +kernel
theorem dX7_reached_9 : decode cX7_reached 9 = .ok (.istore 4, 2) := by decide +kernel
theorem dX7_reached_11 : decode cX7_reached 11 = .ok (.iload 4, 2) := by decide +kernel
theorem dX7_reached_13 : decode cX7_reached 13 = .ok (.bipush 24, 2) := by decide +kernel
theorem dX7_reached_15 : decode cX7_reached 15 = .ok (.if_icmp .gt 56, 3) := by decide +kernel
theorem dX7_reached_18 : decode cX7_reached 18 = .ok (.iload_n 3, 1) := by decide +kernel
theorem dX7_reached_19 : decode cX7_reached 19 = .ok (.istore 5, 2) := by decide +kernel
theorem dX7_reached_21 : decode cX7_reached 21 = .ok (.iconst 0, 1) := by decide +kernel
theorem dX7_reached_22 : decode cX7_reached 22 = .ok (.istore 6, 2) := by decide +kernel
theorem dX7_reached_24 : decode cX7_reached 24 = .ok (.iload 6, 2) := by decide +kernel
theorem dX7_reached_26 : decode cX7_reached 26 = .ok (.iload_n 2, 1) := by decide +kernel
theorem dX7_reached_27 : decode cX7_reached 27 = .ok (.if_icmp .ge 29, 3) := by decide +kernel
theorem dX7_reached_30 : decode cX7_reached 30 = .ok (.iload_n 3, 1) := by decide +kernel
theorem dX7_reached_31 : decode cX7_reached 31 = .ok (.iload 6, 2) := by decide +kernel
theorem dX7_reached_33 : decode cX7_reached 33 = .ok (.ishr, 1) := by decide +kernel
theorem dX7_reached_34 : decode cX7_reached 34 = .ok (.iconst 1, 1) := by decide +kernel
theorem dX7_reached_35 : decode cX7_reached 35 = .ok (.iand, 1) := by decide +kernel
theorem dX7_reached_36 : decode cX7_reached 36 = .ok (.iconst 1, 1) := by decide +kernel
theorem dX7_reached_37 : decode cX7_reached 37 = .ok (.if_icmp .ne 13, 3) := by decide +kernel
theorem dX7_reached_40 : decode cX7_reached 40 = .ok (.iload_n 3, 1) := by decide +kernel
theorem dX7_reached_41 : decode cX7_reached 41 = .ok (.aload_n 0, 1) := by decide +kernel
theorem dX7_reached_42 : decode cX7_reached 42 = .ok (.iload_n 1, 1) := by decide +kernel
theorem dX7_reached_43 : decode cX7_reached 43 = .ok (.iload 6, 2) := by decide +kernel
theorem dX7_reached_45 : decode cX7_reached 45 = .ok (.invokevirtual 59, 3) := by decide +kernel
theorem dX7_reached_48 : decode cX7_reached 48 = .ok (.ior, 1) := by decide +kernel
theorem dX7_reached_49 : decode cX7_reached 49 = .ok (.istore_n 3, 1) := by decide +kernel
theorem dX7_reached_50 : decode cX7_reached 50 = .ok (.iinc 6 1, 3) := by decide +kernel
theorem dX7_reached_53 : decode cX7_reached 53 = .ok (.goto (-29), 3) := by decide +kernel
theorem dX7_reached_56 : decode cX7_reached 56 = .ok (.iload_n 3, 1) := by decide +kernel
theorem dX7_reached_57 : decode cX7_reached 57 = .ok (.iload 5, 2) := by decide +kernel
theorem dX7_reached_59 : decode cX7_reached 59 = .ok (.if_icmp .ne 6, 3) := by decide +kernel
theorem dX7_reached_62 : decode cX7_reached 62 = .ok (.goto 9, 3) := by decide +kernel
theorem dX7_reached_65 : decode cX7_reached 65 = .ok (.iinc 4 1, 3) := by decide +kernel
theorem dX7_reached_68 : decode cX7_reached 68 = .ok (.goto (-57), 3) := by decide +kernel
theorem dX7_reached_71 : decode cX7_reached 71 = .ok (.iload_n 3, 1) := by decide +kernel
theorem dX7_reached_72 : decode cX7_reached 72 = .ok (.iconst 1, 1) := by decide +kernel
theorem dX7_reached_73 : decode cX7_reached 73 = .ok (.iload_n 2, 1) := by decide +kernel
theorem dX7_reached_74 : decode cX7_reached 74 = .ok (.ishl, 1) := by decide +kernel
theorem dX7_reached_75 : decode cX7_reached 75 = .ok (.iconst 1, 1) := by decide +kernel
theorem dX7_reached_76 : decode cX7_reached 76 = .ok (.isub, 1) := by decide +kernel
theorem dX7_reached_77 : decode cX7_reached 77 = .ok (.iand, 1) := by decide +kernel
theorem dX7_reached_78 : decode cX7_reached 78 = .ok (.ireturn, 1) := by decide +kernel
set_option maxRecDepth 20000 in
theorem ggX8_init_X7_init : GoodIn wsX8_init wsX7_init := goodIn_r _ [43, 44, 2, 3, 45, 46, 47, 48, 49, 39, 50, 51, 52, 53, 130, 131, 132, 133, 134, 135, 136, 137, 138] (by decide +kernel) (by decide +kernel)
set_option maxRecDepth 20000 in
theorem gX8_init_X7_init_n11 : GoodIn wsX8_init (wsX7_init) := ggX8_init_X7_init
set_option maxRecDepth 20000 in
theorem ggX8_init_X4_init : GoodIn wsX8_init wsX4_init := goodIn_r _ [55, 56, 2, 3, 39, 57, 58, 59, 60, 61, 62, 63, 64, 65, 66, 67, 68, 69, 70, 152, 153, 154, 155, 156, 157, 158, 159, 160, 161, 162, 163, 164, 165] (by decide +kernel) (by decide +kernel)
set_option maxRecDepth 20000 in
theorem gX8_init_X4_init_n18 : GoodIn wsX8_init (wsX4_init) := ggX8_init_X4_init
set_option maxRecDepth 20000 in
theorem ggX8_init_X3_init : GoodIn wsX8_init wsX3_init := goodIn_r _ [72, 73, 2, 3, 39, 74, 166] (by decide +kernel) (by decide +kernel)
set_option maxRecDepth 20000 in
theorem gX8_init_X3_init_n25 : GoodIn wsX8_init (wsX3_init) := ggX8_init_X3_init
set_option maxRecDepth 20000 in
theorem ggX8_init_X6_init : GoodIn wsX8_init wsX6_init := goodIn_r _ [77, 78, 2, 3, 79, 80, 81, 82, 83, 84, 85, 86, 87, 88, 89, 90, 39, 91, 167, 168, 169, 170, 171, 172, 173, 174, 175, 176, 177, 178] (by decide +kernel) (by decide +kernel)
set_option maxRecDepth 20000 in
theorem gX8_init_X6_init : GoodIn wsX8_init (wsX6_init) := ggX8_init_X6_init
set_option maxRecDepth 20000 in
theorem ggX8_init_X0_init : GoodIn wsX8_init wsX0_init := goodIn_r _ [93, 94, 2, 3, 39, 95, 96, 97, 98, 99, 100, 179, 180, 181, 182, 183, 184] (by decide +kernel) (by decide +kernel)
set_option maxRecDepth 20000 in
theorem gX8_init_X0_init_n50 : GoodIn wsX8_init (wsX0_init) := ggX8_init_X0_init
set_option maxRecDepth 20000 in
theorem ggX8_init_X5_init : GoodIn wsX8_init wsX5_init := goodIn_r _ [102, 103, 2, 3, 39, 104, 105, 106, 107, 108, 109, 110, 111, 112, 113, 114, 185, 186, 187, 188, 189, 190, 191, 192, 193, 194, 195] (by decide +kernel) (by decide +kernel)
set_option maxRecDepth 20000 in
theorem gX8_init_X5_init_n57 : GoodIn wsX8_init (wsX5_init) := ggX8_init_X5_init
set_option maxRecDepth 20000 in
theorem ggX8_init_X1_init : GoodIn wsX8_init wsX1_init := goodIn_r _ [116, 117, 2, 3, 118, 119, 120, 121, 196, 197, 198, 199] (by decide +kernel) (by decide +kernel)
set_option maxRecDepth 20000 in
theorem gX8_init_X1_init_n64 : GoodIn wsX8_init (wsX1_init) := ggX8_init_X1_init
set_option maxRecDepth 20000 in
theorem ggX8_init_X2_init : GoodIn wsX8_init wsX2_init := goodIn_r _ [123, 124, 2, 3, 39, 125, 126, 127, 128, 129, 200, 201, 202, 203, 204] (by decide +kernel) (by decide +kernel)
set_option maxRecDepth 20000 in
theorem gX8_init_X2_init_n71 : GoodIn wsX8_init (wsX2_init) := ggX8_init_X2_init
theorem dX8_init_0 : decode cX8_init 0 = .ok (.aload_n 0, 1) := by decide +kernel
theorem dX8_init_1 : decode cX8_init 1 = .ok (.invokespecial 3, 3) := by decide +kernel
theorem dX8_init_4 : decode cX8_init 4 = .ok (.aload_n 0, 1) := by decide +kernel
theorem dX8_init_5 : decode cX8_init 5 = .ok (.new 9, 3) := by decide +kernel
theorem dX8_init_8 : decode cX8_init 8 = .ok (.dup, 1) := by decide +kernel
theorem dX8_init_9 : decode cX8_init 9 = .ok (.invokespecial 11, 3) := by decide +kernel
theorem dX8_init_12 : decode cX8_init 12 = .ok (.putfield 12, 3) := by decide +kernel
theorem dX8_init_15 : decode cX8_init 15 = .ok (.aload_n 0, 1) := by decide +kernel
theorem dX8_init_16 : decode cX8_init 16 = .ok (.new 16, 3) := by decide +kernel
theorem dX8_init_19 : decode cX8_init 19 = .ok (.dup, 1) := by decide +kernel
theorem dX8_init_20 : decode cX8_init 20 = .ok (.invokespecial 18, 3) := by decide +kernel
theorem dX8_init_23 : decode cX8_init 23 = .ok (.putfield 19, 3) := by decide +kernel
theorem dX8_init_26 : decode cX8_init 26 = .ok (.aload_n 0, 1) := by decide +kernel
theorem dX8_init_27 : decode cX8_init 27 = .ok (.new 23, 3) := by decide +kernel
theorem dX8_init_30 : decode cX8_init 30 = .ok (.dup, 1) := by decide +kernel
theorem dX8_init_31 : decode cX8_init 31 = .ok (.invokespecial 25, 3) := by decide +kernel
theorem dX8_init_34 : decode cX8_init 34 = .ok (.putfield 26, 3) := by decide +kernel
theorem dX8_init_37 : decode cX8_init 37 = .ok (.aload_n 0, 1) := by decide +kernel
theorem dX8_init_38 : decode cX8_init 38 = .ok (.new 30, 3) := by decide +kernel
theorem dX8_init_41 : decode cX8_init 41 = .ok (.dup, 1) := by decide +kernel
theorem dX8_init_42 : decode cX8_init 42 = .ok (.iconst 1, 1) := by decide +kernel
theorem dX8_init_43 : decode cX8_init 43 = .ok (.invokespecial 32, 3) := by decide +kernel
theorem dX8_init_46 : decode cX8_init 46 = .ok (.putfield 35, 3) := by decide +kernel
theorem dX8_init_49 : decode cX8_init 49 = .ok (.aload_n 0, 1) := by decide +kernel
theorem dX8_init_50 : decode cX8_init 50 = .ok (.new 30, 3) := by decide +kernel
theorem dX8_init_53 : decode cX8_init 53 = .ok (.dup, 1) := by decide +kernel
theorem dX8_init_54 : decode cX8_init 54 = .ok (.iconst 0, 1) := by decide +kernel
theorem dX8_init_55 : decode cX8_init 55 = .ok (.invokespecial 32, 3) := by decide +kernel
theorem dX8_init_58 : decode cX8_init 58 = .ok (.putfield 39, 3) := by decide +kernel
theorem dX8_init_61 : decode cX8_init 61 = .ok (.aload_n 0, 1) := by decide +kernel
theorem dX8_init_62 : decode cX8_init 62 = .ok (.new 30, 3) := by decide +kernel
theorem dX8_init_65 : decode cX8_init 65 = .ok (.dup, 1) := by decide +kernel
theorem dX8_init_66 : decode cX8_init 66 = .ok (.iconst 0, 1) := by decide +kernel
theorem dX8_init_67 : decode cX8_init 67 = .ok (.invokespecial 32, 3) := by decide +kernel
theorem dX8_init_70 : decode cX8_init 70 = .ok (.putfield 42, 3) := by decide +kernel
theorem dX8_init_73 : decode cX8_init 73 = .ok (.aload_n 0, 1) := by decide +kernel
theorem dX8_init_74 : decode cX8_init 74 = .ok (.new 30, 3) := by decide +kernel
theorem dX8_init_77 : decode cX8_init 77 = .ok (.dup, 1) := by decide +kernel
theorem dX8_init_78 : decode cX8_init 78 = .ok (.iconst 0, 1) := by decide +kernel
theorem dX8_init_79 : decode cX8_init 79 = .ok (.invokespecial 32, 3) := by decide +kernel
theorem dX8_init_82 : decode cX8_init 82 = .ok (.putfield 45, 3) := by decide +kernel
theorem dX8_init_85 : decode cX8_init 85 = .ok (.aload_n 0, 1) := by decide +kernel
theorem dX8_init_86 : decode cX8_init 86 = .ok (.new 48, 3) := by decide +kernel
theorem dX8_init_89 : decode cX8_init 89 = .ok (.dup, 1) := by decide +kernel
theorem dX8_init_90 : decode cX8_init 90 = .ok (.invokespecial 50, 3) := by decide +kernel
theorem dX8_init_93 : decode cX8_init 93 = .ok (.putfield 51, 3) := by decide +kernel
theorem dX8_init_96 : decode cX8_init 96 = .ok (.aload_n 0, 1) := by decide +kernel
theorem dX8_init_97 : decode cX8_init 97 = .ok (.new 55, 3) := by decide +kernel
theorem dX8_init_100 : decode cX8_init 100 = .ok (.dup, 1) := by decide +kernel
theorem dX8_init_101 : decode cX8_init 101 = .ok (.invokespecial 57, 3) := by decide +kernel
theorem dX8_init_104 : decode cX8_init 104 = .ok (.putfield 58, 3) := by decide +kernel
theorem dX8_init_107 : decode cX8_init 107 = .ok (.aload_n 0, 1) := by decide +kernel
theorem dX8_init_108 : decode cX8_init 108 = .ok (.new 62, 3) := by decide +kernel
theorem dX8_init_111 : decode cX8_init 111 = .ok (.dup, 1) := by decide +kernel
theorem dX8_init_112 : decode cX8_init 112 = .ok (.invokespecial 64, 3) := by decide +kernel
theorem dX8_init_115 : decode cX8_init 115 = .ok (.putfield 65, 3) := by decide +kernel
theorem dX8_init_118 : decode cX8_init 118 = .ok (.aload_n 0, 1) := by decide +kernel
theorem dX8_init_119 : decode cX8_init 119 = .ok (.new 69, 3) := by decide +kernel
theorem dX8_init_122 : decode cX8_init 122 = .ok (.dup, 1) := by decide +kernel
theorem dX8_init_123 : decode cX8_init 123 = .ok (.invokespecial 71, 3) := by decide +kernel
theorem dX8_init_126 : decode cX8_init 126 = .ok (.putfield 72, 3) := by decide +kernel
theorem dX8_init_129 : decode cX8_init 129 = .ok (.aload_n 0, 1) := by decide +kernel
theorem dX8_init_130 : decode cX8_init 130 = .ok (.sipush 500, 3) := by decide +kernel
theorem dX8_init_133 : decode cX8_init 133 = .ok (.newarray .int, 2) := by decide +kernel
theorem dX8_init_135 : decode cX8_init 135 = .ok (.putfield 76, 3) := by decide +kernel
theorem dX8_init_138 : decode cX8_init 138 = .ok (.aload_n 0, 1) := by decide +kernel
theorem dX8_init_139 : decode cX8_init 139 = .ok (.iconst 0, 1) := by decide +kernel
theorem dX8_init_140 : decode cX8_init 140 = .ok (.putfield 80, 3) := by decide +kernel
theorem dX8_init_143 : decode cX8_init 143 = .ok (.return_, 1) := by decide +kernel
theorem dX8_refuse_0 : decode cX8_refuse 0 = .ok (.aload_n 0, 1) := by decide +kernel
theorem dX8_refuse_1 : decode cX8_refuse 1 = .ok (.iload_n 1, 1) := by decide +kernel
theorem dX8_refuse_2 : decode cX8_refuse 2 = .ok (.putfield 80, 3) := by decide +kernel
theorem dX8_refuse_5 : decode cX8_refuse 5 = .ok (.iconst (-1), 1) := by decide +kernel
theorem dX8_refuse_6 : decode cX8_refuse 6 = .ok (.ireturn, 1) := by decide +kernel
theorem dX8_accept_0 : decode cX8_accept 0 = .ok (.aload_n 0, 1) := by decide +kernel
theorem dX8_accept_1 : decode cX8_accept 1 = .ok (.iconst 0, 1) := by decide +kernel
theorem dX8_accept_2 : decode cX8_accept 2 = .ok (.putfield 80, 3) := by decide +kernel
theorem dX8_accept_5 : decode cX8_accept 5 = .ok (.iload_n 1, 1) := by decide +kernel
theorem dX8_accept_6 : decode cX8_accept 6 = .ok (.ireturn, 1) := by decide +kernel
theorem dX8_areBits_0 : decode cX8_areBits 0 = .ok (.iload_n 0, 1) := by decide +kernel
theorem dX8_areBits_1 : decode cX8_areBits 1 = .ok (.ifCond .lt 14, 3) := by decide +kernel
theorem dX8_areBits_4 : decode cX8_areBits 4 = .ok (.iload_n 0, 1) := by decide +kernel
theorem dX8_areBits_5 : decode cX8_areBits 5 = .ok (.sipush 255, 3) := by decide +kernel
theorem dX8_areBits_8 : decode cX8_areBits 8 = .ok (.if_icmp .gt 7, 3) := by decide +kernel
theorem dX8_areBits_11 : decode cX8_areBits 11 = .ok (.iconst 1, 1) := by decide +kernel
theorem dX8_areBits_12 : decode cX8_areBits 12 = .ok (.goto 4, 3) := by decide +kernel
theorem dX8_areBits_15 : decode cX8_areBits 15 = .ok (.iconst 0, 1) := by decide +kernel
theorem dX8_areBits_16 : decode cX8_areBits 16 = .ok (.ireturn, 1) := by decide +kernel
set_option maxRecDepth 20000 in
theorem ggX8_fact_X8_refuse : GoodIn wsX8_fact wsX8_refuse := goodIn_r _ [6, 7, 12, 13, 14, 15, 16, 17, 18, 19, 20, 21, 22, 23, 24] (by decide +kernel) (by decide +kernel)
set_option maxRecDepth 20000 in
theorem gX8_fact_X8_refuse : GoodIn wsX8_fact (wsV RX8 87 RX8 yX8_refuse wsX8_refuse) := goodIn_app (goodIn_of _ (by decide +kernel)) ggX8_fact_X8_refuse
set_option maxRecDepth 20000 in
theorem ggX8_fact_X8_accept : GoodIn wsX8_fact wsX8_accept := goodIn_r _ [11, 7, 12, 13, 14, 15, 16, 17, 18, 19, 20, 21, 22, 23, 24] (by decide +kernel) (by decide +kernel)
set_option maxRecDepth 20000 in
theorem gX8_fact_X8_accept : GoodIn wsX8_fact (wsV RX8 91 RX8 yX8_accept wsX8_accept) := goodIn_app (goodIn_of _ (by decide +kernel)) ggX8_fact_X8_accept
theorem dX8_fact_0 : decode cX8_fact 0 = .ok (.aload_n 0, 1) := by decide +kernel
theorem dX8_fact_1 : decode cX8_fact 1 = .ok (.getfield 12, 3) := by decide +kernel
theorem dX8_fact_4 : decode cX8_fact 4 = .ok (.getfield 84, 3) := by decide +kernel
theorem dX8_fact_7 : decode cX8_fact 7 = .ok (.bipush 8, 2) := by decide +kernel
theorem dX8_fact_9 : decode cX8_fact 9 = .ok (.if_icmp .lt 9, 3) := by decide +kernel
theorem dX8_fact_12 : decode cX8_fact 12 = .ok (.aload_n 0, 1) := by decide +kernel
theorem dX8_fact_13 : decode cX8_fact 13 = .ok (.iconst 3, 1) := by decide +kernel
theorem dX8_fact_14 : decode cX8_fact 14 = .ok (.invokevirtual 87, 3) := by decide +kernel
theorem dX8_fact_17 : decode cX8_fact 17 = .ok (.ireturn, 1) := by decide +kernel
theorem dX8_fact_18 : decode cX8_fact 18 = .ok (.aload_n 0, 1) := by decide +kernel
theorem dX8_fact_19 : decode cX8_fact 19 = .ok (.getfield 12, 3) := by decide +kernel
theorem dX8_fact_22 : decode cX8_fact 22 = .ok (.dup, 1) := by decide +kernel
theorem dX8_fact_23 : decode cX8_fact 23 = .ok (.getfield 84, 3) := by decide +kernel
theorem dX8_fact_26 : decode cX8_fact 26 = .ok (.iconst 1, 1) := by decide +kernel
theorem dX8_fact_27 : decode cX8_fact 27 = .ok (.iadd, 1) := by decide +kernel
theorem dX8_fact_28 : decode cX8_fact 28 = .ok (.putfield 84, 3) := by decide +kernel
theorem dX8_fact_31 : decode cX8_fact 31 = .ok (.aload_n 0, 1) := by decide +kernel
theorem dX8_fact_32 : decode cX8_fact 32 = .ok (.aload_n 0, 1) := by decide +kernel
theorem dX8_fact_33 : decode cX8_fact 33 = .ok (.getfield 12, 3) := by decide +kernel
theorem dX8_fact_36 : decode cX8_fact 36 = .ok (.getfield 84, 3) := by decide +kernel
theorem dX8_fact_39 : decode cX8_fact 39 = .ok (.iconst 1, 1) := by decide +kernel
theorem dX8_fact_40 : decode cX8_fact 40 = .ok (.isub, 1) := by decide +kernel
theorem dX8_fact_41 : decode cX8_fact 41 = .ok (.invokevirtual 91, 3) := by decide +kernel
theorem dX8_fact_44 : decode cX8_fact 44 = .ok (.ireturn, 1) := by decide +kernel
set_option maxRecDepth 20000 in
theorem ggX8_sign_X8_refuse : GoodIn wsX8_sign wsX8_refuse := goodIn_r _ [6, 7, 12, 13, 14, 15, 16, 17, 18, 19, 20, 21, 22, 23, 24] (by decide +kernel) (by decide +kernel)
set_option maxRecDepth 20000 in
theorem gX8_sign_X8_refuse : GoodIn wsX8_sign (wsV RX8 87 RX8 yX8_refuse wsX8_refuse) := goodIn_app (goodIn_of _ (by decide +kernel)) ggX8_sign_X8_refuse
set_option maxRecDepth 20000 in
theorem ggX8_sign_X8_accept : GoodIn wsX8_sign wsX8_accept := goodIn_r _ [11, 7, 12, 13, 14, 15, 16, 17, 18, 19, 20, 21, 22, 23, 24] (by decide +kernel) (by decide +kernel)
set_option maxRecDepth 20000 in
theorem gX8_sign_X8_accept : GoodIn wsX8_sign (wsV RX8 91 RX8 yX8_accept wsX8_accept) := goodIn_app (goodIn_of _ (by decide +kernel)) ggX8_sign_X8_accept
theorem dX8_sign_0 : decode cX8_sign 0 = .ok (.iload_n 1, 1) := by decide +kernel
theorem dX8_sign_1 : decode cX8_sign 1 = .ok (.ifCond .lt 14, 3) := by decide +kernel
theorem dX8_sign_4 : decode cX8_sign 4 = .ok (.iload_n 1, 1) := by decide +kernel
theorem dX8_sign_5 : decode cX8_sign 5 = .ok (.aload_n 0, 1) := by decide +kernel
theorem dX8_sign_6 : decode cX8_sign 6 = .ok (.getfield 12, 3) := by decide +kernel
theorem dX8_sign_9 : decode cX8_sign 9 = .ok (.getfield 84, 3) := by decide +kernel
theorem dX8_sign_12 : decode cX8_sign 12 = .ok (.if_icmp .lt 9, 3) := by decide +kernel
theorem dX8_sign_15 : decode cX8_sign 15 = .ok (.aload_n 0, 1) := by decide +kernel
theorem dX8_sign_16 : decode cX8_sign 16 = .ok (.iconst 1, 1) := by decide +kernel
theorem dX8_sign_17 : decode cX8_sign 17 = .ok (.invokevirtual 87, 3) := by decide +kernel
theorem dX8_sign_20 : decode cX8_sign 20 = .ok (.ireturn, 1) := by decide +kernel
theorem dX8_sign_21 : decode cX8_sign 21 = .ok (.aload_n 0, 1) := by decide +kernel
theorem dX8_sign_22 : decode cX8_sign 22 = .ok (.getfield 12, 3) := by decide +kernel
theorem dX8_sign_25 : decode cX8_sign 25 = .ok (.getfield 94, 3) := by decide +kernel
theorem dX8_sign_28 : decode cX8_sign 28 = .ok (.istore_n 2, 1) := by decide +kernel
theorem dX8_sign_29 : decode cX8_sign 29 = .ok (.iload_n 2, 1) := by decide +kernel
theorem dX8_sign_30 : decode cX8_sign 30 = .ok (.ifCond .lt 15, 3) := by decide +kernel
theorem dX8_sign_33 : decode cX8_sign 33 = .ok (.iload_n 2, 1) := by decide +kernel
theorem dX8_sign_34 : decode cX8_sign 34 = .ok (.aload_n 0, 1) := by decide +kernel
theorem dX8_sign_35 : decode cX8_sign 35 = .ok (.getfield 12, 3) := by decide +kernel
theorem dX8_sign_38 : decode cX8_sign 38 = .ok (.getfield 97, 3) := by decide +kernel
theorem dX8_sign_41 : decode cX8_sign 41 = .ok (.arraylength, 1) := by decide +kernel
theorem dX8_sign_42 : decode cX8_sign 42 = .ok (.if_icmp .lt 9, 3) := by decide +kernel
theorem dX8_sign_45 : decode cX8_sign 45 = .ok (.aload_n 0, 1) := by decide +kernel
theorem dX8_sign_46 : decode cX8_sign 46 = .ok (.iconst 3, 1) := by decide +kernel
theorem dX8_sign_47 : decode cX8_sign 47 = .ok (.invokevirtual 87, 3) := by decide +kernel
theorem dX8_sign_50 : decode cX8_sign 50 = .ok (.ireturn, 1) := by decide +kernel
theorem dX8_sign_51 : decode cX8_sign 51 = .ok (.aload_n 0, 1) := by decide +kernel
theorem dX8_sign_52 : decode cX8_sign 52 = .ok (.getfield 12, 3) := by decide +kernel
theorem dX8_sign_55 : decode cX8_sign 55 = .ok (.getfield 97, 3) := by decide +kernel
theorem dX8_sign_58 : decode cX8_sign 58 = .ok (.iload_n 2, 1) := by decide +kernel
theorem dX8_sign_59 : decode cX8_sign 59 = .ok (.iload_n 1, 1) := by decide +kernel
theorem dX8_sign_60 : decode cX8_sign 60 = .ok (.iastore, 1) := by decide +kernel
theorem dX8_sign_61 : decode cX8_sign 61 = .ok (.aload_n 0, 1) := by decide +kernel
theorem dX8_sign_62 : decode cX8_sign 62 = .ok (.getfield 12, 3) := by decide +kernel
theorem dX8_sign_65 : decode cX8_sign 65 = .ok (.dup, 1) := by decide +kernel
theorem dX8_sign_66 : decode cX8_sign 66 = .ok (.getfield 94, 3) := by decide +kernel
theorem dX8_sign_69 : decode cX8_sign 69 = .ok (.iconst 1, 1) := by decide +kernel
theorem dX8_sign_70 : decode cX8_sign 70 = .ok (.iadd, 1) := by decide +kernel
theorem dX8_sign_71 : decode cX8_sign 71 = .ok (.putfield 94, 3) := by decide +kernel
theorem dX8_sign_74 : decode cX8_sign 74 = .ok (.aload_n 0, 1) := by decide +kernel
theorem dX8_sign_75 : decode cX8_sign 75 = .ok (.iload_n 2, 1) := by decide +kernel
theorem dX8_sign_76 : decode cX8_sign 76 = .ok (.invokevirtual 91, 3) := by decide +kernel
theorem dX8_sign_79 : decode cX8_sign 79 = .ok (.ireturn, 1) := by decide +kernel
set_option maxRecDepth 20000 in
theorem ggX8_person_X8_areBits : GoodIn wsX8_person wsX8_areBits := goodIn_r _ [5] (by decide +kernel) (by decide +kernel)
set_option maxRecDepth 20000 in
theorem gX8_person_X8_areBits : GoodIn wsX8_person (va_wsS RX8 100 yX8_areBits wsX8_areBits) := goodIn_app (goodIn_of _ (by decide +kernel)) ggX8_person_X8_areBits
set_option maxRecDepth 20000 in
theorem ggX8_person_X8_refuse : GoodIn wsX8_person wsX8_refuse := goodIn_r _ [9, 10, 21, 22, 23, 24, 25, 26, 27, 28, 29, 30, 31, 32, 33] (by decide +kernel) (by decide +kernel)
set_option maxRecDepth 20000 in
theorem gX8_person_X8_refuse : GoodIn wsX8_person (wsV RX8 87 RX8 yX8_refuse wsX8_refuse) := goodIn_app (goodIn_of _ (by decide +kernel)) ggX8_person_X8_refuse
set_option maxRecDepth 20000 in
theorem ggX8_person_X7_setSkills : GoodIn wsX8_person wsX7_setSkills := goodIn_r _ [15, 16, 34, 35, 36, 37, 38, 39, 40, 41, 42] (by decide +kernel) (by decide +kernel)
set_option maxRecDepth 20000 in
theorem gX8_person_X7_setSkills : GoodIn wsX8_person (wsV RX8 107 RX7 yX7_setSkills wsX7_setSkills) := goodIn_app (goodIn_of _ (by decide +kernel)) ggX8_person_X7_setSkills
set_option maxRecDepth 20000 in
theorem ggX8_person_X8_accept : GoodIn wsX8_person wsX8_accept := goodIn_r _ [20, 10, 21, 22, 23, 24, 25, 26, 27, 28, 29, 30, 31, 32, 33] (by decide +kernel) (by decide +kernel)
set_option maxRecDepth 20000 in
theorem gX8_person_X8_accept : GoodIn wsX8_person (wsV RX8 91 RX8 yX8_accept wsX8_accept) := goodIn_app (goodIn_of _ (by decide +kernel)) ggX8_person_X8_accept
theorem dX8_person_0 : decode cX8_person 0 = .ok (.iload_n 1, 1) := by decide +kernel
theorem dX8_person_1 : decode cX8_person 1 = .ok (.invokestatic 100, 3) := by decide +kernel
theorem dX8_person_4 : decode cX8_person 4 = .ok (.ifCond .ne 9, 3) := by decide +kernel
theorem dX8_person_7 : decode cX8_person 7 = .ok (.aload_n 0, 1) := by decide +kernel
theorem dX8_person_8 : decode cX8_person 8 = .ok (.iconst 2, 1) := by decide +kernel
theorem dX8_person_9 : decode cX8_person 9 = .ok (.invokevirtual 87, 3) := by decide +kernel
theorem dX8_person_12 : decode cX8_person 12 = .ok (.ireturn, 1) := by decide +kernel
theorem dX8_person_13 : decode cX8_person 13 = .ok (.aload_n 0, 1) := by decide +kernel
theorem dX8_person_14 : decode cX8_person 14 = .ok (.getfield 12, 3) := by decide +kernel
theorem dX8_person_17 : decode cX8_person 17 = .ok (.getfield 104, 3) := by decide +kernel
theorem dX8_person_20 : decode cX8_person 20 = .ok (.istore_n 2, 1) := by decide +kernel
theorem dX8_person_21 : decode cX8_person 21 = .ok (.iload_n 2, 1) := by decide +kernel
theorem dX8_person_22 : decode cX8_person 22 = .ok (.iconst 4, 1) := by decide +kernel
theorem dX8_person_23 : decode cX8_person 23 = .ok (.if_icmp .lt 9, 3) := by decide +kernel
theorem dX8_person_26 : decode cX8_person 26 = .ok (.aload_n 0, 1) := by decide +kernel
theorem dX8_person_27 : decode cX8_person 27 = .ok (.iconst 3, 1) := by decide +kernel
theorem dX8_person_28 : decode cX8_person 28 = .ok (.invokevirtual 87, 3) := by decide +kernel
theorem dX8_person_31 : decode cX8_person 31 = .ok (.ireturn, 1) := by decide +kernel
theorem dX8_person_32 : decode cX8_person 32 = .ok (.aload_n 0, 1) := by decide +kernel
theorem dX8_person_33 : decode cX8_person 33 = .ok (.getfield 12, 3) := by decide +kernel
theorem dX8_person_36 : decode cX8_person 36 = .ok (.iload_n 2, 1) := by decide +kernel
theorem dX8_person_37 : decode cX8_person 37 = .ok (.iload_n 1, 1) := by decide +kernel
theorem dX8_person_38 : decode cX8_person 38 = .ok (.invokevirtual 107, 3) := by decide +kernel
theorem dX8_person_41 : decode cX8_person 41 = .ok (.aload_n 0, 1) := by decide +kernel
theorem dX8_person_42 : decode cX8_person 42 = .ok (.getfield 12, 3) := by decide +kernel
theorem dX8_person_45 : decode cX8_person 45 = .ok (.dup, 1) := by decide +kernel
theorem dX8_person_46 : decode cX8_person 46 = .ok (.getfield 104, 3) := by decide +kernel
theorem dX8_person_49 : decode cX8_person 49 = .ok (.iconst 1, 1) := by decide +kernel
theorem dX8_person_50 : decode cX8_person 50 = .ok (.iadd, 1) := by decide +kernel
theorem dX8_person_51 : decode cX8_person 51 = .ok (.putfield 104, 3) := by decide +kernel
theorem dX8_person_54 : decode cX8_person 54 = .ok (.aload_n 0, 1) := by decide +kernel
theorem dX8_person_55 : decode cX8_person 55 = .ok (.iload_n 2, 1) := by decide +kernel
theorem dX8_person_56 : decode cX8_person 56 = .ok (.invokevirtual 91, 3) := by decide +kernel
theorem dX8_person_59 : decode cX8_person 59 = .ok (.ireturn, 1) := by decide +kernel
set_option maxRecDepth 20000 in
theorem ggX8_goal_X8_areBits : GoodIn wsX8_goal wsX8_areBits := goodIn_r _ [6] (by decide +kernel) (by decide +kernel)
set_option maxRecDepth 20000 in
theorem gX8_goal_X8_areBits : GoodIn wsX8_goal (va_wsS RX8 100 yX8_areBits wsX8_areBits) := goodIn_app (goodIn_of _ (by decide +kernel)) ggX8_goal_X8_areBits
theorem dX8_goal_0 : decode cX8_goal 0 = .ok (.iload_n 1, 1) := by decide +kernel
theorem dX8_goal_1 : decode cX8_goal 1 = .ok (.invokestatic 100, 3) := by decide +kernel
theorem dX8_goal_4 : decode cX8_goal 4 = .ok (.ifCond .ne 10, 3) := by decide +kernel
theorem dX8_goal_7 : decode cX8_goal 7 = .ok (.aload_n 0, 1) := by decide +kernel
theorem dX8_goal_8 : decode cX8_goal 8 = .ok (.iconst 2, 1) := by decide +kernel
theorem dX8_goal_9 : decode cX8_goal 9 = .ok (.putfield 80, 3) := by decide +kernel
theorem dX8_goal_12 : decode cX8_goal 12 = .ok (.iconst 0, 1) := by decide +kernel
theorem dX8_goal_13 : decode cX8_goal 13 = .ok (.ireturn, 1) := by decide +kernel
theorem dX8_goal_14 : decode cX8_goal 14 = .ok (.aload_n 0, 1) := by decide +kernel
theorem dX8_goal_15 : decode cX8_goal 15 = .ok (.getfield 12, 3) := by decide +kernel
theorem dX8_goal_18 : decode cX8_goal 18 = .ok (.iload_n 1, 1) := by decide +kernel
theorem dX8_goal_19 : decode cX8_goal 19 = .ok (.putfield 111, 3) := by decide +kernel
theorem dX8_goal_22 : decode cX8_goal 22 = .ok (.aload_n 0, 1) := by decide +kernel
theorem dX8_goal_23 : decode cX8_goal 23 = .ok (.iconst 0, 1) := by decide +kernel
theorem dX8_goal_24 : decode cX8_goal 24 = .ok (.putfield 80, 3) := by decide +kernel
theorem dX8_goal_27 : decode cX8_goal 27 = .ok (.iconst 1, 1) := by decide +kernel
theorem dX8_goal_28 : decode cX8_goal 28 = .ok (.ireturn, 1) := by decide +kernel
set_option maxRecDepth 20000 in
theorem ggX8_feed_X4_hasRoomFor : GoodIn wsX8_feed wsX4_hasRoomFor := goodIn_r _ [6, 7, 26, 27, 28, 29, 30, 31, 32, 33, 34, 35, 36, 37, 38, 39] (by decide +kernel) (by decide +kernel)
set_option maxRecDepth 20000 in
theorem gX8_feed_X4_hasRoomFor : GoodIn wsX8_feed (wsV RX8 114 RX4 yX4_hasRoomFor wsX4_hasRoomFor) := goodIn_app (goodIn_of _ (by decide +kernel)) ggX8_feed_X4_hasRoomFor
set_option maxRecDepth 20000 in
theorem ggX8_feed_X4_put : GoodIn wsX8_feed wsX4_put := goodIn_r _ [11, 7, 12, 26, 27, 28, 29, 30, 31, 32, 33, 34, 35, 36, 37, 38, 39] (by decide +kernel) (by decide +kernel)
set_option maxRecDepth 20000 in
theorem gX8_feed_X4_put : GoodIn wsX8_feed (wsV RX8 117 RX4 yX4_put wsX4_put) := goodIn_app (goodIn_of _ (by decide +kernel)) ggX8_feed_X4_put
theorem dX8_feed_0 : decode cX8_feed 0 = .ok (.aload_n 0, 1) := by decide +kernel
theorem dX8_feed_1 : decode cX8_feed 1 = .ok (.getfield 19, 3) := by decide +kernel
theorem dX8_feed_4 : decode cX8_feed 4 = .ok (.bipush 20, 2) := by decide +kernel
theorem dX8_feed_6 : decode cX8_feed 6 = .ok (.invokevirtual 114, 3) := by decide +kernel
theorem dX8_feed_9 : decode cX8_feed 9 = .ok (.ifCond .ne 5, 3) := by decide +kernel
theorem dX8_feed_12 : decode cX8_feed 12 = .ok (.iconst (-1), 1) := by decide +kernel
theorem dX8_feed_13 : decode cX8_feed 13 = .ok (.ireturn, 1) := by decide +kernel
theorem dX8_feed_14 : decode cX8_feed 14 = .ok (.aload_n 0, 1) := by decide +kernel
theorem dX8_feed_15 : decode cX8_feed 15 = .ok (.getfield 19, 3) := by decide +kernel
theorem dX8_feed_18 : decode cX8_feed 18 = .ok (.iload_n 1, 1) := by decide +kernel
theorem dX8_feed_19 : decode cX8_feed 19 = .ok (.invokevirtual 117, 3) := by decide +kernel
theorem dX8_feed_22 : decode cX8_feed 22 = .ok (.aload_n 0, 1) := by decide +kernel
theorem dX8_feed_23 : decode cX8_feed 23 = .ok (.getfield 19, 3) := by decide +kernel
theorem dX8_feed_26 : decode cX8_feed 26 = .ok (.iload_n 2, 1) := by decide +kernel
theorem dX8_feed_27 : decode cX8_feed 27 = .ok (.invokevirtual 117, 3) := by decide +kernel
theorem dX8_feed_30 : decode cX8_feed 30 = .ok (.aload_n 0, 1) := by decide +kernel
theorem dX8_feed_31 : decode cX8_feed 31 = .ok (.getfield 19, 3) := by decide +kernel
theorem dX8_feed_34 : decode cX8_feed 34 = .ok (.iload_n 3, 1) := by decide +kernel
theorem dX8_feed_35 : decode cX8_feed 35 = .ok (.invokevirtual 117, 3) := by decide +kernel
theorem dX8_feed_38 : decode cX8_feed 38 = .ok (.aload_n 0, 1) := by decide +kernel
theorem dX8_feed_39 : decode cX8_feed 39 = .ok (.getfield 19, 3) := by decide +kernel
theorem dX8_feed_42 : decode cX8_feed 42 = .ok (.iload 4, 2) := by decide +kernel
theorem dX8_feed_44 : decode cX8_feed 44 = .ok (.invokevirtual 117, 3) := by decide +kernel
theorem dX8_feed_47 : decode cX8_feed 47 = .ok (.aload_n 0, 1) := by decide +kernel
theorem dX8_feed_48 : decode cX8_feed 48 = .ok (.getfield 19, 3) := by decide +kernel
theorem dX8_feed_51 : decode cX8_feed 51 = .ok (.iload 5, 2) := by decide +kernel
theorem dX8_feed_53 : decode cX8_feed 53 = .ok (.invokevirtual 117, 3) := by decide +kernel
theorem dX8_feed_56 : decode cX8_feed 56 = .ok (.aload_n 0, 1) := by decide +kernel
theorem dX8_feed_57 : decode cX8_feed 57 = .ok (.getfield 19, 3) := by decide +kernel
theorem dX8_feed_60 : decode cX8_feed 60 = .ok (.getfield 121, 3) := by decide +kernel
theorem dX8_feed_63 : decode cX8_feed 63 = .ok (.ireturn, 1) := by decide +kernel
set_option maxRecDepth 20000 in
theorem ggX8_book_X8_refuse : GoodIn wsX8_book wsX8_refuse := goodIn_r _ [7, 8, 155, 156, 157, 158, 159, 160, 161, 162, 163, 164, 165, 166, 167] (by decide +kernel) (by decide +kernel)
set_option maxRecDepth 20000 in
theorem gX8_book_X8_refuse : GoodIn wsX8_book (wsV RX8 87 RX8 yX8_refuse wsX8_refuse) := goodIn_app (goodIn_of _ (by decide +kernel)) ggX8_book_X8_refuse
set_option maxRecDepth 20000 in
theorem ggX8_book_X4_readText : GoodIn wsX8_book wsX4_readText := goodIn_r _ [13, 14, 15, 16, 17, 18, 19, 20, 21, 22, 12, 23, 24, 25, 26, 27, 28, 29, 30, 31, 32, 33, 34, 35, 36, 37, 38, 39, 40, 41, 42, 43, 44, 45, 46, 47, 48, 49, 50, 51, 52, 53, 54, 55, 56, 57, 58, 59, 60, 61, 62, 63, 64, 65, 66, 67, 68, 69, 70, 71, 72, 73, 74, 75, 76, 77, 78, 79, 80, 81, 82, 83, 84, 85, 86, 87, 88, 89, 90, 91, 92, 93, 94, 95, 96, 97, 98, 99, 100, 101, 102, 103, 104, 105, 106, 107, 108, 109, 110, 111, 112, 113, 114, 115, 116, 117, 118, 119, 120, 121, 122, 123, 124, 125, 126, 127, 128, 129, 130, 131, 132, 133, 134, 135, 136, 137, 138, 139, 140, 141, 142, 143, 144, 145, 146, 147, 148, 149, 150, 168, 169, 170, 171, 172, 173, 174, 175, 176, 177, 178, 179, 180, 181, 182, 183, 184, 185, 186, 187, 188, 189, 190] (by decide +kernel) (by decide +kernel)
set_option maxRecDepth 20000 in
theorem gX8_book_X4_readText : GoodIn wsX8_book (wsV RX8 124 RX4 yX4_readText wsX4_readText) := goodIn_app (goodIn_of _ (by decide +kernel)) ggX8_book_X4_readText
set_option maxRecDepth 20000 in
theorem ggX8_book_X8_accept : GoodIn wsX8_book wsX8_accept := goodIn_r _ [154, 8, 155, 156, 157, 158, 159, 160, 161, 162, 163, 164, 165, 166, 167] (by decide +kernel) (by decide +kernel)
set_option maxRecDepth 20000 in
theorem gX8_book_X8_accept : GoodIn wsX8_book (wsV RX8 91 RX8 yX8_accept wsX8_accept) := goodIn_app (goodIn_of _ (by decide +kernel)) ggX8_book_X8_accept
theorem dX8_book_0 : decode cX8_book 0 = .ok (.iload_n 1, 1) := by decide +kernel
theorem dX8_book_1 : decode cX8_book 1 = .ok (.ifCond .lt 14, 3) := by decide +kernel
theorem dX8_book_4 : decode cX8_book 4 = .ok (.iload_n 1, 1) := by decide +kernel
theorem dX8_book_5 : decode cX8_book 5 = .ok (.aload_n 0, 1) := by decide +kernel
theorem dX8_book_6 : decode cX8_book 6 = .ok (.getfield 19, 3) := by decide +kernel
theorem dX8_book_9 : decode cX8_book 9 = .ok (.getfield 121, 3) := by decide +kernel
theorem dX8_book_12 : decode cX8_book 12 = .ok (.if_icmp .le 9, 3) := by decide +kernel
theorem dX8_book_15 : decode cX8_book 15 = .ok (.aload_n 0, 1) := by decide +kernel
theorem dX8_book_16 : decode cX8_book 16 = .ok (.iconst 2, 1) := by decide +kernel
theorem dX8_book_17 : decode cX8_book 17 = .ok (.invokevirtual 87, 3) := by decide +kernel
theorem dX8_book_20 : decode cX8_book 20 = .ok (.ireturn, 1) := by decide +kernel
theorem dX8_book_21 : decode cX8_book 21 = .ok (.aload_n 0, 1) := by decide +kernel
theorem dX8_book_22 : decode cX8_book 22 = .ok (.getfield 19, 3) := by decide +kernel
theorem dX8_book_25 : decode cX8_book 25 = .ok (.aload_n 0, 1) := by decide +kernel
theorem dX8_book_26 : decode cX8_book 26 = .ok (.getfield 12, 3) := by decide +kernel
theorem dX8_book_29 : decode cX8_book 29 = .ok (.iload_n 1, 1) := by decide +kernel
theorem dX8_book_30 : decode cX8_book 30 = .ok (.invokevirtual 124, 3) := by decide +kernel
theorem dX8_book_33 : decode cX8_book 33 = .ok (.istore_n 2, 1) := by decide +kernel
theorem dX8_book_34 : decode cX8_book 34 = .ok (.aload_n 0, 1) := by decide +kernel
theorem dX8_book_35 : decode cX8_book 35 = .ok (.getfield 19, 3) := by decide +kernel
theorem dX8_book_38 : decode cX8_book 38 = .ok (.iconst 0, 1) := by decide +kernel
theorem dX8_book_39 : decode cX8_book 39 = .ok (.putfield 121, 3) := by decide +kernel
theorem dX8_book_42 : decode cX8_book 42 = .ok (.iload_n 2, 1) := by decide +kernel
theorem dX8_book_43 : decode cX8_book 43 = .ok (.ifCond .ne 9, 3) := by decide +kernel
theorem dX8_book_46 : decode cX8_book 46 = .ok (.aload_n 0, 1) := by decide +kernel
theorem dX8_book_47 : decode cX8_book 47 = .ok (.iconst 4, 1) := by decide +kernel
theorem dX8_book_48 : decode cX8_book 48 = .ok (.invokevirtual 87, 3) := by decide +kernel
theorem dX8_book_51 : decode cX8_book 51 = .ok (.ireturn, 1) := by decide +kernel
theorem dX8_book_52 : decode cX8_book 52 = .ok (.aload_n 0, 1) := by decide +kernel
theorem dX8_book_53 : decode cX8_book 53 = .ok (.getfield 12, 3) := by decide +kernel
theorem dX8_book_56 : decode cX8_book 56 = .ok (.getfield 128, 3) := by decide +kernel
theorem dX8_book_59 : decode cX8_book 59 = .ok (.iconst 4, 1) := by decide +kernel
theorem dX8_book_60 : decode cX8_book 60 = .ok (.if_icmp .lt 9, 3) := by decide +kernel
theorem dX8_book_63 : decode cX8_book 63 = .ok (.aload_n 0, 1) := by decide +kernel
theorem dX8_book_64 : decode cX8_book 64 = .ok (.iconst 3, 1) := by decide +kernel
theorem dX8_book_65 : decode cX8_book 65 = .ok (.invokevirtual 87, 3) := by decide +kernel
theorem dX8_book_68 : decode cX8_book 68 = .ok (.ireturn, 1) := by decide +kernel
theorem dX8_book_69 : decode cX8_book 69 = .ok (.aload_n 0, 1) := by decide +kernel
theorem dX8_book_70 : decode cX8_book 70 = .ok (.getfield 12, 3) := by decide +kernel
theorem dX8_book_73 : decode cX8_book 73 = .ok (.dup, 1) := by decide +kernel
theorem dX8_book_74 : decode cX8_book 74 = .ok (.getfield 128, 3) := by decide +kernel
theorem dX8_book_77 : decode cX8_book 77 = .ok (.iconst 1, 1) := by decide +kernel
theorem dX8_book_78 : decode cX8_book 78 = .ok (.iadd, 1) := by decide +kernel
theorem dX8_book_79 : decode cX8_book 79 = .ok (.putfield 128, 3) := by decide +kernel
theorem dX8_book_82 : decode cX8_book 82 = .ok (.aload_n 0, 1) := by decide +kernel
theorem dX8_book_83 : decode cX8_book 83 = .ok (.aload_n 0, 1) := by decide +kernel
theorem dX8_book_84 : decode cX8_book 84 = .ok (.getfield 12, 3) := by decide +kernel
theorem dX8_book_87 : decode cX8_book 87 = .ok (.getfield 128, 3) := by decide +kernel
theorem dX8_book_90 : decode cX8_book 90 = .ok (.iconst 1, 1) := by decide +kernel
theorem dX8_book_91 : decode cX8_book 91 = .ok (.isub, 1) := by decide +kernel
theorem dX8_book_92 : decode cX8_book 92 = .ok (.invokevirtual 91, 3) := by decide +kernel
theorem dX8_book_95 : decode cX8_book 95 = .ok (.ireturn, 1) := by decide +kernel
theorem dX8_fault_0 : decode cX8_fault 0 = .ok (.aload_n 0, 1) := by decide +kernel
theorem dX8_fault_1 : decode cX8_fault 1 = .ok (.getfield 19, 3) := by decide +kernel
theorem dX8_fault_4 : decode cX8_fault 4 = .ok (.getfield 131, 3) := by decide +kernel
theorem dX8_fault_7 : decode cX8_fault 7 = .ok (.ireturn, 1) := by decide +kernel
theorem dX8_where_0 : decode cX8_where 0 = .ok (.aload_n 0, 1) := by decide +kernel
theorem dX8_where_1 : decode cX8_where 1 = .ok (.getfield 80, 3) := by decide +kernel
theorem dX8_where_4 : decode cX8_where 4 = .ok (.iconst 4, 1) := by decide +kernel
theorem dX8_where_5 : decode cX8_where 5 = .ok (.if_icmp .ne 13, 3) := by decide +kernel
theorem dX8_where_8 : decode cX8_where 8 = .ok (.aload_n 0, 1) := by decide +kernel
theorem dX8_where_9 : decode cX8_where 9 = .ok (.getfield 19, 3) := by decide +kernel
theorem dX8_where_12 : decode cX8_where 12 = .ok (.getfield 134, 3) := by decide +kernel
theorem dX8_where_15 : decode cX8_where 15 = .ok (.goto 4, 3) := by decide +kernel
theorem dX8_where_18 : decode cX8_where 18 = .ok (.iconst (-1), 1) := by decide +kernel
theorem dX8_where_19 : decode cX8_where 19 = .ok (.ireturn, 1) := by decide +kernel
set_option maxRecDepth 20000 in
theorem ggX8_steps_X7_hasBook : GoodIn wsX8_steps wsX7_hasBook := goodIn_r _ [6, 7, 26, 27, 28, 29, 30, 31, 32, 33, 34] (by decide +kernel) (by decide +kernel)
set_option maxRecDepth 20000 in
theorem gX8_steps_X7_hasBook : GoodIn wsX8_steps (wsV RX8 137 RX7 yX7_hasBook wsX7_hasBook) := goodIn_app (goodIn_of _ (by decide +kernel)) ggX8_steps_X7_hasBook
set_option maxRecDepth 20000 in
theorem ggX8_steps_X7_sizeOf : GoodIn wsX8_steps wsX7_sizeOf := goodIn_r _ [11, 12, 26, 27, 28, 29, 30, 31, 32, 33, 34] (by decide +kernel) (by decide +kernel)
set_option maxRecDepth 20000 in
theorem gX8_steps_X7_sizeOf : GoodIn wsX8_steps (wsV RX8 140 RX7 yX7_sizeOf wsX7_sizeOf) := goodIn_app (goodIn_of _ (by decide +kernel)) ggX8_steps_X7_sizeOf
theorem dX8_steps_0 : decode cX8_steps 0 = .ok (.aload_n 0, 1) := by decide +kernel
theorem dX8_steps_1 : decode cX8_steps 1 = .ok (.getfield 12, 3) := by decide +kernel
theorem dX8_steps_4 : decode cX8_steps 4 = .ok (.iload_n 1, 1) := by decide +kernel
theorem dX8_steps_5 : decode cX8_steps 5 = .ok (.invokevirtual 137, 3) := by decide +kernel
theorem dX8_steps_8 : decode cX8_steps 8 = .ok (.ifCond .eq 14, 3) := by decide +kernel
theorem dX8_steps_11 : decode cX8_steps 11 = .ok (.aload_n 0, 1) := by decide +kernel
theorem dX8_steps_12 : decode cX8_steps 12 = .ok (.getfield 12, 3) := by decide +kernel
theorem dX8_steps_15 : decode cX8_steps 15 = .ok (.iload_n 1, 1) := by decide +kernel
theorem dX8_steps_16 : decode cX8_steps 16 = .ok (.invokevirtual 140, 3) := by decide +kernel
theorem dX8_steps_19 : decode cX8_steps 19 = .ok (.goto 4, 3) := by decide +kernel
theorem dX8_steps_22 : decode cX8_steps 22 = .ok (.iconst (-1), 1) := by decide +kernel
theorem dX8_steps_23 : decode cX8_steps 23 = .ok (.ireturn, 1) := by decide +kernel
set_option maxRecDepth 20000 in
theorem ggX8_hasStep_X7_hasBook : GoodIn wsX8_hasStep wsX7_hasBook := goodIn_r _ [6, 7, 26, 27, 28, 29, 30, 31, 32, 33, 34] (by decide +kernel) (by decide +kernel)
set_option maxRecDepth 20000 in
theorem gX8_hasStep_X7_hasBook : GoodIn wsX8_hasStep (wsV RX8 137 RX7 yX7_hasBook wsX7_hasBook) := goodIn_app (goodIn_of _ (by decide +kernel)) ggX8_hasStep_X7_hasBook
set_option maxRecDepth 20000 in
theorem ggX8_hasStep_X7_sizeOf : GoodIn wsX8_hasStep wsX7_sizeOf := goodIn_r _ [11, 12, 26, 27, 28, 29, 30, 31, 32, 33, 34] (by decide +kernel) (by decide +kernel)
set_option maxRecDepth 20000 in
theorem gX8_hasStep_X7_sizeOf : GoodIn wsX8_hasStep (wsV RX8 140 RX7 yX7_sizeOf wsX7_sizeOf) := goodIn_app (goodIn_of _ (by decide +kernel)) ggX8_hasStep_X7_sizeOf
theorem dX8_hasStep_0 : decode cX8_hasStep 0 = .ok (.aload_n 0, 1) := by decide +kernel
theorem dX8_hasStep_1 : decode cX8_hasStep 1 = .ok (.getfield 12, 3) := by decide +kernel
theorem dX8_hasStep_4 : decode cX8_hasStep 4 = .ok (.iload_n 1, 1) := by decide +kernel
theorem dX8_hasStep_5 : decode cX8_hasStep 5 = .ok (.invokevirtual 137, 3) := by decide +kernel
theorem dX8_hasStep_8 : decode cX8_hasStep 8 = .ok (.ifCond .eq 23, 3) := by decide +kernel
theorem dX8_hasStep_11 : decode cX8_hasStep 11 = .ok (.iload_n 2, 1) := by decide +kernel
theorem dX8_hasStep_12 : decode cX8_hasStep 12 = .ok (.ifCond .lt 19, 3) := by decide +kernel
theorem dX8_hasStep_15 : decode cX8_hasStep 15 = .ok (.iload_n 2, 1) := by decide +kernel
theorem dX8_hasStep_16 : decode cX8_hasStep 16 = .ok (.aload_n 0, 1) := by decide +kernel
theorem dX8_hasStep_17 : decode cX8_hasStep 17 = .ok (.getfield 12, 3) := by decide +kernel
theorem dX8_hasStep_20 : decode cX8_hasStep 20 = .ok (.iload_n 1, 1) := by decide +kernel
theorem dX8_hasStep_21 : decode cX8_hasStep 21 = .ok (.invokevirtual 140, 3) := by decide +kernel
theorem dX8_hasStep_24 : decode cX8_hasStep 24 = .ok (.if_icmp .ge 7, 3) := by decide +kernel
theorem dX8_hasStep_27 : decode cX8_hasStep 27 = .ok (.iconst 1, 1) := by decide +kernel
theorem dX8_hasStep_28 : decode cX8_hasStep 28 = .ok (.goto 4, 3) := by decide +kernel
theorem dX8_hasStep_31 : decode cX8_hasStep 31 = .ok (.iconst 0, 1) := by decide +kernel
theorem dX8_hasStep_32 : decode cX8_hasStep 32 = .ok (.ireturn, 1) := by decide +kernel
set_option maxRecDepth 20000 in
theorem ggX8_step_X8_hasStep : GoodIn wsX8_step wsX8_hasStep := goodIn_r _ [6, 1, 7, 8, 9, 10, 11, 12, 13, 14, 15, 16, 17, 23, 24, 25, 26, 27, 28, 29, 30, 31, 32, 33, 34, 35, 36, 37, 38, 39, 40, 41, 42, 43, 44] (by decide +kernel) (by decide +kernel)
set_option maxRecDepth 20000 in
theorem gX8_step_X8_hasStep : GoodIn wsX8_step (wsV RX8 143 RX8 yX8_hasStep wsX8_hasStep) := goodIn_app (goodIn_of _ (by decide +kernel)) ggX8_step_X8_hasStep
set_option maxRecDepth 20000 in
theorem ggX8_step_X7_cell : GoodIn wsX8_step wsX7_cell := goodIn_r _ [21, 22, 36, 37, 38, 39, 40, 41, 42, 43, 44] (by decide +kernel) (by decide +kernel)
set_option maxRecDepth 20000 in
theorem gX8_step_X7_cell : GoodIn wsX8_step (wsV RX8 147 RX7 yX7_cell wsX7_cell) := goodIn_app (goodIn_of _ (by decide +kernel)) ggX8_step_X7_cell
theorem dX8_step_0 : decode cX8_step 0 = .ok (.aload_n 0, 1) := by decide +kernel
theorem dX8_step_1 : decode cX8_step 1 = .ok (.iload_n 1, 1) := by decide +kernel
theorem dX8_step_2 : decode cX8_step 2 = .ok (.iload_n 2, 1) := by decide +kernel
theorem dX8_step_3 : decode cX8_step 3 = .ok (.invokevirtual 143, 3) := by decide +kernel
theorem dX8_step_6 : decode cX8_step 6 = .ok (.ifCond .eq 25, 3) := by decide +kernel
theorem dX8_step_9 : decode cX8_step 9 = .ok (.iload_n 3, 1) := by decide +kernel
theorem dX8_step_10 : decode cX8_step 10 = .ok (.ifCond .lt 21, 3) := by decide +kernel
theorem dX8_step_13 : decode cX8_step 13 = .ok (.iload_n 3, 1) := by decide +kernel
theorem dX8_step_14 : decode cX8_step 14 = .ok (.iconst 5, 1) := by decide +kernel
theorem dX8_step_15 : decode cX8_step 15 = .ok (.if_icmp .ge 16, 3) := by decide +kernel
theorem dX8_step_18 : decode cX8_step 18 = .ok (.aload_n 0, 1) := by decide +kernel
theorem dX8_step_19 : decode cX8_step 19 = .ok (.getfield 12, 3) := by decide +kernel
theorem dX8_step_22 : decode cX8_step 22 = .ok (.iload_n 1, 1) := by decide +kernel
theorem dX8_step_23 : decode cX8_step 23 = .ok (.iload_n 2, 1) := by decide +kernel
theorem dX8_step_24 : decode cX8_step 24 = .ok (.iload_n 3, 1) := by decide +kernel
theorem dX8_step_25 : decode cX8_step 25 = .ok (.invokevirtual 147, 3) := by decide +kernel
theorem dX8_step_28 : decode cX8_step 28 = .ok (.goto 4, 3) := by decide +kernel
theorem dX8_step_31 : decode cX8_step 31 = .ok (.iconst (-1), 1) := by decide +kernel
theorem dX8_step_32 : decode cX8_step 32 = .ok (.ireturn, 1) := by decide +kernel
set_option maxRecDepth 20000 in
theorem ggX8_play_X7_hasBook : GoodIn wsX8_play wsX7_hasBook := goodIn_r _ [8, 9, 131, 132, 133, 134, 135, 136, 137, 138, 139] (by decide +kernel) (by decide +kernel)
set_option maxRecDepth 20000 in
theorem gX8_play_X7_hasBook : GoodIn wsX8_play (wsV RX8 137 RX7 yX7_hasBook wsX7_hasBook) := goodIn_app (goodIn_of _ (by decide +kernel)) ggX8_play_X7_hasBook
set_option maxRecDepth 20000 in
theorem ggX8_play_X8_refuse : GoodIn wsX8_play wsX8_refuse := goodIn_r _ [14, 15, 106, 107, 108, 109, 110, 111, 112, 113, 114, 115, 116, 117, 118] (by decide +kernel) (by decide +kernel)
set_option maxRecDepth 20000 in
theorem gX8_play_X8_refuse : GoodIn wsX8_play (wsV RX8 87 RX8 yX8_refuse wsX8_refuse) := goodIn_app (goodIn_of _ (by decide +kernel)) ggX8_play_X8_refuse
set_option maxRecDepth 20000 in
theorem ggX8_play_X8_areBits : GoodIn wsX8_play wsX8_areBits := goodIn_r _ [18] (by decide +kernel) (by decide +kernel)
set_option maxRecDepth 20000 in
theorem gX8_play_X8_areBits : GoodIn wsX8_play (va_wsS RX8 100 yX8_areBits wsX8_areBits) := goodIn_app (goodIn_of _ (by decide +kernel)) ggX8_play_X8_areBits
set_option maxRecDepth 20000 in
theorem ggX8_play_X6_start : GoodIn wsX8_play wsX6_start := goodIn_r _ [23, 24, 25, 26, 27, 28, 29, 30, 31, 32, 33, 34, 35, 36, 37, 38, 39, 40, 41, 7, 42, 43, 119, 120, 121, 122, 123, 124, 125, 126, 127, 128, 129, 130, 131, 132, 133, 134, 135, 136, 137, 138, 139] (by decide +kernel) (by decide +kernel)
set_option maxRecDepth 20000 in
theorem gX8_play_X6_start : GoodIn wsX8_play (wsV RX8 151 RX6 yX6_start wsX6_start) := goodIn_app (goodIn_of _ (by decide +kernel)) ggX8_play_X6_start
set_option maxRecDepth 20000 in
theorem ggX8_play_X3_rest : GoodIn wsX8_play wsX3_rest := goodIn_r _ [48, 49, 50, 51, 37, 52, 140] (by decide +kernel) (by decide +kernel)
set_option maxRecDepth 20000 in
theorem gX8_play_X3_rest : GoodIn wsX8_play (wsV RX8 155 RX3 yX3_rest wsX3_rest) := goodIn_app (goodIn_of _ (by decide +kernel)) ggX8_play_X3_rest
set_option maxRecDepth 20000 in
theorem ggX8_play_X6_goOn : GoodIn wsX8_play wsX6_goOn := goodIn_r _ [56, 34, 31, 30, 25, 29, 57, 58, 59, 22, 60, 26, 27, 61, 62, 63, 7, 64, 65, 66, 67, 68, 69, 70, 71, 72, 73, 74, 33, 75, 24, 76, 77, 78, 79, 80, 81, 82, 83, 84, 85, 86, 87, 88, 89, 28, 32, 90, 91, 92, 47, 93, 49, 94, 95, 96, 97, 98, 99, 100, 101, 119, 120, 121, 122, 123, 124, 125, 126, 127, 128, 129, 130, 131, 132, 133, 134, 135, 136, 137, 138, 139, 140] (by decide +kernel) (by decide +kernel)
set_option maxRecDepth 20000 in
theorem gX8_play_X6_goOn : GoodIn wsX8_play (wsV RX8 158 RX6 yX6_goOn wsX6_goOn) := goodIn_app (goodIn_of _ (by decide +kernel)) ggX8_play_X6_goOn
set_option maxRecDepth 20000 in
theorem ggX8_play_X8_accept : GoodIn wsX8_play wsX8_accept := goodIn_r _ [105, 15, 106, 107, 108, 109, 110, 111, 112, 113, 114, 115, 116, 117, 118] (by decide +kernel) (by decide +kernel)
set_option maxRecDepth 20000 in
theorem gX8_play_X8_accept : GoodIn wsX8_play (wsV RX8 91 RX8 yX8_accept wsX8_accept) := goodIn_app (goodIn_of _ (by decide +kernel)) ggX8_play_X8_accept
theorem dX8_play_0 : decode cX8_play 0 = .ok (.aload_n 0, 1) := by decide +kernel
theorem dX8_play_1 : decode cX8_play 1 = .ok (.getfield 12, 3) := by decide +kernel
theorem dX8_play_4 : decode cX8_play 4 = .ok (.iload_n 1, 1) := by decide +kernel
theorem dX8_play_5 : decode cX8_play 5 = .ok (.invokevirtual 137, 3) := by decide +kernel
theorem dX8_play_8 : decode cX8_play 8 = .ok (.ifCond .ne 9, 3) := by decide +kernel
theorem dX8_play_11 : decode cX8_play 11 = .ok (.aload_n 0, 1) := by decide +kernel
theorem dX8_play_12 : decode cX8_play 12 = .ok (.iconst 1, 1) := by decide +kernel
theorem dX8_play_13 : decode cX8_play 13 = .ok (.invokevirtual 87, 3) := by decide +kernel
theorem dX8_play_16 : decode cX8_play 16 = .ok (.ireturn, 1) := by decide +kernel
theorem dX8_play_17 : decode cX8_play 17 = .ok (.iload_n 2, 1) := by decide +kernel
theorem dX8_play_18 : decode cX8_play 18 = .ok (.invokestatic 100, 3) := by decide +kernel
theorem dX8_play_21 : decode cX8_play 21 = .ok (.ifCond .eq 18, 3) := by decide +kernel
theorem dX8_play_24 : decode cX8_play 24 = .ok (.iload_n 3, 1) := by decide +kernel
theorem dX8_play_25 : decode cX8_play 25 = .ok (.invokestatic 100, 3) := by decide +kernel
theorem dX8_play_28 : decode cX8_play 28 = .ok (.ifCond .eq 11, 3) := by decide +kernel
theorem dX8_play_31 : decode cX8_play 31 = .ok (.iload 4, 2) := by decide +kernel
theorem dX8_play_33 : decode cX8_play 33 = .ok (.invokestatic 100, 3) := by decide +kernel
theorem dX8_play_36 : decode cX8_play 36 = .ok (.ifCond .ne 9, 3) := by decide +kernel
theorem dX8_play_39 : decode cX8_play 39 = .ok (.aload_n 0, 1) := by decide +kernel
theorem dX8_play_40 : decode cX8_play 40 = .ok (.iconst 2, 1) := by decide +kernel
theorem dX8_play_41 : decode cX8_play 41 = .ok (.invokevirtual 87, 3) := by decide +kernel
theorem dX8_play_44 : decode cX8_play 44 = .ok (.ireturn, 1) := by decide +kernel
theorem dX8_play_45 : decode cX8_play 45 = .ok (.aload_n 0, 1) := by decide +kernel
theorem dX8_play_46 : decode cX8_play 46 = .ok (.getfield 35, 3) := by decide +kernel
theorem dX8_play_49 : decode cX8_play 49 = .ok (.aload_n 0, 1) := by decide +kernel
theorem dX8_play_50 : decode cX8_play 50 = .ok (.getfield 12, 3) := by decide +kernel
theorem dX8_play_53 : decode cX8_play 53 = .ok (.iload_n 1, 1) := by decide +kernel
theorem dX8_play_54 : decode cX8_play 54 = .ok (.iload_n 2, 1) := by decide +kernel
theorem dX8_play_55 : decode cX8_play 55 = .ok (.iload_n 3, 1) := by decide +kernel
theorem dX8_play_56 : decode cX8_play 56 = .ok (.iload 4, 2) := by decide +kernel
theorem dX8_play_58 : decode cX8_play 58 = .ok (.invokevirtual 151, 3) := by decide +kernel
theorem dX8_play_61 : decode cX8_play 61 = .ok (.aload_n 0, 1) := by decide +kernel
theorem dX8_play_62 : decode cX8_play 62 = .ok (.getfield 26, 3) := by decide +kernel
theorem dX8_play_65 : decode cX8_play 65 = .ok (.invokevirtual 155, 3) := by decide +kernel
theorem dX8_play_68 : decode cX8_play 68 = .ok (.aload_n 0, 1) := by decide +kernel
theorem dX8_play_69 : decode cX8_play 69 = .ok (.getfield 35, 3) := by decide +kernel
theorem dX8_play_72 : decode cX8_play 72 = .ok (.aload_n 0, 1) := by decide +kernel
theorem dX8_play_73 : decode cX8_play 73 = .ok (.getfield 12, 3) := by decide +kernel
theorem dX8_play_76 : decode cX8_play 76 = .ok (.aload_n 0, 1) := by decide +kernel
theorem dX8_play_77 : decode cX8_play 77 = .ok (.getfield 26, 3) := by decide +kernel
theorem dX8_play_80 : decode cX8_play 80 = .ok (.sipush 5240, 3) := by decide +kernel
theorem dX8_play_83 : decode cX8_play 83 = .ok (.invokevirtual 158, 3) := by decide +kernel
theorem dX8_play_86 : decode cX8_play 86 = .ok (.aload_n 0, 1) := by decide +kernel
theorem dX8_play_87 : decode cX8_play 87 = .ok (.aload_n 0, 1) := by decide +kernel
theorem dX8_play_88 : decode cX8_play 88 = .ok (.getfield 35, 3) := by decide +kernel
theorem dX8_play_91 : decode cX8_play 91 = .ok (.getfield 162, 3) := by decide +kernel
theorem dX8_play_94 : decode cX8_play 94 = .ok (.invokevirtual 91, 3) := by decide +kernel
theorem dX8_play_97 : decode cX8_play 97 = .ok (.ireturn, 1) := by decide +kernel
theorem dX8_nothingPlayed_0 : decode cX8_nothingPlayed 0 = .ok (.aload_n 0, 1) := by decide +kernel
theorem dX8_nothingPlayed_1 : decode cX8_nothingPlayed 1 = .ok (.getfield 35, 3) := by decide +kernel
theorem dX8_nothingPlayed_4 : decode cX8_nothingPlayed 4 = .ok (.getfield 162, 3) := by decide +kernel
theorem dX8_nothingPlayed_7 : decode cX8_nothingPlayed 7 = .ok (.iconst (-1), 1) := by decide +kernel
theorem dX8_nothingPlayed_8 : decode cX8_nothingPlayed 8 = .ok (.if_icmp .ne 7, 3) := by decide +kernel
theorem dX8_nothingPlayed_11 : decode cX8_nothingPlayed 11 = .ok (.iconst 1, 1) := by decide +kernel
theorem dX8_nothingPlayed_12 : decode cX8_nothingPlayed 12 = .ok (.goto 4, 3) := by decide +kernel
theorem dX8_nothingPlayed_15 : decode cX8_nothingPlayed 15 = .ok (.iconst 0, 1) := by decide +kernel
theorem dX8_nothingPlayed_16 : decode cX8_nothingPlayed 16 = .ok (.ireturn, 1) := by decide +kernel
set_option maxRecDepth 20000 in
theorem ggX8_played_X8_nothingPlayed : GoodIn wsX8_played wsX8_nothingPlayed := goodIn_r _ [6, 1, 25, 26, 27, 28, 29, 30, 31, 32, 33, 34, 35, 36, 37, 38, 39, 40, 41, 42, 43, 44, 45, 46, 47, 48, 49] (by decide +kernel) (by decide +kernel)
set_option maxRecDepth 20000 in
theorem gX8_played_X8_nothingPlayed : GoodIn wsX8_played (wsV RX8 165 RX8 yX8_nothingPlayed wsX8_nothingPlayed) := goodIn_app (goodIn_of _ (by decide +kernel)) ggX8_played_X8_nothingPlayed
set_option maxRecDepth 20000 in
theorem ggX8_played_X8_refuse : GoodIn wsX8_played wsX8_refuse := goodIn_r _ [10, 11, 25, 26, 27, 28, 29, 30, 31, 32, 33, 34, 35, 36, 37] (by decide +kernel) (by decide +kernel)
set_option maxRecDepth 20000 in
theorem gX8_played_X8_refuse : GoodIn wsX8_played (wsV RX8 87 RX8 yX8_refuse wsX8_refuse) := goodIn_app (goodIn_of _ (by decide +kernel)) ggX8_played_X8_refuse
set_option maxRecDepth 20000 in
theorem ggX8_played_X6_about : GoodIn wsX8_played wsX6_about := goodIn_r _ [16, 17, 18, 19, 20, 38, 39, 40, 41, 42, 43, 44, 45, 46, 47, 48, 49] (by decide +kernel) (by decide +kernel)
set_option maxRecDepth 20000 in
theorem gX8_played_X6_about : GoodIn wsX8_played (wsV RX8 169 RX6 yX6_about wsX6_about) := goodIn_app (goodIn_of _ (by decide +kernel)) ggX8_played_X6_about
set_option maxRecDepth 20000 in
theorem ggX8_played_X8_accept : GoodIn wsX8_played wsX8_accept := goodIn_r _ [24, 11, 25, 26, 27, 28, 29, 30, 31, 32, 33, 34, 35, 36, 37] (by decide +kernel) (by decide +kernel)
set_option maxRecDepth 20000 in
theorem gX8_played_X8_accept : GoodIn wsX8_played (wsV RX8 91 RX8 yX8_accept wsX8_accept) := goodIn_app (goodIn_of _ (by decide +kernel)) ggX8_played_X8_accept
theorem dX8_played_0 : decode cX8_played 0 = .ok (.aload_n 0, 1) := by decide +kernel
theorem dX8_played_1 : decode cX8_played 1 = .ok (.invokevirtual 165, 3) := by decide +kernel
theorem dX8_played_4 : decode cX8_played 4 = .ok (.ifCond .eq 9, 3) := by decide +kernel
theorem dX8_played_7 : decode cX8_played 7 = .ok (.aload_n 0, 1) := by decide +kernel
theorem dX8_played_8 : decode cX8_played 8 = .ok (.iconst 5, 1) := by decide +kernel
theorem dX8_played_9 : decode cX8_played 9 = .ok (.invokevirtual 87, 3) := by decide +kernel
theorem dX8_played_12 : decode cX8_played 12 = .ok (.ireturn, 1) := by decide +kernel
theorem dX8_played_13 : decode cX8_played 13 = .ok (.aload_n 0, 1) := by decide +kernel
theorem dX8_played_14 : decode cX8_played 14 = .ok (.aload_n 0, 1) := by decide +kernel
theorem dX8_played_15 : decode cX8_played 15 = .ok (.getfield 35, 3) := by decide +kernel
theorem dX8_played_18 : decode cX8_played 18 = .ok (.iload_n 1, 1) := by decide +kernel
theorem dX8_played_19 : decode cX8_played 19 = .ok (.invokevirtual 169, 3) := by decide +kernel
theorem dX8_played_22 : decode cX8_played 22 = .ok (.invokevirtual 91, 3) := by decide +kernel
theorem dX8_played_25 : decode cX8_played 25 = .ok (.ireturn, 1) := by decide +kernel
set_option maxRecDepth 20000 in
theorem ggX8_path_X6_pathAt : GoodIn wsX8_path wsX6_pathAt := goodIn_r _ [6, 7, 8, 22, 23, 24, 25, 26, 27, 28, 29, 30, 31, 32, 33] (by decide +kernel) (by decide +kernel)
set_option maxRecDepth 20000 in
theorem gX8_path_X6_pathAt : GoodIn wsX8_path (wsV RX8 172 RX6 yX6_pathAt wsX6_pathAt) := goodIn_app (goodIn_of _ (by decide +kernel)) ggX8_path_X6_pathAt
theorem dX8_path_0 : decode cX8_path 0 = .ok (.aload_n 0, 1) := by decide +kernel
theorem dX8_path_1 : decode cX8_path 1 = .ok (.getfield 35, 3) := by decide +kernel
theorem dX8_path_4 : decode cX8_path 4 = .ok (.iload_n 1, 1) := by decide +kernel
theorem dX8_path_5 : decode cX8_path 5 = .ok (.invokevirtual 172, 3) := by decide +kernel
theorem dX8_path_8 : decode cX8_path 8 = .ok (.ireturn, 1) := by decide +kernel
theorem dX8_areMosts_0 : decode cX8_areMosts 0 = .ok (.iload_n 0, 1) := by decide +kernel
theorem dX8_areMosts_1 : decode cX8_areMosts 1 = .ok (.ifCond .lt 33, 3) := by decide +kernel
theorem dX8_areMosts_4 : decode cX8_areMosts 4 = .ok (.iload_n 0, 1) := by decide +kernel
theorem dX8_areMosts_5 : decode cX8_areMosts 5 = .ok (.bipush 8, 2) := by decide +kernel
theorem dX8_areMosts_7 : decode cX8_areMosts 7 = .ok (.if_icmp .gt 27, 3) := by decide +kernel
theorem dX8_areMosts_10 : decode cX8_areMosts 10 = .ok (.iload_n 1, 1) := by decide +kernel
theorem dX8_areMosts_11 : decode cX8_areMosts 11 = .ok (.ifCond .lt 23, 3) := by decide +kernel
theorem dX8_areMosts_14 : decode cX8_areMosts 14 = .ok (.iload_n 1, 1) := by decide +kernel
theorem dX8_areMosts_15 : decode cX8_areMosts 15 = .ok (.bipush 8, 2) := by decide +kernel
theorem dX8_areMosts_17 : decode cX8_areMosts 17 = .ok (.if_icmp .gt 17, 3) := by decide +kernel
theorem dX8_areMosts_20 : decode cX8_areMosts 20 = .ok (.iload_n 2, 1) := by decide +kernel
theorem dX8_areMosts_21 : decode cX8_areMosts 21 = .ok (.ifCond .lt 13, 3) := by decide +kernel
theorem dX8_areMosts_24 : decode cX8_areMosts 24 = .ok (.iload_n 2, 1) := by decide +kernel
theorem dX8_areMosts_25 : decode cX8_areMosts 25 = .ok (.bipush 8, 2) := by decide +kernel
theorem dX8_areMosts_27 : decode cX8_areMosts 27 = .ok (.if_icmp .gt 7, 3) := by decide +kernel
theorem dX8_areMosts_30 : decode cX8_areMosts 30 = .ok (.iconst 1, 1) := by decide +kernel
theorem dX8_areMosts_31 : decode cX8_areMosts 31 = .ok (.goto 4, 3) := by decide +kernel
theorem dX8_areMosts_34 : decode cX8_areMosts 34 = .ok (.iconst 0, 1) := by decide +kernel
theorem dX8_areMosts_35 : decode cX8_areMosts 35 = .ok (.ireturn, 1) := by decide +kernel
set_option maxRecDepth 20000 in
theorem ggX8_tryRow_X6_start : GoodIn wsX8_tryRow wsX6_start := goodIn_r _ [8, 9, 10, 11, 12, 13, 14, 15, 16, 17, 18, 19, 20, 21, 22, 23, 24, 25, 26, 27, 28, 29, 101, 102, 103, 104, 105, 106, 107, 108, 109, 110, 111, 112, 113, 114, 115, 116, 117, 118, 119, 120, 121] (by decide +kernel) (by decide +kernel)
set_option maxRecDepth 20000 in
theorem gX8_tryRow_X6_start : GoodIn wsX8_tryRow (wsV RX8 151 RX6 yX6_start wsX6_start) := goodIn_app (goodIn_of _ (by decide +kernel)) ggX8_tryRow_X6_start
set_option maxRecDepth 20000 in
theorem ggX8_tryRow_X3_rest : GoodIn wsX8_tryRow wsX3_rest := goodIn_r _ [34, 35, 36, 37, 22, 38, 122] (by decide +kernel) (by decide +kernel)
set_option maxRecDepth 20000 in
theorem gX8_tryRow_X3_rest : GoodIn wsX8_tryRow (wsV RX8 155 RX3 yX3_rest wsX3_rest) := goodIn_app (goodIn_of _ (by decide +kernel)) ggX8_tryRow_X3_rest
set_option maxRecDepth 20000 in
theorem ggX8_tryRow_X6_goOn : GoodIn wsX8_tryRow wsX6_goOn := goodIn_r _ [42, 19, 16, 15, 10, 14, 43, 44, 45, 7, 46, 11, 12, 47, 48, 49, 27, 50, 51, 52, 53, 54, 55, 56, 57, 58, 59, 60, 18, 61, 9, 62, 63, 64, 65, 66, 67, 68, 69, 70, 71, 72, 73, 74, 75, 13, 17, 76, 77, 78, 33, 79, 35, 80, 81, 82, 83, 84, 85, 86, 87, 101, 102, 103, 104, 105, 106, 107, 108, 109, 110, 111, 112, 113, 114, 115, 116, 117, 118, 119, 120, 121, 122] (by decide +kernel) (by decide +kernel)
set_option maxRecDepth 20000 in
theorem gX8_tryRow_X6_goOn : GoodIn wsX8_tryRow (wsV RX8 158 RX6 yX6_goOn wsX6_goOn) := goodIn_app (goodIn_of _ (by decide +kernel)) ggX8_tryRow_X6_goOn
theorem dX8_tryRow_0 : decode cX8_tryRow 0 = .ok (.aload_n 0, 1) := by decide +kernel
theorem dX8_tryRow_1 : decode cX8_tryRow 1 = .ok (.getfield 39, 3) := by decide +kernel
theorem dX8_tryRow_4 : decode cX8_tryRow 4 = .ok (.aload_n 0, 1) := by decide +kernel
theorem dX8_tryRow_5 : decode cX8_tryRow 5 = .ok (.getfield 12, 3) := by decide +kernel
theorem dX8_tryRow_8 : decode cX8_tryRow 8 = .ok (.iload_n 1, 1) := by decide +kernel
theorem dX8_tryRow_9 : decode cX8_tryRow 9 = .ok (.iload_n 2, 1) := by decide +kernel
theorem dX8_tryRow_10 : decode cX8_tryRow 10 = .ok (.sipush 255, 3) := by decide +kernel
theorem dX8_tryRow_13 : decode cX8_tryRow 13 = .ok (.iand, 1) := by decide +kernel
theorem dX8_tryRow_14 : decode cX8_tryRow 14 = .ok (.iload_n 2, 1) := by decide +kernel
theorem dX8_tryRow_15 : decode cX8_tryRow 15 = .ok (.bipush 8, 2) := by decide +kernel
theorem dX8_tryRow_17 : decode cX8_tryRow 17 = .ok (.ishr, 1) := by decide +kernel
theorem dX8_tryRow_18 : decode cX8_tryRow 18 = .ok (.sipush 255, 3) := by decide +kernel
theorem dX8_tryRow_21 : decode cX8_tryRow 21 = .ok (.iand, 1) := by decide +kernel
theorem dX8_tryRow_22 : decode cX8_tryRow 22 = .ok (.iload_n 2, 1) := by decide +kernel
theorem dX8_tryRow_23 : decode cX8_tryRow 23 = .ok (.bipush 16, 2) := by decide +kernel
theorem dX8_tryRow_25 : decode cX8_tryRow 25 = .ok (.ishr, 1) := by decide +kernel
theorem dX8_tryRow_26 : decode cX8_tryRow 26 = .ok (.sipush 255, 3) := by decide +kernel
theorem dX8_tryRow_29 : decode cX8_tryRow 29 = .ok (.iand, 1) := by decide +kernel
theorem dX8_tryRow_30 : decode cX8_tryRow 30 = .ok (.invokevirtual 151, 3) := by decide +kernel
theorem dX8_tryRow_33 : decode cX8_tryRow 33 = .ok (.aload_n 0, 1) := by decide +kernel
theorem dX8_tryRow_34 : decode cX8_tryRow 34 = .ok (.getfield 26, 3) := by decide +kernel
theorem dX8_tryRow_37 : decode cX8_tryRow 37 = .ok (.invokevirtual 155, 3) := by decide +kernel
theorem dX8_tryRow_40 : decode cX8_tryRow 40 = .ok (.aload_n 0, 1) := by decide +kernel
theorem dX8_tryRow_41 : decode cX8_tryRow 41 = .ok (.getfield 39, 3) := by decide +kernel
theorem dX8_tryRow_44 : decode cX8_tryRow 44 = .ok (.aload_n 0, 1) := by decide +kernel
theorem dX8_tryRow_45 : decode cX8_tryRow 45 = .ok (.getfield 12, 3) := by decide +kernel
theorem dX8_tryRow_48 : decode cX8_tryRow 48 = .ok (.aload_n 0, 1) := by decide +kernel
theorem dX8_tryRow_49 : decode cX8_tryRow 49 = .ok (.getfield 26, 3) := by decide +kernel
theorem dX8_tryRow_52 : decode cX8_tryRow 52 = .ok (.sipush 5240, 3) := by decide +kernel
theorem dX8_tryRow_55 : decode cX8_tryRow 55 = .ok (.invokevirtual 158, 3) := by decide +kernel
theorem dX8_tryRow_58 : decode cX8_tryRow 58 = .ok (.aload_n 0, 1) := by decide +kernel
theorem dX8_tryRow_59 : decode cX8_tryRow 59 = .ok (.getfield 39, 3) := by decide +kernel
theorem dX8_tryRow_62 : decode cX8_tryRow 62 = .ok (.getfield 162, 3) := by decide +kernel
theorem dX8_tryRow_65 : decode cX8_tryRow 65 = .ok (.ireturn, 1) := by decide +kernel
set_option maxRecDepth 20000 in
theorem ggX8_all_X7_hasBook : GoodIn wsX8_all wsX7_hasBook := goodIn_r _ [9, 10, 222, 223, 224, 225, 226, 227, 228, 229, 230] (by decide +kernel) (by decide +kernel)
set_option maxRecDepth 20000 in
theorem gX8_all_X7_hasBook : GoodIn wsX8_all (wsV RX8 137 RX7 yX7_hasBook wsX7_hasBook) := goodIn_app (goodIn_of _ (by decide +kernel)) ggX8_all_X7_hasBook
set_option maxRecDepth 20000 in
theorem ggX8_all_X8_refuse : GoodIn wsX8_all wsX8_refuse := goodIn_r _ [15, 16, 186, 187, 188, 189, 190, 191, 192, 193, 194, 195, 196, 197, 198] (by decide +kernel) (by decide +kernel)
set_option maxRecDepth 20000 in
theorem gX8_all_X8_refuse : GoodIn wsX8_all (wsV RX8 87 RX8 yX8_refuse wsX8_refuse) := goodIn_app (goodIn_of _ (by decide +kernel)) ggX8_all_X8_refuse
set_option maxRecDepth 20000 in
theorem ggX8_all_X8_areBits : GoodIn wsX8_all wsX8_areBits := goodIn_r _ [19] (by decide +kernel) (by decide +kernel)
set_option maxRecDepth 20000 in
theorem gX8_all_X8_areBits : GoodIn wsX8_all (va_wsS RX8 100 yX8_areBits wsX8_areBits) := goodIn_app (goodIn_of _ (by decide +kernel)) ggX8_all_X8_areBits
set_option maxRecDepth 20000 in
theorem ggX8_all_X8_areMosts : GoodIn wsX8_all wsX8_areMosts := goodIn_r _ [22] (by decide +kernel) (by decide +kernel)
set_option maxRecDepth 20000 in
theorem gX8_all_X8_areMosts : GoodIn wsX8_all (va_wsS RX8 175 yX8_areMosts wsX8_areMosts) := goodIn_app (goodIn_of _ (by decide +kernel)) ggX8_all_X8_areMosts
set_option maxRecDepth 20000 in
theorem ggX8_all_X0_prepare : GoodIn wsX8_all wsX0_prepare := goodIn_r _ [27, 28, 29, 30, 31, 32, 33, 34, 35, 36, 8, 37, 38, 39, 40, 26, 41, 42, 43, 44, 45, 46, 47, 48, 49, 50, 51, 52, 53, 54, 55, 56, 57, 58, 231, 232, 233, 234, 235, 236, 222, 223, 224, 225, 226, 227, 228, 229, 230] (by decide +kernel) (by decide +kernel)
set_option maxRecDepth 20000 in
theorem gX8_all_X0_prepare : GoodIn wsX8_all (wsV RX8 179 RX0 yX0_prepare wsX0_prepare) := goodIn_app (goodIn_of _ (by decide +kernel)) ggX8_all_X0_prepare
set_option maxRecDepth 20000 in
theorem ggX8_all_X0_writeTo : GoodIn wsX8_all wsX0_writeTo := goodIn_r _ [62, 33, 32, 31, 30, 63, 42, 43, 44, 45, 46, 47, 48, 64, 65, 66, 26, 67, 29, 28, 231, 232, 233, 234, 235, 236] (by decide +kernel) (by decide +kernel)
set_option maxRecDepth 20000 in
theorem gX8_all_X0_writeTo : GoodIn wsX8_all (wsV RX8 186 RX0 yX0_writeTo wsX0_writeTo) := goodIn_app (goodIn_of _ (by decide +kernel)) ggX8_all_X0_writeTo
set_option maxRecDepth 20000 in
theorem ggX8_all_X5_start : GoodIn wsX8_all wsX5_start := goodIn_r _ [72, 73, 74, 75, 76, 77, 78, 79, 80, 81, 82, 83, 84, 85, 86, 199, 200, 201, 202, 203, 204, 205, 206, 207, 208, 209] (by decide +kernel) (by decide +kernel)
set_option maxRecDepth 20000 in
theorem gX8_all_X5_start : GoodIn wsX8_all (wsV RX8 190 RX5 yX5_start wsX5_start) := goodIn_app (goodIn_of _ (by decide +kernel)) ggX8_all_X5_start
set_option maxRecDepth 20000 in
theorem ggX8_all_X5_rowAt : GoodIn wsX8_all wsX5_rowAt := goodIn_r _ [90, 91, 199, 200, 201, 202, 203, 204, 205, 206, 207, 208, 209] (by decide +kernel) (by decide +kernel)
set_option maxRecDepth 20000 in
theorem gX8_all_X5_rowAt : GoodIn wsX8_all (wsV RX8 192 RX5 yX5_rowAt wsX5_rowAt) := goodIn_app (goodIn_of _ (by decide +kernel)) ggX8_all_X5_rowAt
set_option maxRecDepth 20000 in
theorem ggX8_all_X8_tryRow : GoodIn wsX8_all wsX8_tryRow := goodIn_r _ [95, 4, 1, 96, 97, 98, 99, 100, 101, 102, 103, 104, 105, 106, 107, 108, 109, 110, 111, 112, 113, 114, 85, 115, 116, 35, 36, 8, 37, 38, 117, 118, 119, 120, 121, 122, 123, 84, 86, 124, 125, 126, 127, 128, 129, 130, 131, 132, 133, 134, 135, 136, 137, 138, 139, 140, 141, 142, 143, 144, 145, 146, 147, 148, 149, 150, 151, 152, 153, 154, 155, 156, 157, 158, 159, 160, 161, 162, 163, 164, 165, 166, 167, 168, 169, 170, 171, 172, 186, 187, 188, 189, 190, 191, 192, 193, 194, 195, 196, 197, 198, 210, 211, 212, 213, 214, 215, 216, 217, 218, 219, 220, 221, 222, 223, 224, 225, 226, 227, 228, 229, 230, 237] (by decide +kernel) (by decide +kernel)
set_option maxRecDepth 20000 in
theorem gX8_all_X8_tryRow : GoodIn wsX8_all (wsV RX8 195 RX8 yX8_tryRow wsX8_tryRow) := goodIn_app (goodIn_of _ (by decide +kernel)) ggX8_all_X8_tryRow
set_option maxRecDepth 20000 in
theorem ggX8_all_X5_add : GoodIn wsX8_all wsX5_add := goodIn_r _ [176, 73, 77, 81, 82, 177, 178, 179, 71, 180, 78, 79, 80, 181, 88, 89, 90, 91, 199, 200, 201, 202, 203, 204, 205, 206, 207, 208, 209] (by decide +kernel) (by decide +kernel)
set_option maxRecDepth 20000 in
theorem gX8_all_X5_add : GoodIn wsX8_all (wsV RX8 202 RX5 yX5_add wsX5_add) := goodIn_app (goodIn_of _ (by decide +kernel)) ggX8_all_X5_add
set_option maxRecDepth 20000 in
theorem ggX8_all_X8_accept : GoodIn wsX8_all wsX8_accept := goodIn_r _ [185, 16, 186, 187, 188, 189, 190, 191, 192, 193, 194, 195, 196, 197, 198] (by decide +kernel) (by decide +kernel)
set_option maxRecDepth 20000 in
theorem gX8_all_X8_accept : GoodIn wsX8_all (wsV RX8 91 RX8 yX8_accept wsX8_accept) := goodIn_app (goodIn_of _ (by decide +kernel)) ggX8_all_X8_accept
theorem dX8_all_0 : decode cX8_all 0 = .ok (.aload_n 0, 1) := by decide +kernel
theorem dX8_all_1 : decode cX8_all 1 = .ok (.getfield 12, 3) := by decide +kernel
theorem dX8_all_4 : decode cX8_all 4 = .ok (.iload_n 1, 1) := by decide +kernel
theorem dX8_all_5 : decode cX8_all 5 = .ok (.invokevirtual 137, 3) := by decide +kernel
theorem dX8_all_8 : decode cX8_all 8 = .ok (.ifCond .ne 9, 3) := by decide +kernel
theorem dX8_all_11 : decode cX8_all 11 = .ok (.aload_n 0, 1) := by decide +kernel
theorem dX8_all_12 : decode cX8_all 12 = .ok (.iconst 1, 1) := by decide +kernel
theorem dX8_all_13 : decode cX8_all 13 = .ok (.invokevirtual 87, 3) := by decide +kernel
theorem dX8_all_16 : decode cX8_all 16 = .ok (.ireturn, 1) := by decide +kernel
theorem dX8_all_17 : decode cX8_all 17 = .ok (.iload_n 2, 1) := by decide +kernel
theorem dX8_all_18 : decode cX8_all 18 = .ok (.invokestatic 100, 3) := by decide +kernel
theorem dX8_all_21 : decode cX8_all 21 = .ok (.ifCond .eq 14, 3) := by decide +kernel
theorem dX8_all_24 : decode cX8_all 24 = .ok (.iload_n 3, 1) := by decide +kernel
theorem dX8_all_25 : decode cX8_all 25 = .ok (.iload 4, 2) := by decide +kernel
theorem dX8_all_27 : decode cX8_all 27 = .ok (.iload 5, 2) := by decide +kernel
theorem dX8_all_29 : decode cX8_all 29 = .ok (.invokestatic 175, 3) := by decide +kernel
theorem dX8_all_32 : decode cX8_all 32 = .ok (.ifCond .ne 9, 3) := by decide +kernel
theorem dX8_all_35 : decode cX8_all 35 = .ok (.aload_n 0, 1) := by decide +kernel
theorem dX8_all_36 : decode cX8_all 36 = .ok (.iconst 2, 1) := by decide +kernel
theorem dX8_all_37 : decode cX8_all 37 = .ok (.invokevirtual 87, 3) := by decide +kernel
theorem dX8_all_40 : decode cX8_all 40 = .ok (.ireturn, 1) := by decide +kernel
theorem dX8_all_41 : decode cX8_all 41 = .ok (.aload_n 0, 1) := by decide +kernel
theorem dX8_all_42 : decode cX8_all 42 = .ok (.getfield 51, 3) := by decide +kernel
theorem dX8_all_45 : decode cX8_all 45 = .ok (.aload_n 0, 1) := by decide +kernel
theorem dX8_all_46 : decode cX8_all 46 = .ok (.getfield 12, 3) := by decide +kernel
theorem dX8_all_49 : decode cX8_all 49 = .ok (.iload_n 2, 1) := by decide +kernel
theorem dX8_all_50 : decode cX8_all 50 = .ok (.iload_n 3, 1) := by decide +kernel
theorem dX8_all_51 : decode cX8_all 51 = .ok (.iload 4, 2) := by decide +kernel
theorem dX8_all_53 : decode cX8_all 53 = .ok (.iload 5, 2) := by decide +kernel
theorem dX8_all_55 : decode cX8_all 55 = .ok (.invokevirtual 179, 3) := by decide +kernel
theorem dX8_all_58 : decode cX8_all 58 = .ok (.istore 6, 2) := by decide +kernel
theorem dX8_all_60 : decode cX8_all 60 = .ok (.iload 6, 2) := by decide +kernel
theorem dX8_all_62 : decode cX8_all 62 = .ok (.sipush 500, 3) := by decide +kernel
theorem dX8_all_65 : decode cX8_all 65 = .ok (.if_icmp .le 9, 3) := by decide +kernel
theorem dX8_all_68 : decode cX8_all 68 = .ok (.aload_n 0, 1) := by decide +kernel
theorem dX8_all_69 : decode cX8_all 69 = .ok (.iconst 3, 1) := by decide +kernel
theorem dX8_all_70 : decode cX8_all 70 = .ok (.invokevirtual 87, 3) := by decide +kernel
theorem dX8_all_73 : decode cX8_all 73 = .ok (.ireturn, 1) := by decide +kernel
theorem dX8_all_74 : decode cX8_all 74 = .ok (.aload_n 0, 1) := by decide +kernel
theorem dX8_all_75 : decode cX8_all 75 = .ok (.getfield 51, 3) := by decide +kernel
theorem dX8_all_78 : decode cX8_all 78 = .ok (.aload_n 0, 1) := by decide +kernel
theorem dX8_all_79 : decode cX8_all 79 = .ok (.getfield 58, 3) := by decide +kernel
theorem dX8_all_82 : decode cX8_all 82 = .ok (.getfield 183, 3) := by decide +kernel
theorem dX8_all_85 : decode cX8_all 85 = .ok (.invokevirtual 186, 3) := by decide +kernel
theorem dX8_all_88 : decode cX8_all 88 = .ok (.aload_n 0, 1) := by decide +kernel
theorem dX8_all_89 : decode cX8_all 89 = .ok (.getfield 58, 3) := by decide +kernel
theorem dX8_all_92 : decode cX8_all 92 = .ok (.iload_n 1, 1) := by decide +kernel
theorem dX8_all_93 : decode cX8_all 93 = .ok (.iload 6, 2) := by decide +kernel
theorem dX8_all_95 : decode cX8_all 95 = .ok (.invokevirtual 190, 3) := by decide +kernel
theorem dX8_all_98 : decode cX8_all 98 = .ok (.iconst 0, 1) := by decide +kernel
theorem dX8_all_99 : decode cX8_all 99 = .ok (.istore 7, 2) := by decide +kernel
theorem dX8_all_101 : decode cX8_all 101 = .ok (.iload 7, 2) := by decide +kernel
theorem dX8_all_103 : decode cX8_all 103 = .ok (.iload 6, 2) := by decide +kernel
theorem dX8_all_105 : decode cX8_all 105 = .ok (.if_icmp .ge 43, 3) := by decide +kernel
theorem dX8_all_108 : decode cX8_all 108 = .ok (.aload_n 0, 1) := by decide +kernel
theorem dX8_all_109 : decode cX8_all 109 = .ok (.iload_n 1, 1) := by decide +kernel
theorem dX8_all_110 : decode cX8_all 110 = .ok (.aload_n 0, 1) := by decide +kernel
theorem dX8_all_111 : decode cX8_all 111 = .ok (.getfield 58, 3) := by decide +kernel
theorem dX8_all_114 : decode cX8_all 114 = .ok (.iload 7, 2) := by decide +kernel
theorem dX8_all_116 : decode cX8_all 116 = .ok (.invokevirtual 192, 3) := by decide +kernel
theorem dX8_all_119 : decode cX8_all 119 = .ok (.invokevirtual 195, 3) := by decide +kernel
theorem dX8_all_122 : decode cX8_all 122 = .ok (.istore 8, 2) := by decide +kernel
theorem dX8_all_124 : decode cX8_all 124 = .ok (.aload_n 0, 1) := by decide +kernel
theorem dX8_all_125 : decode cX8_all 125 = .ok (.getfield 58, 3) := by decide +kernel
theorem dX8_all_128 : decode cX8_all 128 = .ok (.iload 7, 2) := by decide +kernel
theorem dX8_all_130 : decode cX8_all 130 = .ok (.iload 8, 2) := by decide +kernel
theorem dX8_all_132 : decode cX8_all 132 = .ok (.aload_n 0, 1) := by decide +kernel
theorem dX8_all_133 : decode cX8_all 133 = .ok (.getfield 39, 3) := by decide +kernel
theorem dX8_all_136 : decode cX8_all 136 = .ok (.getfield 199, 3) := by decide +kernel
theorem dX8_all_139 : decode cX8_all 139 = .ok (.invokevirtual 202, 3) := by decide +kernel
theorem dX8_all_142 : decode cX8_all 142 = .ok (.iinc 7 1, 3) := by decide +kernel
theorem dX8_all_145 : decode cX8_all 145 = .ok (.goto (-44), 3) := by decide +kernel
theorem dX8_all_148 : decode cX8_all 148 = .ok (.aload_n 0, 1) := by decide +kernel
theorem dX8_all_149 : decode cX8_all 149 = .ok (.aload_n 0, 1) := by decide +kernel
theorem dX8_all_150 : decode cX8_all 150 = .ok (.getfield 58, 3) := by decide +kernel
theorem dX8_all_153 : decode cX8_all 153 = .ok (.getfield 206, 3) := by decide +kernel
theorem dX8_all_156 : decode cX8_all 156 = .ok (.invokevirtual 91, 3) := by decide +kernel
theorem dX8_all_159 : decode cX8_all 159 = .ok (.ireturn, 1) := by decide +kernel
set_option maxRecDepth 20000 in
theorem ggX8_ended_X5_endedBy : GoodIn wsX8_ended wsX5_endedBy := goodIn_r _ [6, 7, 8, 22, 23, 24, 25, 26, 27, 28, 29, 30, 31, 32] (by decide +kernel) (by decide +kernel)
set_option maxRecDepth 20000 in
theorem gX8_ended_X5_endedBy : GoodIn wsX8_ended (wsV RX8 209 RX5 yX5_endedBy wsX5_endedBy) := goodIn_app (goodIn_of _ (by decide +kernel)) ggX8_ended_X5_endedBy
theorem dX8_ended_0 : decode cX8_ended 0 = .ok (.aload_n 0, 1) := by decide +kernel
theorem dX8_ended_1 : decode cX8_ended 1 = .ok (.getfield 58, 3) := by decide +kernel
theorem dX8_ended_4 : decode cX8_ended 4 = .ok (.iload_n 1, 1) := by decide +kernel
theorem dX8_ended_5 : decode cX8_ended 5 = .ok (.invokevirtual 209, 3) := by decide +kernel
theorem dX8_ended_8 : decode cX8_ended 8 = .ok (.ireturn, 1) := by decide +kernel
set_option maxRecDepth 20000 in
theorem ggX8_allOf_X5_about : GoodIn wsX8_allOf wsX5_about := goodIn_r _ [6, 7, 8, 9, 10, 11, 12, 13, 14, 28, 29, 30, 31, 32, 33, 34, 35, 36, 37, 38] (by decide +kernel) (by decide +kernel)
set_option maxRecDepth 20000 in
theorem gX8_allOf_X5_about : GoodIn wsX8_allOf (wsV RX8 212 RX5 yX5_about wsX5_about) := goodIn_app (goodIn_of _ (by decide +kernel)) ggX8_allOf_X5_about
theorem dX8_allOf_0 : decode cX8_allOf 0 = .ok (.aload_n 0, 1) := by decide +kernel
theorem dX8_allOf_1 : decode cX8_allOf 1 = .ok (.getfield 58, 3) := by decide +kernel
theorem dX8_allOf_4 : decode cX8_allOf 4 = .ok (.iload_n 1, 1) := by decide +kernel
theorem dX8_allOf_5 : decode cX8_allOf 5 = .ok (.invokevirtual 212, 3) := by decide +kernel
theorem dX8_allOf_8 : decode cX8_allOf 8 = .ok (.ireturn, 1) := by decide +kernel
set_option maxRecDepth 20000 in
theorem ggX8_idle_X7_hasBook : GoodIn wsX8_idle wsX7_hasBook := goodIn_r _ [6, 7, 47, 48, 49, 50, 51, 52, 53, 54, 55] (by decide +kernel) (by decide +kernel)
set_option maxRecDepth 20000 in
theorem gX8_idle_X7_hasBook : GoodIn wsX8_idle (wsV RX8 137 RX7 yX7_hasBook wsX7_hasBook) := goodIn_app (goodIn_of _ (by decide +kernel)) ggX8_idle_X7_hasBook
set_option maxRecDepth 20000 in
theorem ggX8_idle_X7_sizeOf : GoodIn wsX8_idle wsX7_sizeOf := goodIn_r _ [11, 12, 47, 48, 49, 50, 51, 52, 53, 54, 55] (by decide +kernel) (by decide +kernel)
set_option maxRecDepth 20000 in
theorem gX8_idle_X7_sizeOf : GoodIn wsX8_idle (wsV RX8 140 RX7 yX7_sizeOf wsX7_sizeOf) := goodIn_app (goodIn_of _ (by decide +kernel)) ggX8_idle_X7_sizeOf
set_option maxRecDepth 20000 in
theorem ggX8_idle_X7_reached : GoodIn wsX8_idle wsX7_reached := goodIn_r _ [16, 17, 9, 10, 5, 11, 12, 18, 19, 20, 21, 22, 23, 24, 25, 26, 47, 48, 49, 50, 51, 52, 53, 54, 55] (by decide +kernel) (by decide +kernel)
set_option maxRecDepth 20000 in
theorem gX8_idle_X7_reached : GoodIn wsX8_idle (wsV RX8 213 RX7 yX7_reached wsX7_reached) := goodIn_app (goodIn_of _ (by decide +kernel)) ggX8_idle_X7_reached
set_option maxRecDepth 20000 in
theorem ggX8_idle_J6_bitCount_0f7a4 : GoodIn wsX8_idle wsJ6_bitCount_0f7a4 := goodIn_r _ [30, 31, 32, 33] (by decide +kernel) (by decide +kernel)
set_option maxRecDepth 20000 in
theorem gX8_idle_J6_bitCount_0f7a4 : GoodIn wsX8_idle (va_wsS RX8 216 yJ6_bitCount_0f7a4 wsJ6_bitCount_0f7a4) := goodIn_app (goodIn_of _ (by decide +kernel)) ggX8_idle_J6_bitCount_0f7a4
theorem dX8_idle_0 : decode cX8_idle 0 = .ok (.aload_n 0, 1) := by decide +kernel
theorem dX8_idle_1 : decode cX8_idle 1 = .ok (.getfield 12, 3) := by decide +kernel
theorem dX8_idle_4 : decode cX8_idle 4 = .ok (.iload_n 1, 1) := by decide +kernel
theorem dX8_idle_5 : decode cX8_idle 5 = .ok (.invokevirtual 137, 3) := by decide +kernel
theorem dX8_idle_8 : decode cX8_idle 8 = .ok (.ifCond .eq 26, 3) := by decide +kernel
theorem dX8_idle_11 : decode cX8_idle 11 = .ok (.aload_n 0, 1) := by decide +kernel
theorem dX8_idle_12 : decode cX8_idle 12 = .ok (.getfield 12, 3) := by decide +kernel
theorem dX8_idle_15 : decode cX8_idle 15 = .ok (.iload_n 1, 1) := by decide +kernel
theorem dX8_idle_16 : decode cX8_idle 16 = .ok (.invokevirtual 140, 3) := by decide +kernel
theorem dX8_idle_19 : decode cX8_idle 19 = .ok (.aload_n 0, 1) := by decide +kernel
theorem dX8_idle_20 : decode cX8_idle 20 = .ok (.getfield 12, 3) := by decide +kernel
theorem dX8_idle_23 : decode cX8_idle 23 = .ok (.iload_n 1, 1) := by decide +kernel
theorem dX8_idle_24 : decode cX8_idle 24 = .ok (.invokevirtual 213, 3) := by decide +kernel
theorem dX8_idle_27 : decode cX8_idle 27 = .ok (.invokestatic 216, 3) := by decide +kernel
theorem dX8_idle_30 : decode cX8_idle 30 = .ok (.isub, 1) := by decide +kernel
theorem dX8_idle_31 : decode cX8_idle 31 = .ok (.goto 4, 3) := by decide +kernel
theorem dX8_idle_34 : decode cX8_idle 34 = .ok (.iconst (-1), 1) := by decide +kernel
theorem dX8_idle_35 : decode cX8_idle 35 = .ok (.ireturn, 1) := by decide +kernel
set_option maxRecDepth 20000 in
theorem ggX8_look_X8_hasStep : GoodIn wsX8_look wsX8_hasStep := goodIn_r _ [6, 1, 7, 8, 9, 10, 11, 12, 13, 14, 15, 16, 17, 50, 51, 52, 53, 54, 55, 56, 57, 58, 59, 60, 61, 62, 63, 64, 65, 66, 67, 68, 69, 70, 71] (by decide +kernel) (by decide +kernel)
set_option maxRecDepth 20000 in
theorem gX8_look_X8_hasStep : GoodIn wsX8_look (wsV RX8 143 RX8 yX8_hasStep wsX8_hasStep) := goodIn_app (goodIn_of _ (by decide +kernel)) ggX8_look_X8_hasStep
set_option maxRecDepth 20000 in
theorem ggX8_look_X7_reached : GoodIn wsX8_look wsX7_reached := goodIn_r _ [21, 22, 14, 15, 10, 16, 17, 23, 24, 25, 26, 27, 28, 29, 30, 31, 63, 64, 65, 66, 67, 68, 69, 70, 71] (by decide +kernel) (by decide +kernel)
set_option maxRecDepth 20000 in
theorem gX8_look_X7_reached : GoodIn wsX8_look (wsV RX8 213 RX7 yX7_reached wsX7_reached) := goodIn_app (goodIn_of _ (by decide +kernel)) ggX8_look_X7_reached
set_option maxRecDepth 20000 in
theorem ggX8_look_X7_isDoable : GoodIn wsX8_look wsX7_isDoable := goodIn_r _ [35, 36, 37, 38, 10, 39, 27, 28, 29, 30, 31, 40, 41, 42, 43, 44, 45, 46, 47, 48, 49, 63, 64, 65, 66, 67, 68, 69, 70, 71] (by decide +kernel) (by decide +kernel)
set_option maxRecDepth 20000 in
theorem gX8_look_X7_isDoable : GoodIn wsX8_look (wsV RX8 221 RX7 yX7_isDoable wsX7_isDoable) := goodIn_app (goodIn_of _ (by decide +kernel)) ggX8_look_X7_isDoable
theorem dX8_look_0 : decode cX8_look 0 = .ok (.aload_n 0, 1) := by decide +kernel
theorem dX8_look_1 : decode cX8_look 1 = .ok (.iload_n 1, 1) := by decide +kernel
theorem dX8_look_2 : decode cX8_look 2 = .ok (.iload_n 2, 1) := by decide +kernel
theorem dX8_look_3 : decode cX8_look 3 = .ok (.invokevirtual 143, 3) := by decide +kernel
theorem dX8_look_6 : decode cX8_look 6 = .ok (.ifCond .ne 5, 3) := by decide +kernel
theorem dX8_look_9 : decode cX8_look 9 = .ok (.iconst (-1), 1) := by decide +kernel
theorem dX8_look_10 : decode cX8_look 10 = .ok (.ireturn, 1) := by decide +kernel
theorem dX8_look_11 : decode cX8_look 11 = .ok (.aload_n 0, 1) := by decide +kernel
theorem dX8_look_12 : decode cX8_look 12 = .ok (.getfield 12, 3) := by decide +kernel
theorem dX8_look_15 : decode cX8_look 15 = .ok (.iload_n 1, 1) := by decide +kernel
theorem dX8_look_16 : decode cX8_look 16 = .ok (.invokevirtual 213, 3) := by decide +kernel
theorem dX8_look_19 : decode cX8_look 19 = .ok (.iload_n 2, 1) := by decide +kernel
theorem dX8_look_20 : decode cX8_look 20 = .ok (.ishr, 1) := by decide +kernel
theorem dX8_look_21 : decode cX8_look 21 = .ok (.iconst 1, 1) := by decide +kernel
theorem dX8_look_22 : decode cX8_look 22 = .ok (.iand, 1) := by decide +kernel
theorem dX8_look_23 : decode cX8_look 23 = .ok (.aload_n 0, 1) := by decide +kernel
theorem dX8_look_24 : decode cX8_look 24 = .ok (.getfield 12, 3) := by decide +kernel
theorem dX8_look_27 : decode cX8_look 27 = .ok (.iload_n 1, 1) := by decide +kernel
theorem dX8_look_28 : decode cX8_look 28 = .ok (.iload_n 2, 1) := by decide +kernel
theorem dX8_look_29 : decode cX8_look 29 = .ok (.invokevirtual 221, 3) := by decide +kernel
theorem dX8_look_32 : decode cX8_look 32 = .ok (.ifCond .eq 7, 3) := by decide +kernel
theorem dX8_look_35 : decode cX8_look 35 = .ok (.iconst 2, 1) := by decide +kernel
theorem dX8_look_36 : decode cX8_look 36 = .ok (.goto 4, 3) := by decide +kernel
theorem dX8_look_39 : decode cX8_look 39 = .ok (.iconst 0, 1) := by decide +kernel
theorem dX8_look_40 : decode cX8_look 40 = .ok (.iadd, 1) := by decide +kernel
theorem dX8_look_41 : decode cX8_look 41 = .ok (.ireturn, 1) := by decide +kernel
set_option maxRecDepth 20000 in
theorem ggX8_countMends_X7_sizeOf : GoodIn wsX8_countMends wsX7_sizeOf := goodIn_r _ [6, 7, 38, 39, 40, 41, 42, 43, 44, 45, 46] (by decide +kernel) (by decide +kernel)
set_option maxRecDepth 20000 in
theorem gX8_countMends_X7_sizeOf : GoodIn wsX8_countMends (wsV RX8 140 RX7 yX7_sizeOf wsX7_sizeOf) := goodIn_app (goodIn_of _ (by decide +kernel)) ggX8_countMends_X7_sizeOf
set_option maxRecDepth 20000 in
theorem ggX8_countMends_X7_cell : GoodIn wsX8_countMends wsX7_cell := goodIn_r _ [11, 12, 38, 39, 40, 41, 42, 43, 44, 45, 46] (by decide +kernel) (by decide +kernel)
set_option maxRecDepth 20000 in
theorem gX8_countMends_X7_cell : GoodIn wsX8_countMends (wsV RX8 147 RX7 yX7_cell wsX7_cell) := goodIn_app (goodIn_of _ (by decide +kernel)) ggX8_countMends_X7_cell
set_option maxRecDepth 20000 in
theorem ggX8_countMends_X7_skillsOf : GoodIn wsX8_countMends wsX7_skillsOf := goodIn_r _ [16, 17, 38, 39, 40, 41, 42, 43, 44, 45, 46] (by decide +kernel) (by decide +kernel)
set_option maxRecDepth 20000 in
theorem gX8_countMends_X7_skillsOf : GoodIn wsX8_countMends (wsV RX8 224 RX7 yX7_skillsOf wsX7_skillsOf) := goodIn_app (goodIn_of _ (by decide +kernel)) ggX8_countMends_X7_skillsOf
set_option maxRecDepth 20000 in
theorem ggX8_countMends_J6_bitCount_0f7a4 : GoodIn wsX8_countMends wsJ6_bitCount_0f7a4 := goodIn_r _ [21, 22, 23, 24] (by decide +kernel) (by decide +kernel)
set_option maxRecDepth 20000 in
theorem gX8_countMends_J6_bitCount_0f7a4 : GoodIn wsX8_countMends (va_wsS RX8 216 yJ6_bitCount_0f7a4 wsJ6_bitCount_0f7a4) := goodIn_app (goodIn_of _ (by decide +kernel)) ggX8_countMends_J6_bitCount_0f7a4
theorem dX8_countMends_0 : decode cX8_countMends 0 = .ok (.aload_n 0, 1) := by decide +kernel
theorem dX8_countMends_1 : decode cX8_countMends 1 = .ok (.getfield 12, 3) := by decide +kernel
theorem dX8_countMends_4 : decode cX8_countMends 4 = .ok (.iload_n 1, 1) := by decide +kernel
theorem dX8_countMends_5 : decode cX8_countMends 5 = .ok (.invokevirtual 140, 3) := by decide +kernel
theorem dX8_countMends_8 : decode cX8_countMends 8 = .ok (.istore_n 2, 1) := by decide +kernel
theorem dX8_countMends_9 : decode cX8_countMends 9 = .ok (.iconst 0, 1) := by decide +kernel
theorem dX8_countMends_10 : decode cX8_countMends 10 = .ok (.istore_n 3, 1) := by decide +kernel
theorem dX8_countMends_11 : decode cX8_countMends 11 = .ok (.iconst 0, 1) := by decide +kernel
theorem dX8_countMends_12 : decode cX8_countMends 12 = .ok (.istore 4, 2) := by decide +kernel
theorem dX8_countMends_14 : decode cX8_countMends 14 = .ok (.iload 4, 2) := by decide +kernel
theorem dX8_countMends_16 : decode cX8_countMends 16 = .ok (.iload_n 2, 1) := by decide +kernel
theorem dX8_countMends_17 : decode cX8_countMends 17 = .ok (.if_icmp .ge 46, 3) := by decide +kernel
theorem dX8_countMends_20 : decode cX8_countMends 20 = .ok (.aload_n 0, 1) := by decide +kernel
theorem dX8_countMends_21 : decode cX8_countMends 21 = .ok (.getfield 12, 3) := by decide +kernel
theorem dX8_countMends_24 : decode cX8_countMends 24 = .ok (.iload_n 1, 1) := by decide +kernel
theorem dX8_countMends_25 : decode cX8_countMends 25 = .ok (.iload 4, 2) := by decide +kernel
theorem dX8_countMends_27 : decode cX8_countMends 27 = .ok (.iconst 0, 1) := by decide +kernel
theorem dX8_countMends_28 : decode cX8_countMends 28 = .ok (.invokevirtual 147, 3) := by decide +kernel
theorem dX8_countMends_31 : decode cX8_countMends 31 = .ok (.istore 5, 2) := by decide +kernel
theorem dX8_countMends_33 : decode cX8_countMends 33 = .ok (.iload_n 3, 1) := by decide +kernel
theorem dX8_countMends_34 : decode cX8_countMends 34 = .ok (.iload 5, 2) := by decide +kernel
theorem dX8_countMends_36 : decode cX8_countMends 36 = .ok (.iconst 2, 1) := by decide +kernel
theorem dX8_countMends_37 : decode cX8_countMends 37 = .ok (.if_icmp .ne 7, 3) := by decide +kernel
theorem dX8_countMends_40 : decode cX8_countMends 40 = .ok (.iconst 2, 1) := by decide +kernel
theorem dX8_countMends_41 : decode cX8_countMends 41 = .ok (.goto 14, 3) := by decide +kernel
theorem dX8_countMends_44 : decode cX8_countMends 44 = .ok (.iload 5, 2) := by decide +kernel
theorem dX8_countMends_46 : decode cX8_countMends 46 = .ok (.iconst 4, 1) := by decide +kernel
theorem dX8_countMends_47 : decode cX8_countMends 47 = .ok (.if_icmp .ne 7, 3) := by decide +kernel
theorem dX8_countMends_50 : decode cX8_countMends 50 = .ok (.iconst 1, 1) := by decide +kernel
theorem dX8_countMends_51 : decode cX8_countMends 51 = .ok (.goto 4, 3) := by decide +kernel
theorem dX8_countMends_54 : decode cX8_countMends 54 = .ok (.iconst 0, 1) := by decide +kernel
theorem dX8_countMends_55 : decode cX8_countMends 55 = .ok (.iadd, 1) := by decide +kernel
theorem dX8_countMends_56 : decode cX8_countMends 56 = .ok (.istore_n 3, 1) := by decide +kernel
theorem dX8_countMends_57 : decode cX8_countMends 57 = .ok (.iinc 4 1, 3) := by decide +kernel
theorem dX8_countMends_60 : decode cX8_countMends 60 = .ok (.goto (-46), 3) := by decide +kernel
theorem dX8_countMends_63 : decode cX8_countMends 63 = .ok (.iload_n 3, 1) := by decide +kernel
theorem dX8_countMends_64 : decode cX8_countMends 64 = .ok (.iload_n 2, 1) := by decide +kernel
theorem dX8_countMends_65 : decode cX8_countMends 65 = .ok (.iconst 1, 1) := by decide +kernel
theorem dX8_countMends_66 : decode cX8_countMends 66 = .ok (.isub, 1) := by decide +kernel
theorem dX8_countMends_67 : decode cX8_countMends 67 = .ok (.imul, 1) := by decide +kernel
theorem dX8_countMends_68 : decode cX8_countMends 68 = .ok (.istore 4, 2) := by decide +kernel
theorem dX8_countMends_70 : decode cX8_countMends 70 = .ok (.iconst 0, 1) := by decide +kernel
theorem dX8_countMends_71 : decode cX8_countMends 71 = .ok (.istore 5, 2) := by decide +kernel
theorem dX8_countMends_73 : decode cX8_countMends 73 = .ok (.iload 5, 2) := by decide +kernel
theorem dX8_countMends_75 : decode cX8_countMends 75 = .ok (.aload_n 0, 1) := by decide +kernel
theorem dX8_countMends_76 : decode cX8_countMends 76 = .ok (.getfield 12, 3) := by decide +kernel
theorem dX8_countMends_79 : decode cX8_countMends 79 = .ok (.getfield 104, 3) := by decide +kernel
theorem dX8_countMends_82 : decode cX8_countMends 82 = .ok (.if_icmp .ge 29, 3) := by decide +kernel
theorem dX8_countMends_85 : decode cX8_countMends 85 = .ok (.iload 4, 2) := by decide +kernel
theorem dX8_countMends_87 : decode cX8_countMends 87 = .ok (.bipush 8, 2) := by decide +kernel
theorem dX8_countMends_89 : decode cX8_countMends 89 = .ok (.aload_n 0, 1) := by decide +kernel
theorem dX8_countMends_90 : decode cX8_countMends 90 = .ok (.getfield 12, 3) := by decide +kernel
theorem dX8_countMends_93 : decode cX8_countMends 93 = .ok (.iload 5, 2) := by decide +kernel
theorem dX8_countMends_95 : decode cX8_countMends 95 = .ok (.invokevirtual 224, 3) := by decide +kernel
theorem dX8_countMends_98 : decode cX8_countMends 98 = .ok (.invokestatic 216, 3) := by decide +kernel
theorem dX8_countMends_101 : decode cX8_countMends 101 = .ok (.isub, 1) := by decide +kernel
theorem dX8_countMends_102 : decode cX8_countMends 102 = .ok (.iadd, 1) := by decide +kernel
theorem dX8_countMends_103 : decode cX8_countMends 103 = .ok (.istore 4, 2) := by decide +kernel
theorem dX8_countMends_105 : decode cX8_countMends 105 = .ok (.iinc 5 1, 3) := by decide +kernel
theorem dX8_countMends_108 : decode cX8_countMends 108 = .ok (.goto (-35), 3) := by decide +kernel
theorem dX8_countMends_111 : decode cX8_countMends 111 = .ok (.iload 4, 2) := by decide +kernel
theorem dX8_countMends_113 : decode cX8_countMends 113 = .ok (.ireturn, 1) := by decide +kernel
set_option maxRecDepth 20000 in
theorem ggX8_allCalm_X5_rowAt : GoodIn wsX8_allCalm wsX5_rowAt := goodIn_r _ [6, 7, 113, 114, 115, 116, 117, 118, 119, 120, 121, 122, 123] (by decide +kernel) (by decide +kernel)
set_option maxRecDepth 20000 in
theorem gX8_allCalm_X5_rowAt : GoodIn wsX8_allCalm (wsV RX8 192 RX5 yX5_rowAt wsX5_rowAt) := goodIn_app (goodIn_of _ (by decide +kernel)) ggX8_allCalm_X5_rowAt
set_option maxRecDepth 20000 in
theorem ggX8_allCalm_X8_tryRow : GoodIn wsX8_allCalm wsX8_tryRow := goodIn_r _ [12, 13, 14, 15, 16, 17, 18, 19, 20, 21, 22, 23, 24, 25, 26, 27, 28, 29, 30, 31, 32, 33, 34, 35, 36, 37, 38, 39, 40, 41, 42, 43, 44, 45, 46, 47, 48, 49, 50, 51, 52, 53, 54, 55, 56, 57, 58, 59, 60, 61, 62, 63, 64, 65, 66, 67, 68, 69, 70, 71, 72, 73, 74, 75, 76, 77, 78, 79, 80, 81, 82, 83, 84, 85, 86, 87, 88, 89, 90, 91, 92, 93, 94, 95, 96, 97, 98, 99, 100, 101, 102, 103, 104, 105, 106, 107, 108, 109, 110, 111, 112, 124, 125, 126, 127, 128, 129, 130, 131, 132, 133, 134, 135, 136, 137, 138, 139, 140, 141, 142, 143, 144, 145] (by decide +kernel) (by decide +kernel)
set_option maxRecDepth 20000 in
theorem gX8_allCalm_X8_tryRow : GoodIn wsX8_allCalm (wsV RX8 195 RX8 yX8_tryRow wsX8_tryRow) := goodIn_app (goodIn_of _ (by decide +kernel)) ggX8_allCalm_X8_tryRow
theorem dX8_allCalm_0 : decode cX8_allCalm 0 = .ok (.iconst 0, 1) := by decide +kernel
theorem dX8_allCalm_1 : decode cX8_allCalm 1 = .ok (.istore_n 1, 1) := by decide +kernel
theorem dX8_allCalm_2 : decode cX8_allCalm 2 = .ok (.iload_n 1, 1) := by decide +kernel
theorem dX8_allCalm_3 : decode cX8_allCalm 3 = .ok (.aload_n 0, 1) := by decide +kernel
theorem dX8_allCalm_4 : decode cX8_allCalm 4 = .ok (.getfield 58, 3) := by decide +kernel
theorem dX8_allCalm_7 : decode cX8_allCalm 7 = .ok (.getfield 227, 3) := by decide +kernel
theorem dX8_allCalm_10 : decode cX8_allCalm 10 = .ok (.if_icmp .ge 33, 3) := by decide +kernel
theorem dX8_allCalm_13 : decode cX8_allCalm 13 = .ok (.aload_n 0, 1) := by decide +kernel
theorem dX8_allCalm_14 : decode cX8_allCalm 14 = .ok (.aload_n 0, 1) := by decide +kernel
theorem dX8_allCalm_15 : decode cX8_allCalm 15 = .ok (.getfield 58, 3) := by decide +kernel
theorem dX8_allCalm_18 : decode cX8_allCalm 18 = .ok (.getfield 230, 3) := by decide +kernel
theorem dX8_allCalm_21 : decode cX8_allCalm 21 = .ok (.aload_n 0, 1) := by decide +kernel
theorem dX8_allCalm_22 : decode cX8_allCalm 22 = .ok (.getfield 58, 3) := by decide +kernel
theorem dX8_allCalm_25 : decode cX8_allCalm 25 = .ok (.iload_n 1, 1) := by decide +kernel
theorem dX8_allCalm_26 : decode cX8_allCalm 26 = .ok (.invokevirtual 192, 3) := by decide +kernel
theorem dX8_allCalm_29 : decode cX8_allCalm 29 = .ok (.invokevirtual 195, 3) := by decide +kernel
theorem dX8_allCalm_32 : decode cX8_allCalm 32 = .ok (.ifCond .eq 5, 3) := by decide +kernel
theorem dX8_allCalm_35 : decode cX8_allCalm 35 = .ok (.iconst 0, 1) := by decide +kernel
theorem dX8_allCalm_36 : decode cX8_allCalm 36 = .ok (.ireturn, 1) := by decide +kernel
theorem dX8_allCalm_37 : decode cX8_allCalm 37 = .ok (.iinc 1 1, 3) := by decide +kernel
theorem dX8_allCalm_40 : decode cX8_allCalm 40 = .ok (.goto (-38), 3) := by decide +kernel
theorem dX8_allCalm_43 : decode cX8_allCalm 43 = .ok (.iconst 1, 1) := by decide +kernel
theorem dX8_allCalm_44 : decode cX8_allCalm 44 = .ok (.ireturn, 1) := by decide +kernel
set_option maxRecDepth 20000 in
theorem ggX8_tryTargets_X7_cell : GoodIn wsX8_tryTargets wsX7_cell := goodIn_r _ [8, 9, 144, 145, 146, 147, 148, 149, 150, 151, 152] (by decide +kernel) (by decide +kernel)
set_option maxRecDepth 20000 in
theorem gX8_tryTargets_X7_cell : GoodIn wsX8_tryTargets (wsV RX8 147 RX7 yX7_cell wsX7_cell) := goodIn_app (goodIn_of _ (by decide +kernel)) ggX8_tryTargets_X7_cell
set_option maxRecDepth 20000 in
theorem ggX8_tryTargets_X7_sizeOf : GoodIn wsX8_tryTargets wsX7_sizeOf := goodIn_r _ [13, 14, 144, 145, 146, 147, 148, 149, 150, 151, 152] (by decide +kernel) (by decide +kernel)
set_option maxRecDepth 20000 in
theorem gX8_tryTargets_X7_sizeOf : GoodIn wsX8_tryTargets (wsV RX8 140 RX7 yX7_sizeOf wsX7_sizeOf) := goodIn_app (goodIn_of _ (by decide +kernel)) ggX8_tryTargets_X7_sizeOf
set_option maxRecDepth 20000 in
theorem ggX8_tryTargets_X7_setCell : GoodIn wsX8_tryTargets wsX7_setCell := goodIn_r _ [18, 9, 144, 145, 146, 147, 148, 149, 150, 151, 152] (by decide +kernel) (by decide +kernel)
set_option maxRecDepth 20000 in
theorem gX8_tryTargets_X7_setCell : GoodIn wsX8_tryTargets (wsV RX8 233 RX7 yX7_setCell wsX7_setCell) := goodIn_app (goodIn_of _ (by decide +kernel)) ggX8_tryTargets_X7_setCell
set_option maxRecDepth 20000 in
theorem ggX8_tryTargets_X8_allCalm : GoodIn wsX8_tryTargets wsX8_allCalm := goodIn_r _ [23, 2, 24, 25, 26, 27, 28, 29, 30, 31, 32, 22, 33, 34, 1, 35, 36, 37, 38, 39, 40, 41, 42, 43, 44, 45, 46, 47, 48, 49, 50, 51, 52, 53, 54, 55, 56, 57, 58, 7, 59, 60, 61, 62, 63, 64, 65, 66, 67, 68, 69, 70, 71, 72, 73, 74, 75, 76, 77, 78, 5, 6, 8, 9, 79, 80, 81, 82, 83, 84, 85, 86, 87, 88, 89, 11, 12, 13, 14, 90, 91, 92, 93, 94, 95, 96, 97, 98, 99, 100, 101, 102, 103, 104, 105, 106, 107, 108, 109, 110, 120, 121, 122, 123, 124, 125, 126, 127, 128, 129, 130, 131, 132, 133, 134, 135, 136, 137, 138, 139, 140, 141, 142, 143, 153, 154, 155, 156, 157, 158, 159, 160, 161, 162, 163, 164, 144, 145, 146, 147, 148, 149, 150, 151, 152, 165] (by decide +kernel) (by decide +kernel)
set_option maxRecDepth 20000 in
theorem gX8_tryTargets_X8_allCalm : GoodIn wsX8_tryTargets (wsV RX8 237 RX8 yX8_allCalm wsX8_allCalm) := goodIn_app (goodIn_of _ (by decide +kernel)) ggX8_tryTargets_X8_allCalm
set_option maxRecDepth 20000 in
theorem ggX8_tryTargets_X1_add : GoodIn wsX8_tryTargets wsX1_add := goodIn_r _ [115, 116, 117, 118, 119, 166, 167, 168, 169] (by decide +kernel) (by decide +kernel)
set_option maxRecDepth 20000 in
theorem gX8_tryTargets_X1_add : GoodIn wsX8_tryTargets (wsV RX8 240 RX1 yX1_add wsX1_add) := goodIn_app (goodIn_of _ (by decide +kernel)) ggX8_tryTargets_X1_add
theorem dX8_tryTargets_0 : decode cX8_tryTargets 0 = .ok (.aload_n 0, 1) := by decide +kernel
theorem dX8_tryTargets_1 : decode cX8_tryTargets 1 = .ok (.getfield 12, 3) := by decide +kernel
theorem dX8_tryTargets_4 : decode cX8_tryTargets 4 = .ok (.aload_n 0, 1) := by decide +kernel
theorem dX8_tryTargets_5 : decode cX8_tryTargets 5 = .ok (.getfield 58, 3) := by decide +kernel
theorem dX8_tryTargets_8 : decode cX8_tryTargets 8 = .ok (.getfield 230, 3) := by decide +kernel
theorem dX8_tryTargets_11 : decode cX8_tryTargets 11 = .ok (.iload_n 2, 1) := by decide +kernel
theorem dX8_tryTargets_12 : decode cX8_tryTargets 12 = .ok (.iload_n 3, 1) := by decide +kernel
theorem dX8_tryTargets_13 : decode cX8_tryTargets 13 = .ok (.invokevirtual 147, 3) := by decide +kernel
theorem dX8_tryTargets_16 : decode cX8_tryTargets 16 = .ok (.istore 4, 2) := by decide +kernel
theorem dX8_tryTargets_18 : decode cX8_tryTargets 18 = .ok (.iconst 0, 1) := by decide +kernel
theorem dX8_tryTargets_19 : decode cX8_tryTargets 19 = .ok (.istore 5, 2) := by decide +kernel
theorem dX8_tryTargets_21 : decode cX8_tryTargets 21 = .ok (.iload 5, 2) := by decide +kernel
theorem dX8_tryTargets_23 : decode cX8_tryTargets 23 = .ok (.aload_n 0, 1) := by decide +kernel
theorem dX8_tryTargets_24 : decode cX8_tryTargets 24 = .ok (.getfield 12, 3) := by decide +kernel
theorem dX8_tryTargets_27 : decode cX8_tryTargets 27 = .ok (.aload_n 0, 1) := by decide +kernel
theorem dX8_tryTargets_28 : decode cX8_tryTargets 28 = .ok (.getfield 58, 3) := by decide +kernel
theorem dX8_tryTargets_31 : decode cX8_tryTargets 31 = .ok (.getfield 230, 3) := by decide +kernel
theorem dX8_tryTargets_34 : decode cX8_tryTargets 34 = .ok (.invokevirtual 140, 3) := by decide +kernel
theorem dX8_tryTargets_37 : decode cX8_tryTargets 37 = .ok (.if_icmp .ge 52, 3) := by decide +kernel
theorem dX8_tryTargets_40 : decode cX8_tryTargets 40 = .ok (.aload_n 0, 1) := by decide +kernel
theorem dX8_tryTargets_41 : decode cX8_tryTargets 41 = .ok (.getfield 12, 3) := by decide +kernel
theorem dX8_tryTargets_44 : decode cX8_tryTargets 44 = .ok (.aload_n 0, 1) := by decide +kernel
theorem dX8_tryTargets_45 : decode cX8_tryTargets 45 = .ok (.getfield 58, 3) := by decide +kernel
theorem dX8_tryTargets_48 : decode cX8_tryTargets 48 = .ok (.getfield 230, 3) := by decide +kernel
theorem dX8_tryTargets_51 : decode cX8_tryTargets 51 = .ok (.iload_n 2, 1) := by decide +kernel
theorem dX8_tryTargets_52 : decode cX8_tryTargets 52 = .ok (.iload_n 3, 1) := by decide +kernel
theorem dX8_tryTargets_53 : decode cX8_tryTargets 53 = .ok (.iload 5, 2) := by decide +kernel
theorem dX8_tryTargets_55 : decode cX8_tryTargets 55 = .ok (.invokevirtual 233, 3) := by decide +kernel
theorem dX8_tryTargets_58 : decode cX8_tryTargets 58 = .ok (.iload 5, 2) := by decide +kernel
theorem dX8_tryTargets_60 : decode cX8_tryTargets 60 = .ok (.iload 4, 2) := by decide +kernel
theorem dX8_tryTargets_62 : decode cX8_tryTargets 62 = .ok (.if_icmp .eq 21, 3) := by decide +kernel
theorem dX8_tryTargets_65 : decode cX8_tryTargets 65 = .ok (.aload_n 0, 1) := by decide +kernel
theorem dX8_tryTargets_66 : decode cX8_tryTargets 66 = .ok (.invokevirtual 237, 3) := by decide +kernel
theorem dX8_tryTargets_69 : decode cX8_tryTargets 69 = .ok (.ifCond .eq 14, 3) := by decide +kernel
theorem dX8_tryTargets_72 : decode cX8_tryTargets 72 = .ok (.aload_n 0, 1) := by decide +kernel
theorem dX8_tryTargets_73 : decode cX8_tryTargets 73 = .ok (.getfield 65, 3) := by decide +kernel
theorem dX8_tryTargets_76 : decode cX8_tryTargets 76 = .ok (.iload_n 1, 1) := by decide +kernel
theorem dX8_tryTargets_77 : decode cX8_tryTargets 77 = .ok (.iload_n 2, 1) := by decide +kernel
theorem dX8_tryTargets_78 : decode cX8_tryTargets 78 = .ok (.iload 5, 2) := by decide +kernel
theorem dX8_tryTargets_80 : decode cX8_tryTargets 80 = .ok (.invokevirtual 240, 3) := by decide +kernel
theorem dX8_tryTargets_83 : decode cX8_tryTargets 83 = .ok (.iinc 5 1, 3) := by decide +kernel
theorem dX8_tryTargets_86 : decode cX8_tryTargets 86 = .ok (.goto (-65), 3) := by decide +kernel
theorem dX8_tryTargets_89 : decode cX8_tryTargets 89 = .ok (.aload_n 0, 1) := by decide +kernel
theorem dX8_tryTargets_90 : decode cX8_tryTargets 90 = .ok (.getfield 12, 3) := by decide +kernel
theorem dX8_tryTargets_93 : decode cX8_tryTargets 93 = .ok (.aload_n 0, 1) := by decide +kernel
theorem dX8_tryTargets_94 : decode cX8_tryTargets 94 = .ok (.getfield 58, 3) := by decide +kernel
theorem dX8_tryTargets_97 : decode cX8_tryTargets 97 = .ok (.getfield 230, 3) := by decide +kernel
theorem dX8_tryTargets_100 : decode cX8_tryTargets 100 = .ok (.iload_n 2, 1) := by decide +kernel
theorem dX8_tryTargets_101 : decode cX8_tryTargets 101 = .ok (.iload_n 3, 1) := by decide +kernel
theorem dX8_tryTargets_102 : decode cX8_tryTargets 102 = .ok (.iload 4, 2) := by decide +kernel
theorem dX8_tryTargets_104 : decode cX8_tryTargets 104 = .ok (.invokevirtual 233, 3) := by decide +kernel
theorem dX8_tryTargets_107 : decode cX8_tryTargets 107 = .ok (.return_, 1) := by decide +kernel
set_option maxRecDepth 20000 in
theorem ggX8_trySkills_X7_skillsOf : GoodIn wsX8_trySkills wsX7_skillsOf := goodIn_r _ [7, 8, 136, 137, 138, 139, 140, 141, 142, 143, 144] (by decide +kernel) (by decide +kernel)
set_option maxRecDepth 20000 in
theorem gX8_trySkills_X7_skillsOf : GoodIn wsX8_trySkills (wsV RX8 224 RX7 yX7_skillsOf wsX7_skillsOf) := goodIn_app (goodIn_of _ (by decide +kernel)) ggX8_trySkills_X7_skillsOf
set_option maxRecDepth 20000 in
theorem ggX8_trySkills_X7_setSkills : GoodIn wsX8_trySkills wsX7_setSkills := goodIn_r _ [12, 8, 136, 137, 138, 139, 140, 141, 142, 143, 144] (by decide +kernel) (by decide +kernel)
set_option maxRecDepth 20000 in
theorem gX8_trySkills_X7_setSkills : GoodIn wsX8_trySkills (wsV RX8 107 RX7 yX7_setSkills wsX7_setSkills) := goodIn_app (goodIn_of _ (by decide +kernel)) ggX8_trySkills_X7_setSkills
set_option maxRecDepth 20000 in
theorem ggX8_trySkills_X8_allCalm : GoodIn wsX8_trySkills wsX8_allCalm := goodIn_r _ [17, 18, 19, 20, 21, 22, 23, 24, 25, 26, 27, 16, 28, 29, 1, 30, 31, 32, 33, 34, 35, 36, 37, 38, 39, 40, 41, 42, 43, 44, 45, 46, 47, 48, 49, 50, 51, 52, 53, 6, 54, 55, 56, 57, 58, 59, 60, 61, 62, 63, 64, 65, 66, 67, 68, 69, 70, 71, 72, 73, 74, 75, 76, 77, 78, 79, 80, 81, 82, 83, 84, 85, 86, 87, 88, 89, 90, 91, 92, 93, 94, 95, 96, 97, 98, 99, 100, 101, 102, 103, 104, 105, 106, 107, 108, 109, 110, 111, 112, 113, 123, 124, 125, 126, 127, 128, 129, 130, 131, 132, 133, 134, 135, 145, 146, 147, 148, 149, 150, 151, 152, 153, 154, 155, 156, 157, 158, 159, 160, 161, 162, 163, 164, 165, 166, 167, 136, 137, 138, 139, 140, 141, 142, 143, 144, 168] (by decide +kernel) (by decide +kernel)
set_option maxRecDepth 20000 in
theorem gX8_trySkills_X8_allCalm : GoodIn wsX8_trySkills (wsV RX8 237 RX8 yX8_allCalm wsX8_allCalm) := goodIn_app (goodIn_of _ (by decide +kernel)) ggX8_trySkills_X8_allCalm
set_option maxRecDepth 20000 in
theorem ggX8_trySkills_X1_add : GoodIn wsX8_trySkills wsX1_add := goodIn_r _ [118, 119, 120, 121, 122, 169, 170, 171, 172] (by decide +kernel) (by decide +kernel)
set_option maxRecDepth 20000 in
theorem gX8_trySkills_X1_add : GoodIn wsX8_trySkills (wsV RX8 240 RX1 yX1_add wsX1_add) := goodIn_app (goodIn_of _ (by decide +kernel)) ggX8_trySkills_X1_add
theorem dX8_trySkills_0 : decode cX8_trySkills 0 = .ok (.aload_n 0, 1) := by decide +kernel
theorem dX8_trySkills_1 : decode cX8_trySkills 1 = .ok (.getfield 12, 3) := by decide +kernel
theorem dX8_trySkills_4 : decode cX8_trySkills 4 = .ok (.iload_n 1, 1) := by decide +kernel
theorem dX8_trySkills_5 : decode cX8_trySkills 5 = .ok (.invokevirtual 224, 3) := by decide +kernel
theorem dX8_trySkills_8 : decode cX8_trySkills 8 = .ok (.istore_n 2, 1) := by decide +kernel
theorem dX8_trySkills_9 : decode cX8_trySkills 9 = .ok (.iconst 0, 1) := by decide +kernel
theorem dX8_trySkills_10 : decode cX8_trySkills 10 = .ok (.istore_n 3, 1) := by decide +kernel
theorem dX8_trySkills_11 : decode cX8_trySkills 11 = .ok (.iload_n 3, 1) := by decide +kernel
theorem dX8_trySkills_12 : decode cX8_trySkills 12 = .ok (.bipush 8, 2) := by decide +kernel
theorem dX8_trySkills_14 : decode cX8_trySkills 14 = .ok (.if_icmp .ge 49, 3) := by decide +kernel
theorem dX8_trySkills_17 : decode cX8_trySkills 17 = .ok (.iload_n 2, 1) := by decide +kernel
theorem dX8_trySkills_18 : decode cX8_trySkills 18 = .ok (.iconst 1, 1) := by decide +kernel
theorem dX8_trySkills_19 : decode cX8_trySkills 19 = .ok (.iload_n 3, 1) := by decide +kernel
theorem dX8_trySkills_20 : decode cX8_trySkills 20 = .ok (.ishl, 1) := by decide +kernel
theorem dX8_trySkills_21 : decode cX8_trySkills 21 = .ok (.ior, 1) := by decide +kernel
theorem dX8_trySkills_22 : decode cX8_trySkills 22 = .ok (.istore 4, 2) := by decide +kernel
theorem dX8_trySkills_24 : decode cX8_trySkills 24 = .ok (.aload_n 0, 1) := by decide +kernel
theorem dX8_trySkills_25 : decode cX8_trySkills 25 = .ok (.getfield 12, 3) := by decide +kernel
theorem dX8_trySkills_28 : decode cX8_trySkills 28 = .ok (.iload_n 1, 1) := by decide +kernel
theorem dX8_trySkills_29 : decode cX8_trySkills 29 = .ok (.iload 4, 2) := by decide +kernel
theorem dX8_trySkills_31 : decode cX8_trySkills 31 = .ok (.invokevirtual 107, 3) := by decide +kernel
theorem dX8_trySkills_34 : decode cX8_trySkills 34 = .ok (.iload 4, 2) := by decide +kernel
theorem dX8_trySkills_36 : decode cX8_trySkills 36 = .ok (.iload_n 2, 1) := by decide +kernel
theorem dX8_trySkills_37 : decode cX8_trySkills 37 = .ok (.if_icmp .eq 20, 3) := by decide +kernel
theorem dX8_trySkills_40 : decode cX8_trySkills 40 = .ok (.aload_n 0, 1) := by decide +kernel
theorem dX8_trySkills_41 : decode cX8_trySkills 41 = .ok (.invokevirtual 237, 3) := by decide +kernel
theorem dX8_trySkills_44 : decode cX8_trySkills 44 = .ok (.ifCond .eq 13, 3) := by decide +kernel
theorem dX8_trySkills_47 : decode cX8_trySkills 47 = .ok (.aload_n 0, 1) := by decide +kernel
theorem dX8_trySkills_48 : decode cX8_trySkills 48 = .ok (.getfield 65, 3) := by decide +kernel
theorem dX8_trySkills_51 : decode cX8_trySkills 51 = .ok (.iconst 3, 1) := by decide +kernel
theorem dX8_trySkills_52 : decode cX8_trySkills 52 = .ok (.iload_n 1, 1) := by decide +kernel
theorem dX8_trySkills_53 : decode cX8_trySkills 53 = .ok (.iload_n 3, 1) := by decide +kernel
theorem dX8_trySkills_54 : decode cX8_trySkills 54 = .ok (.invokevirtual 240, 3) := by decide +kernel
theorem dX8_trySkills_57 : decode cX8_trySkills 57 = .ok (.iinc 3 1, 3) := by decide +kernel
theorem dX8_trySkills_60 : decode cX8_trySkills 60 = .ok (.goto (-49), 3) := by decide +kernel
theorem dX8_trySkills_63 : decode cX8_trySkills 63 = .ok (.aload_n 0, 1) := by decide +kernel
theorem dX8_trySkills_64 : decode cX8_trySkills 64 = .ok (.getfield 12, 3) := by decide +kernel
theorem dX8_trySkills_67 : decode cX8_trySkills 67 = .ok (.iload_n 1, 1) := by decide +kernel
theorem dX8_trySkills_68 : decode cX8_trySkills 68 = .ok (.iload_n 2, 1) := by decide +kernel
theorem dX8_trySkills_69 : decode cX8_trySkills 69 = .ok (.invokevirtual 107, 3) := by decide +kernel
theorem dX8_trySkills_72 : decode cX8_trySkills 72 = .ok (.return_, 1) := by decide +kernel
set_option maxRecDepth 20000 in
theorem ggX8_mends_X8_refuse : GoodIn wsX8_mends wsX8_refuse := goodIn_r _ [8, 9, 161, 162, 163, 164, 165, 166, 167, 168, 169, 170, 171, 172, 173] (by decide +kernel) (by decide +kernel)
set_option maxRecDepth 20000 in
theorem gX8_mends_X8_refuse : GoodIn wsX8_mends (wsV RX8 87 RX8 yX8_refuse wsX8_refuse) := goodIn_app (goodIn_of _ (by decide +kernel)) ggX8_mends_X8_refuse
set_option maxRecDepth 20000 in
theorem ggX8_mends_X8_countMends : GoodIn wsX8_mends wsX8_countMends := goodIn_r _ [13, 3, 14, 15, 16, 17, 18, 19, 20, 21, 22, 23, 24, 25, 26, 27, 28, 29, 30, 31, 32, 33, 34, 35, 36, 161, 162, 163, 164, 165, 166, 167, 168, 169, 170, 171, 172, 173, 185, 186, 187, 188, 189, 190, 191, 192, 193] (by decide +kernel) (by decide +kernel)
set_option maxRecDepth 20000 in
theorem gX8_mends_X8_countMends : GoodIn wsX8_mends (wsV RX8 245 RX8 yX8_countMends wsX8_countMends) := goodIn_app (goodIn_of _ (by decide +kernel)) ggX8_mends_X8_countMends
set_option maxRecDepth 20000 in
theorem ggX8_mends_X1_forget : GoodIn wsX8_mends wsX1_forget := goodIn_r _ [41, 42, 43, 44, 45, 194, 195, 196, 197] (by decide +kernel) (by decide +kernel)
set_option maxRecDepth 20000 in
theorem gX8_mends_X1_forget : GoodIn wsX8_mends (wsV RX8 248 RX1 yX1_forget wsX1_forget) := goodIn_app (goodIn_of _ (by decide +kernel)) ggX8_mends_X1_forget
set_option maxRecDepth 20000 in
theorem ggX8_mends_X8_accept : GoodIn wsX8_mends wsX8_accept := goodIn_r _ [49, 9, 161, 162, 163, 164, 165, 166, 167, 168, 169, 170, 171, 172, 173] (by decide +kernel) (by decide +kernel)
set_option maxRecDepth 20000 in
theorem gX8_mends_X8_accept : GoodIn wsX8_mends (wsV RX8 91 RX8 yX8_accept wsX8_accept) := goodIn_app (goodIn_of _ (by decide +kernel)) ggX8_mends_X8_accept
set_option maxRecDepth 20000 in
theorem ggX8_mends_X7_sizeOf : GoodIn wsX8_mends wsX7_sizeOf := goodIn_r _ [18, 19, 185, 186, 187, 188, 189, 190, 191, 192, 193] (by decide +kernel) (by decide +kernel)
set_option maxRecDepth 20000 in
theorem gX8_mends_X7_sizeOf : GoodIn wsX8_mends (wsV RX8 140 RX7 yX7_sizeOf wsX7_sizeOf) := goodIn_app (goodIn_of _ (by decide +kernel)) ggX8_mends_X7_sizeOf
set_option maxRecDepth 20000 in
theorem ggX8_mends_X7_cell : GoodIn wsX8_mends wsX7_cell := goodIn_r _ [23, 24, 185, 186, 187, 188, 189, 190, 191, 192, 193] (by decide +kernel) (by decide +kernel)
set_option maxRecDepth 20000 in
theorem gX8_mends_X7_cell : GoodIn wsX8_mends (wsV RX8 147 RX7 yX7_cell wsX7_cell) := goodIn_app (goodIn_of _ (by decide +kernel)) ggX8_mends_X7_cell
set_option maxRecDepth 20000 in
theorem ggX8_mends_X8_tryTargets : GoodIn wsX8_mends wsX8_tryTargets := goodIn_r _ [53, 3, 1, 2, 20, 21, 22, 17, 23, 24, 14, 15, 16, 18, 19, 54, 55, 56, 57, 58, 59, 60, 7, 61, 62, 63, 64, 65, 66, 67, 68, 69, 70, 71, 72, 73, 74, 75, 76, 77, 78, 79, 80, 81, 82, 83, 84, 85, 86, 87, 88, 89, 90, 91, 92, 93, 94, 95, 96, 97, 98, 99, 100, 101, 102, 103, 104, 105, 106, 107, 108, 109, 110, 111, 112, 113, 114, 115, 116, 117, 118, 119, 120, 121, 122, 123, 124, 125, 126, 127, 128, 129, 130, 131, 132, 133, 134, 135, 136, 137, 138, 139, 140, 141, 142, 143, 144, 145, 146, 147, 148, 149, 150, 151, 40, 152, 42, 43, 44, 45, 161, 162, 163, 164, 165, 166, 167, 168, 169, 170, 171, 172, 173, 174, 175, 176, 177, 178, 179, 180, 181, 182, 183, 184, 185, 186, 187, 188, 189, 190, 191, 192, 193, 198, 199, 200, 201, 202, 203, 204, 205, 206, 207, 208, 209, 210, 194, 195, 196, 197] (by decide +kernel) (by decide +kernel)
set_option maxRecDepth 20000 in
theorem gX8_mends_X8_tryTargets : GoodIn wsX8_mends (wsV RX8 251 RX8 yX8_tryTargets wsX8_tryTargets) := goodIn_app (goodIn_of _ (by decide +kernel)) ggX8_mends_X8_tryTargets
set_option maxRecDepth 20000 in
theorem ggX8_mends_X8_trySkills : GoodIn wsX8_mends wsX8_trySkills := goodIn_r _ [156, 3, 2, 25, 26, 27, 17, 28, 29, 157, 158, 159, 160, 58, 59, 60, 7, 61, 1, 62, 63, 64, 65, 66, 67, 68, 69, 70, 71, 72, 73, 74, 75, 76, 77, 78, 79, 80, 81, 82, 83, 84, 85, 86, 87, 88, 89, 90, 91, 92, 93, 94, 95, 96, 97, 98, 99, 100, 101, 102, 103, 104, 105, 106, 107, 108, 109, 110, 111, 112, 113, 114, 115, 116, 21, 22, 23, 24, 117, 118, 119, 120, 121, 122, 123, 124, 125, 126, 127, 15, 16, 18, 19, 128, 129, 130, 131, 132, 133, 134, 135, 136, 137, 138, 139, 140, 141, 142, 143, 144, 145, 146, 147, 148, 149, 150, 151, 40, 152, 42, 43, 44, 45, 161, 162, 163, 164, 165, 166, 167, 168, 169, 170, 171, 172, 173, 185, 186, 187, 188, 189, 190, 191, 192, 193, 174, 175, 176, 177, 178, 179, 180, 181, 182, 183, 184, 198, 199, 200, 201, 202, 203, 204, 205, 206, 207, 208, 209, 210, 194, 195, 196, 197] (by decide +kernel) (by decide +kernel)
set_option maxRecDepth 20000 in
theorem gX8_mends_X8_trySkills : GoodIn wsX8_mends (wsV RX8 254 RX8 yX8_trySkills wsX8_trySkills) := goodIn_app (goodIn_of _ (by decide +kernel)) ggX8_mends_X8_trySkills
theorem dX8_mends_0 : decode cX8_mends 0 = .ok (.aload_n 0, 1) := by decide +kernel
theorem dX8_mends_1 : decode cX8_mends 1 = .ok (.getfield 58, 3) := by decide +kernel
theorem dX8_mends_4 : decode cX8_mends 4 = .ok (.getfield 241, 3) := by decide +kernel
theorem dX8_mends_7 : decode cX8_mends 7 = .ok (.ifCond .ne 9, 3) := by decide +kernel
theorem dX8_mends_10 : decode cX8_mends 10 = .ok (.aload_n 0, 1) := by decide +kernel
theorem dX8_mends_11 : decode cX8_mends 11 = .ok (.iconst 5, 1) := by decide +kernel
theorem dX8_mends_12 : decode cX8_mends 12 = .ok (.invokevirtual 87, 3) := by decide +kernel
theorem dX8_mends_15 : decode cX8_mends 15 = .ok (.ireturn, 1) := by decide +kernel
theorem dX8_mends_16 : decode cX8_mends 16 = .ok (.aload_n 0, 1) := by decide +kernel
theorem dX8_mends_17 : decode cX8_mends 17 = .ok (.getfield 58, 3) := by decide +kernel
theorem dX8_mends_20 : decode cX8_mends 20 = .ok (.getfield 206, 3) := by decide +kernel
theorem dX8_mends_23 : decode cX8_mends 23 = .ok (.ifCond .le 34, 3) := by decide +kernel
theorem dX8_mends_26 : decode cX8_mends 26 = .ok (.aload_n 0, 1) := by decide +kernel
theorem dX8_mends_27 : decode cX8_mends 27 = .ok (.aload_n 0, 1) := by decide +kernel
theorem dX8_mends_28 : decode cX8_mends 28 = .ok (.getfield 58, 3) := by decide +kernel
theorem dX8_mends_31 : decode cX8_mends 31 = .ok (.getfield 230, 3) := by decide +kernel
theorem dX8_mends_34 : decode cX8_mends 34 = .ok (.invokevirtual 245, 3) := by decide +kernel
theorem dX8_mends_37 : decode cX8_mends 37 = .ok (.aload_n 0, 1) := by decide +kernel
theorem dX8_mends_38 : decode cX8_mends 38 = .ok (.getfield 58, 3) := by decide +kernel
theorem dX8_mends_41 : decode cX8_mends 41 = .ok (.getfield 227, 3) := by decide +kernel
theorem dX8_mends_44 : decode cX8_mends 44 = .ok (.imul, 1) := by decide +kernel
theorem dX8_mends_45 : decode cX8_mends 45 = .ok (.sipush 20000, 3) := by decide +kernel
theorem dX8_mends_48 : decode cX8_mends 48 = .ok (.if_icmp .le 9, 3) := by decide +kernel
theorem dX8_mends_51 : decode cX8_mends 51 = .ok (.aload_n 0, 1) := by decide +kernel
theorem dX8_mends_52 : decode cX8_mends 52 = .ok (.iconst 3, 1) := by decide +kernel
theorem dX8_mends_53 : decode cX8_mends 53 = .ok (.invokevirtual 87, 3) := by decide +kernel
theorem dX8_mends_56 : decode cX8_mends 56 = .ok (.ireturn, 1) := by decide +kernel
theorem dX8_mends_57 : decode cX8_mends 57 = .ok (.aload_n 0, 1) := by decide +kernel
theorem dX8_mends_58 : decode cX8_mends 58 = .ok (.getfield 65, 3) := by decide +kernel
theorem dX8_mends_61 : decode cX8_mends 61 = .ok (.invokevirtual 248, 3) := by decide +kernel
theorem dX8_mends_64 : decode cX8_mends 64 = .ok (.aload_n 0, 1) := by decide +kernel
theorem dX8_mends_65 : decode cX8_mends 65 = .ok (.getfield 58, 3) := by decide +kernel
theorem dX8_mends_68 : decode cX8_mends 68 = .ok (.getfield 206, 3) := by decide +kernel
theorem dX8_mends_71 : decode cX8_mends 71 = .ok (.ifCond .ne 9, 3) := by decide +kernel
theorem dX8_mends_74 : decode cX8_mends 74 = .ok (.aload_n 0, 1) := by decide +kernel
theorem dX8_mends_75 : decode cX8_mends 75 = .ok (.iconst 0, 1) := by decide +kernel
theorem dX8_mends_76 : decode cX8_mends 76 = .ok (.invokevirtual 91, 3) := by decide +kernel
theorem dX8_mends_79 : decode cX8_mends 79 = .ok (.ireturn, 1) := by decide +kernel
theorem dX8_mends_80 : decode cX8_mends 80 = .ok (.iconst 0, 1) := by decide +kernel
theorem dX8_mends_81 : decode cX8_mends 81 = .ok (.istore_n 1, 1) := by decide +kernel
theorem dX8_mends_82 : decode cX8_mends 82 = .ok (.iload_n 1, 1) := by decide +kernel
theorem dX8_mends_83 : decode cX8_mends 83 = .ok (.aload_n 0, 1) := by decide +kernel
theorem dX8_mends_84 : decode cX8_mends 84 = .ok (.getfield 12, 3) := by decide +kernel
theorem dX8_mends_87 : decode cX8_mends 87 = .ok (.aload_n 0, 1) := by decide +kernel
theorem dX8_mends_88 : decode cX8_mends 88 = .ok (.getfield 58, 3) := by decide +kernel
theorem dX8_mends_91 : decode cX8_mends 91 = .ok (.getfield 230, 3) := by decide +kernel
theorem dX8_mends_94 : decode cX8_mends 94 = .ok (.invokevirtual 140, 3) := by decide +kernel
theorem dX8_mends_97 : decode cX8_mends 97 = .ok (.if_icmp .ge 60, 3) := by decide +kernel
theorem dX8_mends_100 : decode cX8_mends 100 = .ok (.aload_n 0, 1) := by decide +kernel
theorem dX8_mends_101 : decode cX8_mends 101 = .ok (.getfield 12, 3) := by decide +kernel
theorem dX8_mends_104 : decode cX8_mends 104 = .ok (.aload_n 0, 1) := by decide +kernel
theorem dX8_mends_105 : decode cX8_mends 105 = .ok (.getfield 58, 3) := by decide +kernel
theorem dX8_mends_108 : decode cX8_mends 108 = .ok (.getfield 230, 3) := by decide +kernel
theorem dX8_mends_111 : decode cX8_mends 111 = .ok (.iload_n 1, 1) := by decide +kernel
theorem dX8_mends_112 : decode cX8_mends 112 = .ok (.iconst 0, 1) := by decide +kernel
theorem dX8_mends_113 : decode cX8_mends 113 = .ok (.invokevirtual 147, 3) := by decide +kernel
theorem dX8_mends_116 : decode cX8_mends 116 = .ok (.istore_n 2, 1) := by decide +kernel
theorem dX8_mends_117 : decode cX8_mends 117 = .ok (.iload_n 2, 1) := by decide +kernel
theorem dX8_mends_118 : decode cX8_mends 118 = .ok (.iconst 2, 1) := by decide +kernel
theorem dX8_mends_119 : decode cX8_mends 119 = .ok (.if_icmp .ne 20, 3) := by decide +kernel
theorem dX8_mends_122 : decode cX8_mends 122 = .ok (.aload_n 0, 1) := by decide +kernel
theorem dX8_mends_123 : decode cX8_mends 123 = .ok (.iconst 0, 1) := by decide +kernel
theorem dX8_mends_124 : decode cX8_mends 124 = .ok (.iload_n 1, 1) := by decide +kernel
theorem dX8_mends_125 : decode cX8_mends 125 = .ok (.iconst 2, 1) := by decide +kernel
theorem dX8_mends_126 : decode cX8_mends 126 = .ok (.invokevirtual 251, 3) := by decide +kernel
theorem dX8_mends_129 : decode cX8_mends 129 = .ok (.aload_n 0, 1) := by decide +kernel
theorem dX8_mends_130 : decode cX8_mends 130 = .ok (.iconst 1, 1) := by decide +kernel
theorem dX8_mends_131 : decode cX8_mends 131 = .ok (.iload_n 1, 1) := by decide +kernel
theorem dX8_mends_132 : decode cX8_mends 132 = .ok (.iconst 3, 1) := by decide +kernel
theorem dX8_mends_133 : decode cX8_mends 133 = .ok (.invokevirtual 251, 3) := by decide +kernel
theorem dX8_mends_136 : decode cX8_mends 136 = .ok (.goto 15, 3) := by decide +kernel
theorem dX8_mends_139 : decode cX8_mends 139 = .ok (.iload_n 2, 1) := by decide +kernel
theorem dX8_mends_140 : decode cX8_mends 140 = .ok (.iconst 4, 1) := by decide +kernel
theorem dX8_mends_141 : decode cX8_mends 141 = .ok (.if_icmp .ne 10, 3) := by decide +kernel
theorem dX8_mends_144 : decode cX8_mends 144 = .ok (.aload_n 0, 1) := by decide +kernel
theorem dX8_mends_145 : decode cX8_mends 145 = .ok (.iconst 2, 1) := by decide +kernel
theorem dX8_mends_146 : decode cX8_mends 146 = .ok (.iload_n 1, 1) := by decide +kernel
theorem dX8_mends_147 : decode cX8_mends 147 = .ok (.iconst 1, 1) := by decide +kernel
