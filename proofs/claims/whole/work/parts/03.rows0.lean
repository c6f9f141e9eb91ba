theorem dX0_init_0 : decode cX0_init 0 = .ok (.aload_n 0, 1) := by decide +kernel
theorem dX0_init_1 : decode cX0_init 1 = .ok (.invokespecial 3, 3) := by decide +kernel
theorem dX0_init_4 : decode cX0_init 4 = .ok (.aload_n 0, 1) := by decide +kernel
theorem dX0_init_5 : decode cX0_init 5 = .ok (.sipush 256, 3) := by decide +kernel
theorem dX0_init_8 : decode cX0_init 8 = .ok (.newarray .int, 2) := by decide +kernel
theorem dX0_init_10 : decode cX0_init 10 = .ok (.putfield 9, 3) := by decide +kernel
theorem dX0_init_13 : decode cX0_init 13 = .ok (.aload_n 0, 1) := by decide +kernel
theorem dX0_init_14 : decode cX0_init 14 = .ok (.sipush 256, 3) := by decide +kernel
theorem dX0_init_17 : decode cX0_init 17 = .ok (.newarray .int, 2) := by decide +kernel
theorem dX0_init_19 : decode cX0_init 19 = .ok (.putfield 15, 3) := by decide +kernel
theorem dX0_init_22 : decode cX0_init 22 = .ok (.aload_n 0, 1) := by decide +kernel
theorem dX0_init_23 : decode cX0_init 23 = .ok (.bipush 16, 2) := by decide +kernel
theorem dX0_init_25 : decode cX0_init 25 = .ok (.newarray .int, 2) := by decide +kernel
theorem dX0_init_27 : decode cX0_init 27 = .ok (.putfield 18, 3) := by decide +kernel
theorem dX0_init_30 : decode cX0_init 30 = .ok (.aload_n 0, 1) := by decide +kernel
theorem dX0_init_31 : decode cX0_init 31 = .ok (.iconst 0, 1) := by decide +kernel
theorem dX0_init_32 : decode cX0_init 32 = .ok (.putfield 21, 3) := by decide +kernel
theorem dX0_init_35 : decode cX0_init 35 = .ok (.aload_n 0, 1) := by decide +kernel
theorem dX0_init_36 : decode cX0_init 36 = .ok (.iconst 0, 1) := by decide +kernel
theorem dX0_init_37 : decode cX0_init 37 = .ok (.putfield 25, 3) := by decide +kernel
theorem dX0_init_40 : decode cX0_init 40 = .ok (.aload_n 0, 1) := by decide +kernel
theorem dX0_init_41 : decode cX0_init 41 = .ok (.iconst 0, 1) := by decide +kernel
theorem dX0_init_42 : decode cX0_init 42 = .ok (.putfield 28, 3) := by decide +kernel
theorem dX0_init_45 : decode cX0_init 45 = .ok (.return_, 1) := by decide +kernel
set_option maxRecDepth 20000 in
theorem ggX0_listSets_J6_bitCount_0f7a4 : GoodIn wsX0_listSets wsJ6_bitCount_0f7a4 := goodIn_r _ [4, 5, 6, 7] (by decide +kernel) (by decide +kernel)
set_option maxRecDepth 20000 in
theorem gX0_listSets_J6_bitCount_0f7a4 : GoodIn wsX0_listSets (va_wsS RX0 31 yJ6_bitCount_0f7a4 wsJ6_bitCount_0f7a4) := goodIn_app (goodIn_of _ (by decide +kernel)) ggX0_listSets_J6_bitCount_0f7a4
theorem dX0_listSets_0 : decode cX0_listSets 0 = .ok (.iconst 0, 1) := by decide +kernel
theorem dX0_listSets_1 : decode cX0_listSets 1 = .ok (.istore_n 3, 1) := by decide +kernel
theorem dX0_listSets_2 : decode cX0_listSets 2 = .ok (.iconst 0, 1) := by decide +kernel
theorem dX0_listSets_3 : decode cX0_listSets 3 = .ok (.istore 4, 2) := by decide +kernel
theorem dX0_listSets_5 : decode cX0_listSets 5 = .ok (.iload 4, 2) := by decide +kernel
theorem dX0_listSets_7 : decode cX0_listSets 7 = .ok (.aload_n 0, 1) := by decide +kernel
theorem dX0_listSets_8 : decode cX0_listSets 8 = .ok (.arraylength, 1) := by decide +kernel
theorem dX0_listSets_9 : decode cX0_listSets 9 = .ok (.if_icmp .ge 41, 3) := by decide +kernel
theorem dX0_listSets_12 : decode cX0_listSets 12 = .ok (.iload 4, 2) := by decide +kernel
theorem dX0_listSets_14 : decode cX0_listSets 14 = .ok (.iload_n 1, 1) := by decide +kernel
theorem dX0_listSets_15 : decode cX0_listSets 15 = .ok (.iconst (-1), 1) := by decide +kernel
theorem dX0_listSets_16 : decode cX0_listSets 16 = .ok (.ixor, 1) := by decide +kernel
theorem dX0_listSets_17 : decode cX0_listSets 17 = .ok (.iand, 1) := by decide +kernel
theorem dX0_listSets_18 : decode cX0_listSets 18 = .ok (.ifCond .ne 26, 3) := by decide +kernel
theorem dX0_listSets_21 : decode cX0_listSets 21 = .ok (.iload 4, 2) := by decide +kernel
theorem dX0_listSets_23 : decode cX0_listSets 23 = .ok (.invokestatic 31, 3) := by decide +kernel
theorem dX0_listSets_26 : decode cX0_listSets 26 = .ok (.iload_n 2, 1) := by decide +kernel
theorem dX0_listSets_27 : decode cX0_listSets 27 = .ok (.if_icmp .gt 17, 3) := by decide +kernel
theorem dX0_listSets_30 : decode cX0_listSets 30 = .ok (.iload_n 3, 1) := by decide +kernel
theorem dX0_listSets_31 : decode cX0_listSets 31 = .ok (.aload_n 0, 1) := by decide +kernel
theorem dX0_listSets_32 : decode cX0_listSets 32 = .ok (.arraylength, 1) := by decide +kernel
theorem dX0_listSets_33 : decode cX0_listSets 33 = .ok (.if_icmp .ge 11, 3) := by decide +kernel
theorem dX0_listSets_36 : decode cX0_listSets 36 = .ok (.aload_n 0, 1) := by decide +kernel
theorem dX0_listSets_37 : decode cX0_listSets 37 = .ok (.iload_n 3, 1) := by decide +kernel
theorem dX0_listSets_38 : decode cX0_listSets 38 = .ok (.iload 4, 2) := by decide +kernel
theorem dX0_listSets_40 : decode cX0_listSets 40 = .ok (.iastore, 1) := by decide +kernel
theorem dX0_listSets_41 : decode cX0_listSets 41 = .ok (.iinc 3 1, 3) := by decide +kernel
theorem dX0_listSets_44 : decode cX0_listSets 44 = .ok (.iinc 4 1, 3) := by decide +kernel
theorem dX0_listSets_47 : decode cX0_listSets 47 = .ok (.goto (-42), 3) := by decide +kernel
theorem dX0_listSets_50 : decode cX0_listSets 50 = .ok (.iload_n 3, 1) := by decide +kernel
theorem dX0_listSets_51 : decode cX0_listSets 51 = .ok (.ireturn, 1) := by decide +kernel
set_option maxRecDepth 20000 in
theorem ggX0_prepare_X7_allFacts : GoodIn wsX0_prepare wsX7_allFacts := goodIn_r _ [11, 12, 40, 41, 42, 43, 44, 45, 46, 47, 48] (by decide +kernel) (by decide +kernel)
set_option maxRecDepth 20000 in
theorem gX0_prepare_X7_allFacts : GoodIn wsX0_prepare (wsV RX0 37 RX7 yX7_allFacts wsX7_allFacts) := goodIn_app (goodIn_of _ (by decide +kernel)) ggX0_prepare_X7_allFacts
set_option maxRecDepth 20000 in
theorem ggX0_prepare_X0_listSets : GoodIn wsX0_prepare wsX0_listSets := goodIn_r _ [16, 17, 18, 19, 20, 21, 22, 23] (by decide +kernel) (by decide +kernel)
set_option maxRecDepth 20000 in
theorem gX0_prepare_X0_listSets : GoodIn wsX0_prepare (va_wsS RX0 43 yX0_listSets wsX0_listSets) := goodIn_app (goodIn_of _ (by decide +kernel)) ggX0_prepare_X0_listSets
set_option maxRecDepth 20000 in
theorem ggX0_prepare_X7_allSigns : GoodIn wsX0_prepare wsX7_allSigns := goodIn_r _ [27, 28, 40, 41, 42, 43, 44, 45, 46, 47, 48] (by decide +kernel) (by decide +kernel)
set_option maxRecDepth 20000 in
theorem gX0_prepare_X7_allSigns : GoodIn wsX0_prepare (wsV RX0 47 RX7 yX7_allSigns wsX7_allSigns) := goodIn_app (goodIn_of _ (by decide +kernel)) ggX0_prepare_X7_allSigns
set_option maxRecDepth 20000 in
theorem ggX0_prepare_X7_allPeople : GoodIn wsX0_prepare wsX7_allPeople := goodIn_r _ [32, 33, 40, 41, 42, 43, 44, 45, 46, 47, 48] (by decide +kernel) (by decide +kernel)
set_option maxRecDepth 20000 in
theorem gX0_prepare_X7_allPeople : GoodIn wsX0_prepare (wsV RX0 50 RX7 yX7_allPeople wsX7_allPeople) := goodIn_app (goodIn_of _ (by decide +kernel)) ggX0_prepare_X7_allPeople
theorem dX0_prepare_0 : decode cX0_prepare 0 = .ok (.aload_n 0, 1) := by decide +kernel
theorem dX0_prepare_1 : decode cX0_prepare 1 = .ok (.aload_n 0, 1) := by decide +kernel
theorem dX0_prepare_2 : decode cX0_prepare 2 = .ok (.getfield 9, 3) := by decide +kernel
theorem dX0_prepare_5 : decode cX0_prepare 5 = .ok (.iload_n 2, 1) := by decide +kernel
theorem dX0_prepare_6 : decode cX0_prepare 6 = .ok (.aload_n 1, 1) := by decide +kernel
theorem dX0_prepare_7 : decode cX0_prepare 7 = .ok (.invokevirtual 37, 3) := by decide +kernel
theorem dX0_prepare_10 : decode cX0_prepare 10 = .ok (.iand, 1) := by decide +kernel
theorem dX0_prepare_11 : decode cX0_prepare 11 = .ok (.iload_n 3, 1) := by decide +kernel
theorem dX0_prepare_12 : decode cX0_prepare 12 = .ok (.invokestatic 43, 3) := by decide +kernel
theorem dX0_prepare_15 : decode cX0_prepare 15 = .ok (.putfield 21, 3) := by decide +kernel
theorem dX0_prepare_18 : decode cX0_prepare 18 = .ok (.aload_n 0, 1) := by decide +kernel
theorem dX0_prepare_19 : decode cX0_prepare 19 = .ok (.aload_n 0, 1) := by decide +kernel
theorem dX0_prepare_20 : decode cX0_prepare 20 = .ok (.getfield 15, 3) := by decide +kernel
theorem dX0_prepare_23 : decode cX0_prepare 23 = .ok (.aload_n 1, 1) := by decide +kernel
theorem dX0_prepare_24 : decode cX0_prepare 24 = .ok (.invokevirtual 47, 3) := by decide +kernel
theorem dX0_prepare_27 : decode cX0_prepare 27 = .ok (.iload 4, 2) := by decide +kernel
theorem dX0_prepare_29 : decode cX0_prepare 29 = .ok (.invokestatic 43, 3) := by decide +kernel
theorem dX0_prepare_32 : decode cX0_prepare 32 = .ok (.putfield 25, 3) := by decide +kernel
theorem dX0_prepare_35 : decode cX0_prepare 35 = .ok (.aload_n 0, 1) := by decide +kernel
theorem dX0_prepare_36 : decode cX0_prepare 36 = .ok (.aload_n 0, 1) := by decide +kernel
theorem dX0_prepare_37 : decode cX0_prepare 37 = .ok (.getfield 18, 3) := by decide +kernel
theorem dX0_prepare_40 : decode cX0_prepare 40 = .ok (.aload_n 1, 1) := by decide +kernel
theorem dX0_prepare_41 : decode cX0_prepare 41 = .ok (.invokevirtual 50, 3) := by decide +kernel
theorem dX0_prepare_44 : decode cX0_prepare 44 = .ok (.iload 5, 2) := by decide +kernel
theorem dX0_prepare_46 : decode cX0_prepare 46 = .ok (.invokestatic 43, 3) := by decide +kernel
theorem dX0_prepare_49 : decode cX0_prepare 49 = .ok (.putfield 28, 3) := by decide +kernel
theorem dX0_prepare_52 : decode cX0_prepare 52 = .ok (.aload_n 0, 1) := by decide +kernel
theorem dX0_prepare_53 : decode cX0_prepare 53 = .ok (.getfield 21, 3) := by decide +kernel
theorem dX0_prepare_56 : decode cX0_prepare 56 = .ok (.aload_n 0, 1) := by decide +kernel
theorem dX0_prepare_57 : decode cX0_prepare 57 = .ok (.getfield 25, 3) := by decide +kernel
theorem dX0_prepare_60 : decode cX0_prepare 60 = .ok (.imul, 1) := by decide +kernel
theorem dX0_prepare_61 : decode cX0_prepare 61 = .ok (.aload_n 0, 1) := by decide +kernel
theorem dX0_prepare_62 : decode cX0_prepare 62 = .ok (.getfield 28, 3) := by decide +kernel
theorem dX0_prepare_65 : decode cX0_prepare 65 = .ok (.imul, 1) := by decide +kernel
theorem dX0_prepare_66 : decode cX0_prepare 66 = .ok (.ireturn, 1) := by decide +kernel
set_option maxRecDepth 20000 in
theorem ggX0_writeTo_J6_bitCount_0f7a4 : GoodIn wsX0_writeTo wsJ6_bitCount_0f7a4 := goodIn_r _ [9, 10, 11, 12] (by decide +kernel) (by decide +kernel)
set_option maxRecDepth 20000 in
theorem gX0_writeTo_J6_bitCount_0f7a4 : GoodIn wsX0_writeTo (va_wsS RX0 31 yJ6_bitCount_0f7a4 wsJ6_bitCount_0f7a4) := goodIn_app (goodIn_of _ (by decide +kernel)) ggX0_writeTo_J6_bitCount_0f7a4
set_option maxRecDepth 20000 in
theorem ggX0_writeTo_X0_writeFacts : GoodIn wsX0_writeTo wsX0_writeFacts := goodIn_r _ [17, 18, 19, 6, 7, 8, 9, 10, 11, 12, 20, 21, 22, 23, 24, 25] (by decide +kernel) (by decide +kernel)
set_option maxRecDepth 20000 in
theorem gX0_writeTo_X0_writeFacts : GoodIn wsX0_writeTo (wsV RX0 54 RX0 yX0_writeFacts wsX0_writeFacts) := goodIn_app (goodIn_of _ (by decide +kernel)) ggX0_writeTo_X0_writeFacts
theorem dX0_writeTo_0 : decode cX0_writeTo 0 = .ok (.iconst 0, 1) := by decide +kernel
theorem dX0_writeTo_1 : decode cX0_writeTo 1 = .ok (.istore_n 2, 1) := by decide +kernel
theorem dX0_writeTo_2 : decode cX0_writeTo 2 = .ok (.iconst 0, 1) := by decide +kernel
theorem dX0_writeTo_3 : decode cX0_writeTo 3 = .ok (.istore_n 3, 1) := by decide +kernel
theorem dX0_writeTo_4 : decode cX0_writeTo 4 = .ok (.iload_n 3, 1) := by decide +kernel
theorem dX0_writeTo_5 : decode cX0_writeTo 5 = .ok (.bipush 20, 2) := by decide +kernel
theorem dX0_writeTo_7 : decode cX0_writeTo 7 = .ok (.if_icmp .gt 125, 3) := by decide +kernel
theorem dX0_writeTo_10 : decode cX0_writeTo 10 = .ok (.iconst 0, 1) := by decide +kernel
theorem dX0_writeTo_11 : decode cX0_writeTo 11 = .ok (.istore 4, 2) := by decide +kernel
theorem dX0_writeTo_13 : decode cX0_writeTo 13 = .ok (.iload 4, 2) := by decide +kernel
theorem dX0_writeTo_15 : decode cX0_writeTo 15 = .ok (.aload_n 0, 1) := by decide +kernel
theorem dX0_writeTo_16 : decode cX0_writeTo 16 = .ok (.getfield 28, 3) := by decide +kernel
theorem dX0_writeTo_19 : decode cX0_writeTo 19 = .ok (.if_icmp .ge 107, 3) := by decide +kernel
theorem dX0_writeTo_22 : decode cX0_writeTo 22 = .ok (.iload 4, 2) := by decide +kernel
theorem dX0_writeTo_24 : decode cX0_writeTo 24 = .ok (.aload_n 0, 1) := by decide +kernel
theorem dX0_writeTo_25 : decode cX0_writeTo 25 = .ok (.getfield 18, 3) := by decide +kernel
theorem dX0_writeTo_28 : decode cX0_writeTo 28 = .ok (.arraylength, 1) := by decide +kernel
theorem dX0_writeTo_29 : decode cX0_writeTo 29 = .ok (.if_icmp .ge 97, 3) := by decide +kernel
theorem dX0_writeTo_32 : decode cX0_writeTo 32 = .ok (.iconst 0, 1) := by decide +kernel
theorem dX0_writeTo_33 : decode cX0_writeTo 33 = .ok (.istore 5, 2) := by decide +kernel
theorem dX0_writeTo_35 : decode cX0_writeTo 35 = .ok (.iload 5, 2) := by decide +kernel
theorem dX0_writeTo_37 : decode cX0_writeTo 37 = .ok (.aload_n 0, 1) := by decide +kernel
theorem dX0_writeTo_38 : decode cX0_writeTo 38 = .ok (.getfield 25, 3) := by decide +kernel
theorem dX0_writeTo_41 : decode cX0_writeTo 41 = .ok (.if_icmp .ge 79, 3) := by decide +kernel
theorem dX0_writeTo_44 : decode cX0_writeTo 44 = .ok (.iload 5, 2) := by decide +kernel
theorem dX0_writeTo_46 : decode cX0_writeTo 46 = .ok (.aload_n 0, 1) := by decide +kernel
theorem dX0_writeTo_47 : decode cX0_writeTo 47 = .ok (.getfield 15, 3) := by decide +kernel
theorem dX0_writeTo_50 : decode cX0_writeTo 50 = .ok (.arraylength, 1) := by decide +kernel
theorem dX0_writeTo_51 : decode cX0_writeTo 51 = .ok (.if_icmp .ge 69, 3) := by decide +kernel
theorem dX0_writeTo_54 : decode cX0_writeTo 54 = .ok (.iload_n 3, 1) := by decide +kernel
theorem dX0_writeTo_55 : decode cX0_writeTo 55 = .ok (.aload_n 0, 1) := by decide +kernel
theorem dX0_writeTo_56 : decode cX0_writeTo 56 = .ok (.getfield 18, 3) := by decide +kernel
theorem dX0_writeTo_59 : decode cX0_writeTo 59 = .ok (.iload 4, 2) := by decide +kernel
theorem dX0_writeTo_61 : decode cX0_writeTo 61 = .ok (.iaload, 1) := by decide +kernel
theorem dX0_writeTo_62 : decode cX0_writeTo 62 = .ok (.invokestatic 31, 3) := by decide +kernel
theorem dX0_writeTo_65 : decode cX0_writeTo 65 = .ok (.isub, 1) := by decide +kernel
theorem dX0_writeTo_66 : decode cX0_writeTo 66 = .ok (.aload_n 0, 1) := by decide +kernel
theorem dX0_writeTo_67 : decode cX0_writeTo 67 = .ok (.getfield 15, 3) := by decide +kernel
theorem dX0_writeTo_70 : decode cX0_writeTo 70 = .ok (.iload 5, 2) := by decide +kernel
theorem dX0_writeTo_72 : decode cX0_writeTo 72 = .ok (.iaload, 1) := by decide +kernel
theorem dX0_writeTo_73 : decode cX0_writeTo 73 = .ok (.invokestatic 31, 3) := by decide +kernel
theorem dX0_writeTo_76 : decode cX0_writeTo 76 = .ok (.isub, 1) := by decide +kernel
theorem dX0_writeTo_77 : decode cX0_writeTo 77 = .ok (.istore 6, 2) := by decide +kernel
theorem dX0_writeTo_79 : decode cX0_writeTo 79 = .ok (.ldc 53, 2) := by decide +kernel
theorem dX0_writeTo_81 : decode cX0_writeTo 81 = .ok (.aload_n 0, 1) := by decide +kernel
theorem dX0_writeTo_82 : decode cX0_writeTo 82 = .ok (.getfield 18, 3) := by decide +kernel
theorem dX0_writeTo_85 : decode cX0_writeTo 85 = .ok (.iload 4, 2) := by decide +kernel
theorem dX0_writeTo_87 : decode cX0_writeTo 87 = .ok (.iaload, 1) := by decide +kernel
theorem dX0_writeTo_88 : decode cX0_writeTo 88 = .ok (.imul, 1) := by decide +kernel
theorem dX0_writeTo_89 : decode cX0_writeTo 89 = .ok (.sipush 256, 3) := by decide +kernel
theorem dX0_writeTo_92 : decode cX0_writeTo 92 = .ok (.aload_n 0, 1) := by decide +kernel
theorem dX0_writeTo_93 : decode cX0_writeTo 93 = .ok (.getfield 15, 3) := by decide +kernel
theorem dX0_writeTo_96 : decode cX0_writeTo 96 = .ok (.iload 5, 2) := by decide +kernel
theorem dX0_writeTo_98 : decode cX0_writeTo 98 = .ok (.iaload, 1) := by decide +kernel
theorem dX0_writeTo_99 : decode cX0_writeTo 99 = .ok (.imul, 1) := by decide +kernel
theorem dX0_writeTo_100 : decode cX0_writeTo 100 = .ok (.iadd, 1) := by decide +kernel
theorem dX0_writeTo_101 : decode cX0_writeTo 101 = .ok (.istore 7, 2) := by decide +kernel
theorem dX0_writeTo_103 : decode cX0_writeTo 103 = .ok (.aload_n 0, 1) := by decide +kernel
theorem dX0_writeTo_104 : decode cX0_writeTo 104 = .ok (.aload_n 1, 1) := by decide +kernel
theorem dX0_writeTo_105 : decode cX0_writeTo 105 = .ok (.iload_n 2, 1) := by decide +kernel
theorem dX0_writeTo_106 : decode cX0_writeTo 106 = .ok (.iload 7, 2) := by decide +kernel
theorem dX0_writeTo_108 : decode cX0_writeTo 108 = .ok (.iload 6, 2) := by decide +kernel
theorem dX0_writeTo_110 : decode cX0_writeTo 110 = .ok (.invokevirtual 54, 3) := by decide +kernel
theorem dX0_writeTo_113 : decode cX0_writeTo 113 = .ok (.istore_n 2, 1) := by decide +kernel
theorem dX0_writeTo_114 : decode cX0_writeTo 114 = .ok (.iinc 5 1, 3) := by decide +kernel
theorem dX0_writeTo_117 : decode cX0_writeTo 117 = .ok (.goto (-82), 3) := by decide +kernel
theorem dX0_writeTo_120 : decode cX0_writeTo 120 = .ok (.iinc 4 1, 3) := by decide +kernel
theorem dX0_writeTo_123 : decode cX0_writeTo 123 = .ok (.goto (-110), 3) := by decide +kernel
theorem dX0_writeTo_126 : decode cX0_writeTo 126 = .ok (.iinc 3 1, 3) := by decide +kernel
theorem dX0_writeTo_129 : decode cX0_writeTo 129 = .ok (.goto (-125), 3) := by decide +kernel
theorem dX0_writeTo_132 : decode cX0_writeTo 132 = .ok (.return_, 1) := by decide +kernel
set_option maxRecDepth 20000 in
theorem ggX0_writeFacts_J6_bitCount_0f7a4 : GoodIn wsX0_writeFacts wsJ6_bitCount_0f7a4 := goodIn_r _ [6, 7, 8, 9] (by decide +kernel) (by decide +kernel)
set_option maxRecDepth 20000 in
theorem gX0_writeFacts_J6_bitCount_0f7a4 : GoodIn wsX0_writeFacts (va_wsS RX0 31 yJ6_bitCount_0f7a4 wsJ6_bitCount_0f7a4) := goodIn_app (goodIn_of _ (by decide +kernel)) ggX0_writeFacts_J6_bitCount_0f7a4
theorem dX0_writeFacts_0 : decode cX0_writeFacts 0 = .ok (.iload_n 2, 1) := by decide +kernel
theorem dX0_writeFacts_1 : decode cX0_writeFacts 1 = .ok (.istore 5, 2) := by decide +kernel
theorem dX0_writeFacts_3 : decode cX0_writeFacts 3 = .ok (.iconst 0, 1) := by decide +kernel
theorem dX0_writeFacts_4 : decode cX0_writeFacts 4 = .ok (.istore 6, 2) := by decide +kernel
theorem dX0_writeFacts_6 : decode cX0_writeFacts 6 = .ok (.iload 6, 2) := by decide +kernel
theorem dX0_writeFacts_8 : decode cX0_writeFacts 8 = .ok (.aload_n 0, 1) := by decide +kernel
theorem dX0_writeFacts_9 : decode cX0_writeFacts 9 = .ok (.getfield 21, 3) := by decide +kernel
theorem dX0_writeFacts_12 : decode cX0_writeFacts 12 = .ok (.if_icmp .ge 62, 3) := by decide +kernel
theorem dX0_writeFacts_15 : decode cX0_writeFacts 15 = .ok (.iload 6, 2) := by decide +kernel
theorem dX0_writeFacts_17 : decode cX0_writeFacts 17 = .ok (.aload_n 0, 1) := by decide +kernel
theorem dX0_writeFacts_18 : decode cX0_writeFacts 18 = .ok (.getfield 9, 3) := by decide +kernel
theorem dX0_writeFacts_21 : decode cX0_writeFacts 21 = .ok (.arraylength, 1) := by decide +kernel
theorem dX0_writeFacts_22 : decode cX0_writeFacts 22 = .ok (.if_icmp .ge 52, 3) := by decide +kernel
theorem dX0_writeFacts_25 : decode cX0_writeFacts 25 = .ok (.aload_n 0, 1) := by decide +kernel
theorem dX0_writeFacts_26 : decode cX0_writeFacts 26 = .ok (.getfield 9, 3) := by decide +kernel
theorem dX0_writeFacts_29 : decode cX0_writeFacts 29 = .ok (.iload 6, 2) := by decide +kernel
theorem dX0_writeFacts_31 : decode cX0_writeFacts 31 = .ok (.iaload, 1) := by decide +kernel
theorem dX0_writeFacts_32 : decode cX0_writeFacts 32 = .ok (.invokestatic 31, 3) := by decide +kernel
theorem dX0_writeFacts_35 : decode cX0_writeFacts 35 = .ok (.iload 4, 2) := by decide +kernel
theorem dX0_writeFacts_37 : decode cX0_writeFacts 37 = .ok (.if_icmp .ne 31, 3) := by decide +kernel
theorem dX0_writeFacts_40 : decode cX0_writeFacts 40 = .ok (.iload 5, 2) := by decide +kernel
theorem dX0_writeFacts_42 : decode cX0_writeFacts 42 = .ok (.ifCond .lt 26, 3) := by decide +kernel
theorem dX0_writeFacts_45 : decode cX0_writeFacts 45 = .ok (.iload 5, 2) := by decide +kernel
theorem dX0_writeFacts_47 : decode cX0_writeFacts 47 = .ok (.aload_n 1, 1) := by decide +kernel
theorem dX0_writeFacts_48 : decode cX0_writeFacts 48 = .ok (.arraylength, 1) := by decide +kernel
theorem dX0_writeFacts_49 : decode cX0_writeFacts 49 = .ok (.if_icmp .ge 19, 3) := by decide +kernel
theorem dX0_writeFacts_52 : decode cX0_writeFacts 52 = .ok (.aload_n 1, 1) := by decide +kernel
theorem dX0_writeFacts_53 : decode cX0_writeFacts 53 = .ok (.iload 5, 2) := by decide +kernel
theorem dX0_writeFacts_55 : decode cX0_writeFacts 55 = .ok (.iload_n 3, 1) := by decide +kernel
theorem dX0_writeFacts_56 : decode cX0_writeFacts 56 = .ok (.aload_n 0, 1) := by decide +kernel
theorem dX0_writeFacts_57 : decode cX0_writeFacts 57 = .ok (.getfield 9, 3) := by decide +kernel
theorem dX0_writeFacts_60 : decode cX0_writeFacts 60 = .ok (.iload 6, 2) := by decide +kernel
theorem dX0_writeFacts_62 : decode cX0_writeFacts 62 = .ok (.iaload, 1) := by decide +kernel
theorem dX0_writeFacts_63 : decode cX0_writeFacts 63 = .ok (.iadd, 1) := by decide +kernel
theorem dX0_writeFacts_64 : decode cX0_writeFacts 64 = .ok (.iastore, 1) := by decide +kernel
theorem dX0_writeFacts_65 : decode cX0_writeFacts 65 = .ok (.iinc 5 1, 3) := by decide +kernel
theorem dX0_writeFacts_68 : decode cX0_writeFacts 68 = .ok (.iinc 6 1, 3) := by decide +kernel
theorem dX0_writeFacts_71 : decode cX0_writeFacts 71 = .ok (.goto (-65), 3) := by decide +kernel
theorem dX0_writeFacts_74 : decode cX0_writeFacts 74 = .ok (.iload 5, 2) := by decide +kernel
theorem dX0_writeFacts_76 : decode cX0_writeFacts 76 = .ok (.ireturn, 1) := by decide +kernel
theorem dX1_init_0 : decode cX1_init 0 = .ok (.aload_n 0, 1) := by decide +kernel
theorem dX1_init_1 : decode cX1_init 1 = .ok (.invokespecial 3, 3) := by decide +kernel
theorem dX1_init_4 : decode cX1_init 4 = .ok (.aload_n 0, 1) := by decide +kernel
theorem dX1_init_5 : decode cX1_init 5 = .ok (.iconst 0, 1) := by decide +kernel
theorem dX1_init_6 : decode cX1_init 6 = .ok (.putfield 9, 3) := by decide +kernel
theorem dX1_init_9 : decode cX1_init 9 = .ok (.aload_n 0, 1) := by decide +kernel
theorem dX1_init_10 : decode cX1_init 10 = .ok (.iconst (-1), 1) := by decide +kernel
theorem dX1_init_11 : decode cX1_init 11 = .ok (.putfield 15, 3) := by decide +kernel
theorem dX1_init_14 : decode cX1_init 14 = .ok (.aload_n 0, 1) := by decide +kernel
theorem dX1_init_15 : decode cX1_init 15 = .ok (.iconst (-1), 1) := by decide +kernel
theorem dX1_init_16 : decode cX1_init 16 = .ok (.putfield 18, 3) := by decide +kernel
theorem dX1_init_19 : decode cX1_init 19 = .ok (.aload_n 0, 1) := by decide +kernel
theorem dX1_init_20 : decode cX1_init 20 = .ok (.iconst (-1), 1) := by decide +kernel
theorem dX1_init_21 : decode cX1_init 21 = .ok (.putfield 21, 3) := by decide +kernel
theorem dX1_init_24 : decode cX1_init 24 = .ok (.return_, 1) := by decide +kernel
theorem dX1_forget_0 : decode cX1_forget 0 = .ok (.aload_n 0, 1) := by decide +kernel
theorem dX1_forget_1 : decode cX1_forget 1 = .ok (.iconst 0, 1) := by decide +kernel
theorem dX1_forget_2 : decode cX1_forget 2 = .ok (.putfield 9, 3) := by decide +kernel
theorem dX1_forget_5 : decode cX1_forget 5 = .ok (.aload_n 0, 1) := by decide +kernel
theorem dX1_forget_6 : decode cX1_forget 6 = .ok (.iconst (-1), 1) := by decide +kernel
theorem dX1_forget_7 : decode cX1_forget 7 = .ok (.putfield 15, 3) := by decide +kernel
theorem dX1_forget_10 : decode cX1_forget 10 = .ok (.aload_n 0, 1) := by decide +kernel
theorem dX1_forget_11 : decode cX1_forget 11 = .ok (.iconst (-1), 1) := by decide +kernel
theorem dX1_forget_12 : decode cX1_forget 12 = .ok (.putfield 18, 3) := by decide +kernel
theorem dX1_forget_15 : decode cX1_forget 15 = .ok (.aload_n 0, 1) := by decide +kernel
theorem dX1_forget_16 : decode cX1_forget 16 = .ok (.iconst (-1), 1) := by decide +kernel
theorem dX1_forget_17 : decode cX1_forget 17 = .ok (.putfield 21, 3) := by decide +kernel
theorem dX1_forget_20 : decode cX1_forget 20 = .ok (.return_, 1) := by decide +kernel
theorem dX1_add_0 : decode cX1_add 0 = .ok (.aload_n 0, 1) := by decide +kernel
theorem dX1_add_1 : decode cX1_add 1 = .ok (.getfield 9, 3) := by decide +kernel
theorem dX1_add_4 : decode cX1_add 4 = .ok (.ifCond .ne 18, 3) := by decide +kernel
theorem dX1_add_7 : decode cX1_add 7 = .ok (.aload_n 0, 1) := by decide +kernel
theorem dX1_add_8 : decode cX1_add 8 = .ok (.iload_n 1, 1) := by decide +kernel
theorem dX1_add_9 : decode cX1_add 9 = .ok (.putfield 15, 3) := by decide +kernel
theorem dX1_add_12 : decode cX1_add 12 = .ok (.aload_n 0, 1) := by decide +kernel
theorem dX1_add_13 : decode cX1_add 13 = .ok (.iload_n 2, 1) := by decide +kernel
theorem dX1_add_14 : decode cX1_add 14 = .ok (.putfield 18, 3) := by decide +kernel
theorem dX1_add_17 : decode cX1_add 17 = .ok (.aload_n 0, 1) := by decide +kernel
theorem dX1_add_18 : decode cX1_add 18 = .ok (.iload_n 3, 1) := by decide +kernel
theorem dX1_add_19 : decode cX1_add 19 = .ok (.putfield 21, 3) := by decide +kernel
theorem dX1_add_22 : decode cX1_add 22 = .ok (.aload_n 0, 1) := by decide +kernel
theorem dX1_add_23 : decode cX1_add 23 = .ok (.dup, 1) := by decide +kernel
theorem dX1_add_24 : decode cX1_add 24 = .ok (.getfield 9, 3) := by decide +kernel
theorem dX1_add_27 : decode cX1_add 27 = .ok (.iconst 1, 1) := by decide +kernel
theorem dX1_add_28 : decode cX1_add 28 = .ok (.iadd, 1) := by decide +kernel
theorem dX1_add_29 : decode cX1_add 29 = .ok (.putfield 9, 3) := by decide +kernel
theorem dX1_add_32 : decode cX1_add 32 = .ok (.return_, 1) := by decide +kernel
theorem dX1_about_0 : decode cX1_about 0 = .ok (.iload_n 1, 1) := by decide +kernel
theorem dX1_about_1 : decode cX1_about 1 = .ok (.ifCond .ne 10, 3) := by decide +kernel
theorem dX1_about_4 : decode cX1_about 4 = .ok (.aload_n 0, 1) := by decide +kernel
theorem dX1_about_5 : decode cX1_about 5 = .ok (.getfield 15, 3) := by decide +kernel
theorem dX1_about_8 : decode cX1_about 8 = .ok (.goto 28, 3) := by decide +kernel
theorem dX1_about_11 : decode cX1_about 11 = .ok (.iload_n 1, 1) := by decide +kernel
theorem dX1_about_12 : decode cX1_about 12 = .ok (.iconst 1, 1) := by decide +kernel
theorem dX1_about_13 : decode cX1_about 13 = .ok (.if_icmp .ne 10, 3) := by decide +kernel
theorem dX1_about_16 : decode cX1_about 16 = .ok (.aload_n 0, 1) := by decide +kernel
theorem dX1_about_17 : decode cX1_about 17 = .ok (.getfield 18, 3) := by decide +kernel
theorem dX1_about_20 : decode cX1_about 20 = .ok (.goto 16, 3) := by decide +kernel
theorem dX1_about_23 : decode cX1_about 23 = .ok (.iload_n 1, 1) := by decide +kernel
theorem dX1_about_24 : decode cX1_about 24 = .ok (.iconst 2, 1) := by decide +kernel
theorem dX1_about_25 : decode cX1_about 25 = .ok (.if_icmp .ne 10, 3) := by decide +kernel
theorem dX1_about_28 : decode cX1_about 28 = .ok (.aload_n 0, 1) := by decide +kernel
theorem dX1_about_29 : decode cX1_about 29 = .ok (.getfield 21, 3) := by decide +kernel
theorem dX1_about_32 : decode cX1_about 32 = .ok (.goto 4, 3) := by decide +kernel
theorem dX1_about_35 : decode cX1_about 35 = .ok (.iconst (-1), 1) := by decide +kernel
theorem dX1_about_36 : decode cX1_about 36 = .ok (.ireturn, 1) := by decide +kernel
theorem dX2_init_0 : decode cX2_init 0 = .ok (.aload_n 0, 1) := by decide +kernel
theorem dX2_init_1 : decode cX2_init 1 = .ok (.invokespecial 3, 3) := by decide +kernel
theorem dX2_init_4 : decode cX2_init 4 = .ok (.aload_n 0, 1) := by decide +kernel
theorem dX2_init_5 : decode cX2_init 5 = .ok (.sipush 200, 3) := by decide +kernel
theorem dX2_init_8 : decode cX2_init 8 = .ok (.newarray .int, 2) := by decide +kernel
theorem dX2_init_10 : decode cX2_init 10 = .ok (.putfield 9, 3) := by decide +kernel
theorem dX2_init_13 : decode cX2_init 13 = .ok (.aload_n 0, 1) := by decide +kernel
theorem dX2_init_14 : decode cX2_init 14 = .ok (.sipush 201, 3) := by decide +kernel
theorem dX2_init_17 : decode cX2_init 17 = .ok (.newarray .int, 2) := by decide +kernel
theorem dX2_init_19 : decode cX2_init 19 = .ok (.putfield 15, 3) := by decide +kernel
theorem dX2_init_22 : decode cX2_init 22 = .ok (.aload_n 0, 1) := by decide +kernel
theorem dX2_init_23 : decode cX2_init 23 = .ok (.iconst 0, 1) := by decide +kernel
theorem dX2_init_24 : decode cX2_init 24 = .ok (.putfield 18, 3) := by decide +kernel
theorem dX2_init_27 : decode cX2_init 27 = .ok (.aload_n 0, 1) := by decide +kernel
theorem dX2_init_28 : decode cX2_init 28 = .ok (.iconst (-1), 1) := by decide +kernel
theorem dX2_init_29 : decode cX2_init 29 = .ok (.putfield 22, 3) := by decide +kernel
theorem dX2_init_32 : decode cX2_init 32 = .ok (.aload_n 0, 1) := by decide +kernel
theorem dX2_init_33 : decode cX2_init 33 = .ok (.iconst (-1), 1) := by decide +kernel
theorem dX2_init_34 : decode cX2_init 34 = .ok (.putfield 25, 3) := by decide +kernel
theorem dX2_init_37 : decode cX2_init 37 = .ok (.return_, 1) := by decide +kernel
theorem dX2_isFull_0 : decode cX2_isFull 0 = .ok (.aload_n 0, 1) := by decide +kernel
theorem dX2_isFull_1 : decode cX2_isFull 1 = .ok (.getfield 18, 3) := by decide +kernel
theorem dX2_isFull_4 : decode cX2_isFull 4 = .ok (.aload_n 0, 1) := by decide +kernel
theorem dX2_isFull_5 : decode cX2_isFull 5 = .ok (.getfield 9, 3) := by decide +kernel
theorem dX2_isFull_8 : decode cX2_isFull 8 = .ok (.arraylength, 1) := by decide +kernel
theorem dX2_isFull_9 : decode cX2_isFull 9 = .ok (.if_icmp .lt 7, 3) := by decide +kernel
theorem dX2_isFull_12 : decode cX2_isFull 12 = .ok (.iconst 1, 1) := by decide +kernel
theorem dX2_isFull_13 : decode cX2_isFull 13 = .ok (.goto 4, 3) := by decide +kernel
theorem dX2_isFull_16 : decode cX2_isFull 16 = .ok (.iconst 0, 1) := by decide +kernel
theorem dX2_isFull_17 : decode cX2_isFull 17 = .ok (.ireturn, 1) := by decide +kernel
theorem dX2_write_0 : decode cX2_write 0 = .ok (.aload_n 0, 1) := by decide +kernel
theorem dX2_write_1 : decode cX2_write 1 = .ok (.getfield 18, 3) := by decide +kernel
theorem dX2_write_4 : decode cX2_write 4 = .ok (.ifCond .lt 35, 3) := by decide +kernel
theorem dX2_write_7 : decode cX2_write 7 = .ok (.aload_n 0, 1) := by decide +kernel
theorem dX2_write_8 : decode cX2_write 8 = .ok (.getfield 18, 3) := by decide +kernel
theorem dX2_write_11 : decode cX2_write 11 = .ok (.aload_n 0, 1) := by decide +kernel
theorem dX2_write_12 : decode cX2_write 12 = .ok (.getfield 9, 3) := by decide +kernel
theorem dX2_write_15 : decode cX2_write 15 = .ok (.arraylength, 1) := by decide +kernel
theorem dX2_write_16 : decode cX2_write 16 = .ok (.if_icmp .ge 23, 3) := by decide +kernel
theorem dX2_write_19 : decode cX2_write 19 = .ok (.aload_n 0, 1) := by decide +kernel
theorem dX2_write_20 : decode cX2_write 20 = .ok (.getfield 9, 3) := by decide +kernel
theorem dX2_write_23 : decode cX2_write 23 = .ok (.aload_n 0, 1) := by decide +kernel
theorem dX2_write_24 : decode cX2_write 24 = .ok (.getfield 18, 3) := by decide +kernel
theorem dX2_write_27 : decode cX2_write 27 = .ok (.iload_n 1, 1) := by decide +kernel
theorem dX2_write_28 : decode cX2_write 28 = .ok (.iastore, 1) := by decide +kernel
theorem dX2_write_29 : decode cX2_write 29 = .ok (.aload_n 0, 1) := by decide +kernel
theorem dX2_write_30 : decode cX2_write 30 = .ok (.dup, 1) := by decide +kernel
theorem dX2_write_31 : decode cX2_write 31 = .ok (.getfield 18, 3) := by decide +kernel
theorem dX2_write_34 : decode cX2_write 34 = .ok (.iconst 1, 1) := by decide +kernel
theorem dX2_write_35 : decode cX2_write 35 = .ok (.iadd, 1) := by decide +kernel
theorem dX2_write_36 : decode cX2_write 36 = .ok (.putfield 18, 3) := by decide +kernel
theorem dX2_write_39 : decode cX2_write 39 = .ok (.return_, 1) := by decide +kernel
set_option maxRecDepth 20000 in
theorem ggX2_layBeside_J7_fill_53178 : GoodIn wsX2_layBeside wsJ7_fill_53178 := goodIn_r _ [12] (by decide +kernel) (by decide +kernel)
set_option maxRecDepth 20000 in
theorem gX2_layBeside_J7_fill_53178 : GoodIn wsX2_layBeside (va_wsS RX2 39 yJ7_fill_53178 wsJ7_fill_53178) := goodIn_app (goodIn_of _ (by decide +kernel)) ggX2_layBeside_J7_fill_53178
set_option maxRecDepth 20000 in
theorem ggX2_layBeside_X6_pathAt : GoodIn wsX2_layBeside wsX6_pathAt := goodIn_r _ [17, 18, 19, 29, 30, 31, 32, 33, 34, 35, 36, 37, 38, 39, 40] (by decide +kernel) (by decide +kernel)
set_option maxRecDepth 20000 in
theorem gX2_layBeside_X6_pathAt : GoodIn wsX2_layBeside (wsV RX2 45 RX6 yX6_pathAt wsX6_pathAt) := goodIn_app (goodIn_of _ (by decide +kernel)) ggX2_layBeside_X6_pathAt
set_option maxRecDepth 20000 in
theorem ggX2_layBeside_X2_extend : GoodIn wsX2_layBeside wsX2_extend := goodIn_r _ [24, 6, 25, 5, 26, 27, 3, 28, 41, 42, 43, 44, 45] (by decide +kernel) (by decide +kernel)
set_option maxRecDepth 20000 in
theorem gX2_layBeside_X2_extend : GoodIn wsX2_layBeside (wsV RX2 49 RX2 yX2_extend wsX2_extend) := goodIn_app (goodIn_of _ (by decide +kernel)) ggX2_layBeside_X2_extend
theorem dX2_layBeside_0 : decode cX2_layBeside 0 = .ok (.aload_n 1, 1) := by decide +kernel
theorem dX2_layBeside_1 : decode cX2_layBeside 1 = .ok (.getfield 28, 3) := by decide +kernel
theorem dX2_layBeside_4 : decode cX2_layBeside 4 = .ok (.sipush 300, 3) := by decide +kernel
theorem dX2_layBeside_7 : decode cX2_layBeside 7 = .ok (.invokestatic 33, 3) := by decide +kernel
theorem dX2_layBeside_10 : decode cX2_layBeside 10 = .ok (.istore_n 2, 1) := by decide +kernel
theorem dX2_layBeside_11 : decode cX2_layBeside 11 = .ok (.aload_n 0, 1) := by decide +kernel
theorem dX2_layBeside_12 : decode cX2_layBeside 12 = .ok (.getfield 15, 3) := by decide +kernel
theorem dX2_layBeside_15 : decode cX2_layBeside 15 = .ok (.iconst 0, 1) := by decide +kernel
theorem dX2_layBeside_16 : decode cX2_layBeside 16 = .ok (.invokestatic 39, 3) := by decide +kernel
theorem dX2_layBeside_19 : decode cX2_layBeside 19 = .ok (.iconst 0, 1) := by decide +kernel
theorem dX2_layBeside_20 : decode cX2_layBeside 20 = .ok (.istore_n 3, 1) := by decide +kernel
theorem dX2_layBeside_21 : decode cX2_layBeside 21 = .ok (.iload_n 3, 1) := by decide +kernel
theorem dX2_layBeside_22 : decode cX2_layBeside 22 = .ok (.iload_n 2, 1) := by decide +kernel
theorem dX2_layBeside_23 : decode cX2_layBeside 23 = .ok (.if_icmp .ge 18, 3) := by decide +kernel
theorem dX2_layBeside_26 : decode cX2_layBeside 26 = .ok (.aload_n 0, 1) := by decide +kernel
theorem dX2_layBeside_27 : decode cX2_layBeside 27 = .ok (.aload_n 1, 1) := by decide +kernel
theorem dX2_layBeside_28 : decode cX2_layBeside 28 = .ok (.iload_n 3, 1) := by decide +kernel
theorem dX2_layBeside_29 : decode cX2_layBeside 29 = .ok (.invokevirtual 45, 3) := by decide +kernel
theorem dX2_layBeside_32 : decode cX2_layBeside 32 = .ok (.invokevirtual 49, 3) := by decide +kernel
theorem dX2_layBeside_35 : decode cX2_layBeside 35 = .ok (.iinc 3 1, 3) := by decide +kernel
theorem dX2_layBeside_38 : decode cX2_layBeside 38 = .ok (.goto (-17), 3) := by decide +kernel
theorem dX2_layBeside_41 : decode cX2_layBeside 41 = .ok (.aload_n 0, 1) := by decide +kernel
theorem dX2_layBeside_42 : decode cX2_layBeside 42 = .ok (.getfield 18, 3) := by decide +kernel
theorem dX2_layBeside_45 : decode cX2_layBeside 45 = .ok (.ifCond .lt 27, 3) := by decide +kernel
theorem dX2_layBeside_48 : decode cX2_layBeside 48 = .ok (.aload_n 0, 1) := by decide +kernel
theorem dX2_layBeside_49 : decode cX2_layBeside 49 = .ok (.getfield 18, 3) := by decide +kernel
theorem dX2_layBeside_52 : decode cX2_layBeside 52 = .ok (.aload_n 0, 1) := by decide +kernel
theorem dX2_layBeside_53 : decode cX2_layBeside 53 = .ok (.getfield 15, 3) := by decide +kernel
theorem dX2_layBeside_56 : decode cX2_layBeside 56 = .ok (.arraylength, 1) := by decide +kernel
theorem dX2_layBeside_57 : decode cX2_layBeside 57 = .ok (.if_icmp .ge 15, 3) := by decide +kernel
theorem dX2_layBeside_60 : decode cX2_layBeside 60 = .ok (.aload_n 0, 1) := by decide +kernel
theorem dX2_layBeside_61 : decode cX2_layBeside 61 = .ok (.getfield 15, 3) := by decide +kernel
theorem dX2_layBeside_64 : decode cX2_layBeside 64 = .ok (.aload_n 0, 1) := by decide +kernel
theorem dX2_layBeside_65 : decode cX2_layBeside 65 = .ok (.getfield 18, 3) := by decide +kernel
theorem dX2_layBeside_68 : decode cX2_layBeside 68 = .ok (.iaload, 1) := by decide +kernel
theorem dX2_layBeside_69 : decode cX2_layBeside 69 = .ok (.goto 4, 3) := by decide +kernel
theorem dX2_layBeside_72 : decode cX2_layBeside 72 = .ok (.iconst 0, 1) := by decide +kernel
theorem dX2_layBeside_73 : decode cX2_layBeside 73 = .ok (.istore_n 3, 1) := by decide +kernel
theorem dX2_layBeside_74 : decode cX2_layBeside 74 = .ok (.aload_n 0, 1) := by decide +kernel
theorem dX2_layBeside_75 : decode cX2_layBeside 75 = .ok (.iload_n 2, 1) := by decide +kernel
theorem dX2_layBeside_76 : decode cX2_layBeside 76 = .ok (.iload_n 3, 1) := by decide +kernel
theorem dX2_layBeside_77 : decode cX2_layBeside 77 = .ok (.isub, 1) := by decide +kernel
theorem dX2_layBeside_78 : decode cX2_layBeside 78 = .ok (.putfield 22, 3) := by decide +kernel
theorem dX2_layBeside_81 : decode cX2_layBeside 81 = .ok (.aload_n 0, 1) := by decide +kernel
theorem dX2_layBeside_82 : decode cX2_layBeside 82 = .ok (.aload_n 0, 1) := by decide +kernel
theorem dX2_layBeside_83 : decode cX2_layBeside 83 = .ok (.getfield 18, 3) := by decide +kernel
theorem dX2_layBeside_86 : decode cX2_layBeside 86 = .ok (.iload_n 3, 1) := by decide +kernel
theorem dX2_layBeside_87 : decode cX2_layBeside 87 = .ok (.isub, 1) := by decide +kernel
theorem dX2_layBeside_88 : decode cX2_layBeside 88 = .ok (.putfield 25, 3) := by decide +kernel
theorem dX2_layBeside_91 : decode cX2_layBeside 91 = .ok (.iload_n 3, 1) := by decide +kernel
theorem dX2_layBeside_92 : decode cX2_layBeside 92 = .ok (.ireturn, 1) := by decide +kernel
theorem dX2_extend_0 : decode cX2_extend 0 = .ok (.iconst 0, 1) := by decide +kernel
theorem dX2_extend_1 : decode cX2_extend 1 = .ok (.istore_n 2, 1) := by decide +kernel
theorem dX2_extend_2 : decode cX2_extend 2 = .ok (.iconst 0, 1) := by decide +kernel
theorem dX2_extend_3 : decode cX2_extend 3 = .ok (.istore_n 3, 1) := by decide +kernel
theorem dX2_extend_4 : decode cX2_extend 4 = .ok (.iload_n 3, 1) := by decide +kernel
theorem dX2_extend_5 : decode cX2_extend 5 = .ok (.aload_n 0, 1) := by decide +kernel
theorem dX2_extend_6 : decode cX2_extend 6 = .ok (.getfield 18, 3) := by decide +kernel
theorem dX2_extend_9 : decode cX2_extend 9 = .ok (.if_icmp .ge 77, 3) := by decide +kernel
theorem dX2_extend_12 : decode cX2_extend 12 = .ok (.iload_n 3, 1) := by decide +kernel
theorem dX2_extend_13 : decode cX2_extend 13 = .ok (.aload_n 0, 1) := by decide +kernel
theorem dX2_extend_14 : decode cX2_extend 14 = .ok (.getfield 9, 3) := by decide +kernel
theorem dX2_extend_17 : decode cX2_extend 17 = .ok (.arraylength, 1) := by decide +kernel
theorem dX2_extend_18 : decode cX2_extend 18 = .ok (.if_icmp .ge 68, 3) := by decide +kernel
theorem dX2_extend_21 : decode cX2_extend 21 = .ok (.iload_n 3, 1) := by decide +kernel
theorem dX2_extend_22 : decode cX2_extend 22 = .ok (.iconst 1, 1) := by decide +kernel
theorem dX2_extend_23 : decode cX2_extend 23 = .ok (.iadd, 1) := by decide +kernel
theorem dX2_extend_24 : decode cX2_extend 24 = .ok (.aload_n 0, 1) := by decide +kernel
theorem dX2_extend_25 : decode cX2_extend 25 = .ok (.getfield 15, 3) := by decide +kernel
theorem dX2_extend_28 : decode cX2_extend 28 = .ok (.arraylength, 1) := by decide +kernel
theorem dX2_extend_29 : decode cX2_extend 29 = .ok (.if_icmp .ge 57, 3) := by decide +kernel
theorem dX2_extend_32 : decode cX2_extend 32 = .ok (.aload_n 0, 1) := by decide +kernel
theorem dX2_extend_33 : decode cX2_extend 33 = .ok (.getfield 15, 3) := by decide +kernel
theorem dX2_extend_36 : decode cX2_extend 36 = .ok (.iload_n 3, 1) := by decide +kernel
theorem dX2_extend_37 : decode cX2_extend 37 = .ok (.iconst 1, 1) := by decide +kernel
theorem dX2_extend_38 : decode cX2_extend 38 = .ok (.iadd, 1) := by decide +kernel
theorem dX2_extend_39 : decode cX2_extend 39 = .ok (.iaload, 1) := by decide +kernel
theorem dX2_extend_40 : decode cX2_extend 40 = .ok (.istore 4, 2) := by decide +kernel
theorem dX2_extend_42 : decode cX2_extend 42 = .ok (.aload_n 0, 1) := by decide +kernel
theorem dX2_extend_43 : decode cX2_extend 43 = .ok (.getfield 15, 3) := by decide +kernel
theorem dX2_extend_46 : decode cX2_extend 46 = .ok (.iload_n 3, 1) := by decide +kernel
theorem dX2_extend_47 : decode cX2_extend 47 = .ok (.iconst 1, 1) := by decide +kernel
theorem dX2_extend_48 : decode cX2_extend 48 = .ok (.iadd, 1) := by decide +kernel
theorem dX2_extend_49 : decode cX2_extend 49 = .ok (.aload_n 0, 1) := by decide +kernel
theorem dX2_extend_50 : decode cX2_extend 50 = .ok (.getfield 9, 3) := by decide +kernel
theorem dX2_extend_53 : decode cX2_extend 53 = .ok (.iload_n 3, 1) := by decide +kernel
theorem dX2_extend_54 : decode cX2_extend 54 = .ok (.iaload, 1) := by decide +kernel
theorem dX2_extend_55 : decode cX2_extend 55 = .ok (.iload_n 1, 1) := by decide +kernel
theorem dX2_extend_56 : decode cX2_extend 56 = .ok (.if_icmp .ne 9, 3) := by decide +kernel
theorem dX2_extend_59 : decode cX2_extend 59 = .ok (.iload_n 2, 1) := by decide +kernel
theorem dX2_extend_60 : decode cX2_extend 60 = .ok (.iconst 1, 1) := by decide +kernel
theorem dX2_extend_61 : decode cX2_extend 61 = .ok (.iadd, 1) := by decide +kernel
theorem dX2_extend_62 : decode cX2_extend 62 = .ok (.goto 14, 3) := by decide +kernel
theorem dX2_extend_65 : decode cX2_extend 65 = .ok (.iload 4, 2) := by decide +kernel
theorem dX2_extend_67 : decode cX2_extend 67 = .ok (.aload_n 0, 1) := by decide +kernel
theorem dX2_extend_68 : decode cX2_extend 68 = .ok (.getfield 15, 3) := by decide +kernel
theorem dX2_extend_71 : decode cX2_extend 71 = .ok (.iload_n 3, 1) := by decide +kernel
theorem dX2_extend_72 : decode cX2_extend 72 = .ok (.iaload, 1) := by decide +kernel
theorem dX2_extend_73 : decode cX2_extend 73 = .ok (.invokestatic 53, 3) := by decide +kernel
theorem dX2_extend_76 : decode cX2_extend 76 = .ok (.iastore, 1) := by decide +kernel
theorem dX2_extend_77 : decode cX2_extend 77 = .ok (.iload 4, 2) := by decide +kernel
theorem dX2_extend_79 : decode cX2_extend 79 = .ok (.istore_n 2, 1) := by decide +kernel
theorem dX2_extend_80 : decode cX2_extend 80 = .ok (.iinc 3 1, 3) := by decide +kernel
theorem dX2_extend_83 : decode cX2_extend 83 = .ok (.goto (-79), 3) := by decide +kernel
theorem dX2_extend_86 : decode cX2_extend 86 = .ok (.return_, 1) := by decide +kernel
theorem dX3_init_0 : decode cX3_init 0 = .ok (.aload_n 0, 1) := by decide +kernel
theorem dX3_init_1 : decode cX3_init 1 = .ok (.invokespecial 3, 3) := by decide +kernel
theorem dX3_init_4 : decode cX3_init 4 = .ok (.aload_n 0, 1) := by decide +kernel
theorem dX3_init_5 : decode cX3_init 5 = .ok (.iconst 4, 1) := by decide +kernel
theorem dX3_init_6 : decode cX3_init 6 = .ok (.newarray .int, 2) := by decide +kernel
theorem dX3_init_8 : decode cX3_init 8 = .ok (.putfield 9, 3) := by decide +kernel
theorem dX3_init_11 : decode cX3_init 11 = .ok (.return_, 1) := by decide +kernel
set_option maxRecDepth 20000 in
theorem ggX3_rest_J7_fill_53178 : GoodIn wsX3_rest wsJ7_fill_53178 := goodIn_r _ [5] (by decide +kernel) (by decide +kernel)
set_option maxRecDepth 20000 in
theorem gX3_rest_J7_fill_53178 : GoodIn wsX3_rest (va_wsS RX3 15 yJ7_fill_53178 wsJ7_fill_53178) := goodIn_app (goodIn_of _ (by decide +kernel)) ggX3_rest_J7_fill_53178
theorem dX3_rest_0 : decode cX3_rest 0 = .ok (.aload_n 0, 1) := by decide +kernel
theorem dX3_rest_1 : decode cX3_rest 1 = .ok (.getfield 9, 3) := by decide +kernel
theorem dX3_rest_4 : decode cX3_rest 4 = .ok (.iconst 0, 1) := by decide +kernel
theorem dX3_rest_5 : decode cX3_rest 5 = .ok (.invokestatic 15, 3) := by decide +kernel
theorem dX3_rest_8 : decode cX3_rest 8 = .ok (.return_, 1) := by decide +kernel
theorem dX3_pick_0 : decode cX3_pick 0 = .ok (.iconst (-1), 1) := by decide +kernel
theorem dX3_pick_1 : decode cX3_pick 1 = .ok (.istore 5, 2) := by decide +kernel
theorem dX3_pick_3 : decode cX3_pick 3 = .ok (.iconst 0, 1) := by decide +kernel
theorem dX3_pick_4 : decode cX3_pick 4 = .ok (.istore 6, 2) := by decide +kernel
theorem dX3_pick_6 : decode cX3_pick 6 = .ok (.iload 6, 2) := by decide +kernel
theorem dX3_pick_8 : decode cX3_pick 8 = .ok (.aload_n 1, 1) := by decide +kernel
theorem dX3_pick_9 : decode cX3_pick 9 = .ok (.getfield 21, 3) := by decide +kernel
theorem dX3_pick_12 : decode cX3_pick 12 = .ok (.if_icmp .ge 72, 3) := by decide +kernel
theorem dX3_pick_15 : decode cX3_pick 15 = .ok (.iload 6, 2) := by decide +kernel
theorem dX3_pick_17 : decode cX3_pick 17 = .ok (.aload_n 0, 1) := by decide +kernel
theorem dX3_pick_18 : decode cX3_pick 18 = .ok (.getfield 9, 3) := by decide +kernel
theorem dX3_pick_21 : decode cX3_pick 21 = .ok (.arraylength, 1) := by decide +kernel
theorem dX3_pick_22 : decode cX3_pick 22 = .ok (.if_icmp .ge 62, 3) := by decide +kernel
theorem dX3_pick_25 : decode cX3_pick 25 = .ok (.iload 6, 2) := by decide +kernel
theorem dX3_pick_27 : decode cX3_pick 27 = .ok (.aload_n 1, 1) := by decide +kernel
theorem dX3_pick_28 : decode cX3_pick 28 = .ok (.getfield 27, 3) := by decide +kernel
theorem dX3_pick_31 : decode cX3_pick 31 = .ok (.arraylength, 1) := by decide +kernel
theorem dX3_pick_32 : decode cX3_pick 32 = .ok (.if_icmp .ge 52, 3) := by decide +kernel
theorem dX3_pick_35 : decode cX3_pick 35 = .ok (.aload_n 1, 1) := by decide +kernel
theorem dX3_pick_36 : decode cX3_pick 36 = .ok (.getfield 27, 3) := by decide +kernel
theorem dX3_pick_39 : decode cX3_pick 39 = .ok (.iload 6, 2) := by decide +kernel
theorem dX3_pick_41 : decode cX3_pick 41 = .ok (.iaload, 1) := by decide +kernel
theorem dX3_pick_42 : decode cX3_pick 42 = .ok (.iload_n 2, 1) := by decide +kernel
theorem dX3_pick_43 : decode cX3_pick 43 = .ok (.ishr, 1) := by decide +kernel
theorem dX3_pick_44 : decode cX3_pick 44 = .ok (.iconst 1, 1) := by decide +kernel
theorem dX3_pick_45 : decode cX3_pick 45 = .ok (.iand, 1) := by decide +kernel
theorem dX3_pick_46 : decode cX3_pick 46 = .ok (.iconst 1, 1) := by decide +kernel
theorem dX3_pick_47 : decode cX3_pick 47 = .ok (.if_icmp .ne 31, 3) := by decide +kernel
theorem dX3_pick_50 : decode cX3_pick 50 = .ok (.iload_n 3, 1) := by decide +kernel
theorem dX3_pick_51 : decode cX3_pick 51 = .ok (.iload 6, 2) := by decide +kernel
theorem dX3_pick_53 : decode cX3_pick 53 = .ok (.ishr, 1) := by decide +kernel
theorem dX3_pick_54 : decode cX3_pick 54 = .ok (.iconst 1, 1) := by decide +kernel
theorem dX3_pick_55 : decode cX3_pick 55 = .ok (.iand, 1) := by decide +kernel
theorem dX3_pick_56 : decode cX3_pick 56 = .ok (.ifCond .ne 22, 3) := by decide +kernel
theorem dX3_pick_59 : decode cX3_pick 59 = .ok (.aload_n 0, 1) := by decide +kernel
theorem dX3_pick_60 : decode cX3_pick 60 = .ok (.getfield 9, 3) := by decide +kernel
theorem dX3_pick_63 : decode cX3_pick 63 = .ok (.iload 6, 2) := by decide +kernel
theorem dX3_pick_65 : decode cX3_pick 65 = .ok (.iaload, 1) := by decide +kernel
theorem dX3_pick_66 : decode cX3_pick 66 = .ok (.iload 4, 2) := by decide +kernel
theorem dX3_pick_68 : decode cX3_pick 68 = .ok (.if_icmp .gt 6, 3) := by decide +kernel
theorem dX3_pick_71 : decode cX3_pick 71 = .ok (.iload 6, 2) := by decide +kernel
theorem dX3_pick_73 : decode cX3_pick 73 = .ok (.ireturn, 1) := by decide +kernel
theorem dX3_pick_74 : decode cX3_pick 74 = .ok (.bipush (-2), 2) := by decide +kernel
theorem dX3_pick_76 : decode cX3_pick 76 = .ok (.istore 5, 2) := by decide +kernel
theorem dX3_pick_78 : decode cX3_pick 78 = .ok (.iinc 6 1, 3) := by decide +kernel
theorem dX3_pick_81 : decode cX3_pick 81 = .ok (.goto (-75), 3) := by decide +kernel
theorem dX3_pick_84 : decode cX3_pick 84 = .ok (.iload 5, 2) := by decide +kernel
theorem dX3_pick_86 : decode cX3_pick 86 = .ok (.ireturn, 1) := by decide +kernel
theorem dX3_take_0 : decode cX3_take 0 = .ok (.iload_n 1, 1) := by decide +kernel
theorem dX3_take_1 : decode cX3_take 1 = .ok (.ifCond .lt 19, 3) := by decide +kernel
theorem dX3_take_4 : decode cX3_take 4 = .ok (.iload_n 1, 1) := by decide +kernel
theorem dX3_take_5 : decode cX3_take 5 = .ok (.aload_n 0, 1) := by decide +kernel
theorem dX3_take_6 : decode cX3_take 6 = .ok (.getfield 9, 3) := by decide +kernel
theorem dX3_take_9 : decode cX3_take 9 = .ok (.arraylength, 1) := by decide +kernel
theorem dX3_take_10 : decode cX3_take 10 = .ok (.if_icmp .ge 10, 3) := by decide +kernel
theorem dX3_take_13 : decode cX3_take 13 = .ok (.aload_n 0, 1) := by decide +kernel
theorem dX3_take_14 : decode cX3_take 14 = .ok (.getfield 9, 3) := by decide +kernel
theorem dX3_take_17 : decode cX3_take 17 = .ok (.iload_n 1, 1) := by decide +kernel
theorem dX3_take_18 : decode cX3_take 18 = .ok (.iload_n 2, 1) := by decide +kernel
theorem dX3_take_19 : decode cX3_take 19 = .ok (.iastore, 1) := by decide +kernel
theorem dX3_take_20 : decode cX3_take 20 = .ok (.return_, 1) := by decide +kernel
theorem dX4_init_0 : decode cX4_init 0 = .ok (.aload_n 0, 1) := by decide +kernel
theorem dX4_init_1 : decode cX4_init 1 = .ok (.invokespecial 3, 3) := by decide +kernel
theorem dX4_init_4 : decode cX4_init 4 = .ok (.aload_n 0, 1) := by decide +kernel
theorem dX4_init_5 : decode cX4_init 5 = .ok (.sipush 600, 3) := by decide +kernel
theorem dX4_init_8 : decode cX4_init 8 = .ok (.newarray .int, 2) := by decide +kernel
theorem dX4_init_10 : decode cX4_init 10 = .ok (.putfield 9, 3) := by decide +kernel
theorem dX4_init_13 : decode cX4_init 13 = .ok (.aload_n 0, 1) := by decide +kernel
theorem dX4_init_14 : decode cX4_init 14 = .ok (.iconst 0, 1) := by decide +kernel
theorem dX4_init_15 : decode cX4_init 15 = .ok (.putfield 15, 3) := by decide +kernel
theorem dX4_init_18 : decode cX4_init 18 = .ok (.aload_n 0, 1) := by decide +kernel
theorem dX4_init_19 : decode cX4_init 19 = .ok (.iconst 0, 1) := by decide +kernel
theorem dX4_init_20 : decode cX4_init 20 = .ok (.putfield 19, 3) := by decide +kernel
theorem dX4_init_23 : decode cX4_init 23 = .ok (.aload_n 0, 1) := by decide +kernel
theorem dX4_init_24 : decode cX4_init 24 = .ok (.iconst 0, 1) := by decide +kernel
theorem dX4_init_25 : decode cX4_init 25 = .ok (.putfield 22, 3) := by decide +kernel
theorem dX4_init_28 : decode cX4_init 28 = .ok (.aload_n 0, 1) := by decide +kernel
theorem dX4_init_29 : decode cX4_init 29 = .ok (.iconst 0, 1) := by decide +kernel
theorem dX4_init_30 : decode cX4_init 30 = .ok (.putfield 25, 3) := by decide +kernel
theorem dX4_init_33 : decode cX4_init 33 = .ok (.aload_n 0, 1) := by decide +kernel
theorem dX4_init_34 : decode cX4_init 34 = .ok (.iconst 0, 1) := by decide +kernel
theorem dX4_init_35 : decode cX4_init 35 = .ok (.putfield 28, 3) := by decide +kernel
theorem dX4_init_38 : decode cX4_init 38 = .ok (.aload_n 0, 1) := by decide +kernel
theorem dX4_init_39 : decode cX4_init 39 = .ok (.iconst 0, 1) := by decide +kernel
theorem dX4_init_40 : decode cX4_init 40 = .ok (.putfield 31, 3) := by decide +kernel
theorem dX4_init_43 : decode cX4_init 43 = .ok (.aload_n 0, 1) := by decide +kernel
theorem dX4_init_44 : decode cX4_init 44 = .ok (.iconst 0, 1) := by decide +kernel
theorem dX4_init_45 : decode cX4_init 45 = .ok (.putfield 34, 3) := by decide +kernel
theorem dX4_init_48 : decode cX4_init 48 = .ok (.aload_n 0, 1) := by decide +kernel
theorem dX4_init_49 : decode cX4_init 49 = .ok (.iconst 0, 1) := by decide +kernel
theorem dX4_init_50 : decode cX4_init 50 = .ok (.putfield 37, 3) := by decide +kernel
theorem dX4_init_53 : decode cX4_init 53 = .ok (.aload_n 0, 1) := by decide +kernel
theorem dX4_init_54 : decode cX4_init 54 = .ok (.iconst 0, 1) := by decide +kernel
theorem dX4_init_55 : decode cX4_init 55 = .ok (.putfield 40, 3) := by decide +kernel
theorem dX4_init_58 : decode cX4_init 58 = .ok (.aload_n 0, 1) := by decide +kernel
theorem dX4_init_59 : decode cX4_init 59 = .ok (.iconst 0, 1) := by decide +kernel
theorem dX4_init_60 : decode cX4_init 60 = .ok (.putfield 43, 3) := by decide +kernel
theorem dX4_init_63 : decode cX4_init 63 = .ok (.aload_n 0, 1) := by decide +kernel
theorem dX4_init_64 : decode cX4_init 64 = .ok (.bipush 48, 2) := by decide +kernel
theorem dX4_init_66 : decode cX4_init 66 = .ok (.newarray .int, 2) := by decide +kernel
theorem dX4_init_68 : decode cX4_init 68 = .ok (.putfield 46, 3) := by decide +kernel
theorem dX4_init_71 : decode cX4_init 71 = .ok (.aload_n 0, 1) := by decide +kernel
theorem dX4_init_72 : decode cX4_init 72 = .ok (.bipush 48, 2) := by decide +kernel
theorem dX4_init_74 : decode cX4_init 74 = .ok (.newarray .int, 2) := by decide +kernel
theorem dX4_init_76 : decode cX4_init 76 = .ok (.putfield 49, 3) := by decide +kernel
theorem dX4_init_79 : decode cX4_init 79 = .ok (.aload_n 0, 1) := by decide +kernel
theorem dX4_init_80 : decode cX4_init 80 = .ok (.iconst 0, 1) := by decide +kernel
theorem dX4_init_81 : decode cX4_init 81 = .ok (.putfield 52, 3) := by decide +kernel
theorem dX4_init_84 : decode cX4_init 84 = .ok (.return_, 1) := by decide +kernel
theorem dX4_hasRoomFor_0 : decode cX4_hasRoomFor 0 = .ok (.aload_n 0, 1) := by decide +kernel
theorem dX4_hasRoomFor_1 : decode cX4_hasRoomFor 1 = .ok (.getfield 15, 3) := by decide +kernel
theorem dX4_hasRoomFor_4 : decode cX4_hasRoomFor 4 = .ok (.iload_n 1, 1) := by decide +kernel
theorem dX4_hasRoomFor_5 : decode cX4_hasRoomFor 5 = .ok (.iadd, 1) := by decide +kernel
theorem dX4_hasRoomFor_6 : decode cX4_hasRoomFor 6 = .ok (.sipush 600, 3) := by decide +kernel
theorem dX4_hasRoomFor_9 : decode cX4_hasRoomFor 9 = .ok (.if_icmp .gt 7, 3) := by decide +kernel
theorem dX4_hasRoomFor_12 : decode cX4_hasRoomFor 12 = .ok (.iconst 1, 1) := by decide +kernel
theorem dX4_hasRoomFor_13 : decode cX4_hasRoomFor 13 = .ok (.goto 4, 3) := by decide +kernel
theorem dX4_hasRoomFor_16 : decode cX4_hasRoomFor 16 = .ok (.iconst 0, 1) := by decide +kernel
theorem dX4_hasRoomFor_17 : decode cX4_hasRoomFor 17 = .ok (.ireturn, 1) := by decide +kernel
theorem dX4_put_0 : decode cX4_put 0 = .ok (.bipush 24, 2) := by decide +kernel
theorem dX4_put_2 : decode cX4_put 2 = .ok (.istore_n 2, 1) := by decide +kernel
theorem dX4_put_3 : decode cX4_put 3 = .ok (.iload_n 2, 1) := by decide +kernel
theorem dX4_put_4 : decode cX4_put 4 = .ok (.ifCond .lt 54, 3) := by decide +kernel
theorem dX4_put_7 : decode cX4_put 7 = .ok (.aload_n 0, 1) := by decide +kernel
theorem dX4_put_8 : decode cX4_put 8 = .ok (.getfield 15, 3) := by decide +kernel
theorem dX4_put_11 : decode cX4_put 11 = .ok (.ifCond .lt 41, 3) := by decide +kernel
theorem dX4_put_14 : decode cX4_put 14 = .ok (.aload_n 0, 1) := by decide +kernel
theorem dX4_put_15 : decode cX4_put 15 = .ok (.getfield 15, 3) := by decide +kernel
theorem dX4_put_18 : decode cX4_put 18 = .ok (.aload_n 0, 1) := by decide +kernel
theorem dX4_put_19 : decode cX4_put 19 = .ok (.getfield 9, 3) := by decide +kernel
theorem dX4_put_22 : decode cX4_put 22 = .ok (.arraylength, 1) := by decide +kernel
theorem dX4_put_23 : decode cX4_put 23 = .ok (.if_icmp .ge 29, 3) := by decide +kernel
theorem dX4_put_26 : decode cX4_put 26 = .ok (.aload_n 0, 1) := by decide +kernel
theorem dX4_put_27 : decode cX4_put 27 = .ok (.getfield 9, 3) := by decide +kernel
theorem dX4_put_30 : decode cX4_put 30 = .ok (.aload_n 0, 1) := by decide +kernel
theorem dX4_put_31 : decode cX4_put 31 = .ok (.getfield 15, 3) := by decide +kernel
theorem dX4_put_34 : decode cX4_put 34 = .ok (.iload_n 1, 1) := by decide +kernel
theorem dX4_put_35 : decode cX4_put 35 = .ok (.iload_n 2, 1) := by decide +kernel
theorem dX4_put_36 : decode cX4_put 36 = .ok (.iushr, 1) := by decide +kernel
theorem dX4_put_37 : decode cX4_put 37 = .ok (.sipush 255, 3) := by decide +kernel
theorem dX4_put_40 : decode cX4_put 40 = .ok (.iand, 1) := by decide +kernel
theorem dX4_put_41 : decode cX4_put 41 = .ok (.iastore, 1) := by decide +kernel
theorem dX4_put_42 : decode cX4_put 42 = .ok (.aload_n 0, 1) := by decide +kernel
theorem dX4_put_43 : decode cX4_put 43 = .ok (.dup, 1) := by decide +kernel
theorem dX4_put_44 : decode cX4_put 44 = .ok (.getfield 15, 3) := by decide +kernel
theorem dX4_put_47 : decode cX4_put 47 = .ok (.iconst 1, 1) := by decide +kernel
theorem dX4_put_48 : decode cX4_put 48 = .ok (.iadd, 1) := by decide +kernel
theorem dX4_put_49 : decode cX4_put 49 = .ok (.putfield 15, 3) := by decide +kernel
theorem dX4_put_52 : decode cX4_put 52 = .ok (.iinc 2 (-8), 3) := by decide +kernel
theorem dX4_put_55 : decode cX4_put 55 = .ok (.goto (-52), 3) := by decide +kernel
theorem dX4_put_58 : decode cX4_put 58 = .ok (.return_, 1) := by decide +kernel
theorem dX4_byteAt_0 : decode cX4_byteAt 0 = .ok (.iload_n 1, 1) := by decide +kernel
theorem dX4_byteAt_1 : decode cX4_byteAt 1 = .ok (.ifCond .lt 29, 3) := by decide +kernel
theorem dX4_byteAt_4 : decode cX4_byteAt 4 = .ok (.iload_n 1, 1) := by decide +kernel
theorem dX4_byteAt_5 : decode cX4_byteAt 5 = .ok (.aload_n 0, 1) := by decide +kernel
theorem dX4_byteAt_6 : decode cX4_byteAt 6 = .ok (.getfield 19, 3) := by decide +kernel
theorem dX4_byteAt_9 : decode cX4_byteAt 9 = .ok (.if_icmp .ge 21, 3) := by decide +kernel
theorem dX4_byteAt_12 : decode cX4_byteAt 12 = .ok (.iload_n 1, 1) := by decide +kernel
theorem dX4_byteAt_13 : decode cX4_byteAt 13 = .ok (.aload_n 0, 1) := by decide +kernel
theorem dX4_byteAt_14 : decode cX4_byteAt 14 = .ok (.getfield 9, 3) := by decide +kernel
theorem dX4_byteAt_17 : decode cX4_byteAt 17 = .ok (.arraylength, 1) := by decide +kernel
theorem dX4_byteAt_18 : decode cX4_byteAt 18 = .ok (.if_icmp .ge 12, 3) := by decide +kernel
theorem dX4_byteAt_21 : decode cX4_byteAt 21 = .ok (.aload_n 0, 1) := by decide +kernel
theorem dX4_byteAt_22 : decode cX4_byteAt 22 = .ok (.getfield 9, 3) := by decide +kernel
theorem dX4_byteAt_25 : decode cX4_byteAt 25 = .ok (.iload_n 1, 1) := by decide +kernel
theorem dX4_byteAt_26 : decode cX4_byteAt 26 = .ok (.iaload, 1) := by decide +kernel
theorem dX4_byteAt_27 : decode cX4_byteAt 27 = .ok (.goto 4, 3) := by decide +kernel
theorem dX4_byteAt_30 : decode cX4_byteAt 30 = .ok (.iconst (-1), 1) := by decide +kernel
theorem dX4_byteAt_31 : decode cX4_byteAt 31 = .ok (.ireturn, 1) := by decide +kernel
theorem dX4_isBlank_0 : decode cX4_isBlank 0 = .ok (.iload_n 0, 1) := by decide +kernel
theorem dX4_isBlank_1 : decode cX4_isBlank 1 = .ok (.bipush 32, 2) := by decide +kernel
theorem dX4_isBlank_3 : decode cX4_isBlank 3 = .ok (.if_icmp .eq 9, 3) := by decide +kernel
theorem dX4_isBlank_6 : decode cX4_isBlank 6 = .ok (.iload_n 0, 1) := by decide +kernel
theorem dX4_isBlank_7 : decode cX4_isBlank 7 = .ok (.bipush 10, 2) := by decide +kernel
theorem dX4_isBlank_9 : decode cX4_isBlank 9 = .ok (.if_icmp .ne 7, 3) := by decide +kernel
theorem dX4_isBlank_12 : decode cX4_isBlank 12 = .ok (.iconst 1, 1) := by decide +kernel
theorem dX4_isBlank_13 : decode cX4_isBlank 13 = .ok (.goto 4, 3) := by decide +kernel
theorem dX4_isBlank_16 : decode cX4_isBlank 16 = .ok (.iconst 0, 1) := by decide +kernel
theorem dX4_isBlank_17 : decode cX4_isBlank 17 = .ok (.ireturn, 1) := by decide +kernel
theorem dX4_isLetter_0 : decode cX4_isLetter 0 = .ok (.iload_n 0, 1) := by decide +kernel
theorem dX4_isLetter_1 : decode cX4_isLetter 1 = .ok (.bipush 97, 2) := by decide +kernel
theorem dX4_isLetter_3 : decode cX4_isLetter 3 = .ok (.if_icmp .lt 13, 3) := by decide +kernel
theorem dX4_isLetter_6 : decode cX4_isLetter 6 = .ok (.iload_n 0, 1) := by decide +kernel
theorem dX4_isLetter_7 : decode cX4_isLetter 7 = .ok (.bipush 122, 2) := by decide +kernel
theorem dX4_isLetter_9 : decode cX4_isLetter 9 = .ok (.if_icmp .gt 7, 3) := by decide +kernel
theorem dX4_isLetter_12 : decode cX4_isLetter 12 = .ok (.iconst 1, 1) := by decide +kernel
theorem dX4_isLetter_13 : decode cX4_isLetter 13 = .ok (.goto 4, 3) := by decide +kernel
theorem dX4_isLetter_16 : decode cX4_isLetter 16 = .ok (.iconst 0, 1) := by decide +kernel
theorem dX4_isLetter_17 : decode cX4_isLetter 17 = .ok (.ireturn, 1) := by decide +kernel
theorem dX4_isDigit_0 : decode cX4_isDigit 0 = .ok (.iload_n 0, 1) := by decide +kernel
theorem dX4_isDigit_1 : decode cX4_isDigit 1 = .ok (.bipush 48, 2) := by decide +kernel
theorem dX4_isDigit_3 : decode cX4_isDigit 3 = .ok (.if_icmp .lt 13, 3) := by decide +kernel
theorem dX4_isDigit_6 : decode cX4_isDigit 6 = .ok (.iload_n 0, 1) := by decide +kernel
theorem dX4_isDigit_7 : decode cX4_isDigit 7 = .ok (.bipush 57, 2) := by decide +kernel
theorem dX4_isDigit_9 : decode cX4_isDigit 9 = .ok (.if_icmp .gt 7, 3) := by decide +kernel
theorem dX4_isDigit_12 : decode cX4_isDigit 12 = .ok (.iconst 1, 1) := by decide +kernel
theorem dX4_isDigit_13 : decode cX4_isDigit 13 = .ok (.goto 4, 3) := by decide +kernel
theorem dX4_isDigit_16 : decode cX4_isDigit 16 = .ok (.iconst 0, 1) := by decide +kernel
theorem dX4_isDigit_17 : decode cX4_isDigit 17 = .ok (.ireturn, 1) := by decide +kernel
set_option maxRecDepth 20000 in
theorem ggX4_advance_X4_byteAt : GoodIn wsX4_advance wsX4_byteAt := goodIn_r _ [10, 2, 11, 21, 22, 23, 24, 25, 26, 27, 28, 29, 30, 31, 32, 33, 34] (by decide +kernel) (by decide +kernel)
set_option maxRecDepth 20000 in
theorem gX4_advance_X4_byteAt : GoodIn wsX4_advance (wsV RX4 55 RX4 yX4_byteAt wsX4_byteAt) := goodIn_app (goodIn_of _ (by decide +kernel)) ggX4_advance_X4_byteAt
set_option maxRecDepth 20000 in
theorem ggX4_advance_X4_isBlank : GoodIn wsX4_advance wsX4_isBlank := goodIn_r _ [14] (by decide +kernel) (by decide +kernel)
set_option maxRecDepth 20000 in
theorem gX4_advance_X4_isBlank : GoodIn wsX4_advance (va_wsS RX4 59 yX4_isBlank wsX4_isBlank) := goodIn_app (goodIn_of _ (by decide +kernel)) ggX4_advance_X4_isBlank
set_option maxRecDepth 20000 in
theorem ggX4_advance_X4_isLetter : GoodIn wsX4_advance wsX4_isLetter := goodIn_r _ [17] (by decide +kernel) (by decide +kernel)
set_option maxRecDepth 20000 in
theorem gX4_advance_X4_isLetter : GoodIn wsX4_advance (va_wsS RX4 63 yX4_isLetter wsX4_isLetter) := goodIn_app (goodIn_of _ (by decide +kernel)) ggX4_advance_X4_isLetter
set_option maxRecDepth 20000 in
theorem ggX4_advance_X4_isDigit : GoodIn wsX4_advance wsX4_isDigit := goodIn_r _ [20] (by decide +kernel) (by decide +kernel)
set_option maxRecDepth 20000 in
theorem gX4_advance_X4_isDigit : GoodIn wsX4_advance (va_wsS RX4 66 yX4_isDigit wsX4_isDigit) := goodIn_app (goodIn_of _ (by decide +kernel)) ggX4_advance_X4_isDigit
theorem dX4_advance_0 : decode cX4_advance 0 = .ok (.aload_n 0, 1) := by decide +kernel
theorem dX4_advance_1 : decode cX4_advance 1 = .ok (.getfield 22, 3) := by decide +kernel
theorem dX4_advance_4 : decode cX4_advance 4 = .ok (.aload_n 0, 1) := by decide +kernel
theorem dX4_advance_5 : decode cX4_advance 5 = .ok (.getfield 19, 3) := by decide +kernel
theorem dX4_advance_8 : decode cX4_advance 8 = .ok (.if_icmp .ge 30, 3) := by decide +kernel
theorem dX4_advance_11 : decode cX4_advance 11 = .ok (.aload_n 0, 1) := by decide +kernel
theorem dX4_advance_12 : decode cX4_advance 12 = .ok (.aload_n 0, 1) := by decide +kernel
theorem dX4_advance_13 : decode cX4_advance 13 = .ok (.getfield 22, 3) := by decide +kernel
theorem dX4_advance_16 : decode cX4_advance 16 = .ok (.invokevirtual 55, 3) := by decide +kernel
theorem dX4_advance_19 : decode cX4_advance 19 = .ok (.invokestatic 59, 3) := by decide +kernel
theorem dX4_advance_22 : decode cX4_advance 22 = .ok (.ifCond .eq 16, 3) := by decide +kernel
theorem dX4_advance_25 : decode cX4_advance 25 = .ok (.aload_n 0, 1) := by decide +kernel
theorem dX4_advance_26 : decode cX4_advance 26 = .ok (.dup, 1) := by decide +kernel
theorem dX4_advance_27 : decode cX4_advance 27 = .ok (.getfield 22, 3) := by decide +kernel
theorem dX4_advance_30 : decode cX4_advance 30 = .ok (.iconst 1, 1) := by decide +kernel
theorem dX4_advance_31 : decode cX4_advance 31 = .ok (.iadd, 1) := by decide +kernel
theorem dX4_advance_32 : decode cX4_advance 32 = .ok (.putfield 22, 3) := by decide +kernel
theorem dX4_advance_35 : decode cX4_advance 35 = .ok (.goto (-35), 3) := by decide +kernel
theorem dX4_advance_38 : decode cX4_advance 38 = .ok (.aload_n 0, 1) := by decide +kernel
theorem dX4_advance_39 : decode cX4_advance 39 = .ok (.aload_n 0, 1) := by decide +kernel
theorem dX4_advance_40 : decode cX4_advance 40 = .ok (.getfield 22, 3) := by decide +kernel
theorem dX4_advance_43 : decode cX4_advance 43 = .ok (.putfield 28, 3) := by decide +kernel
theorem dX4_advance_46 : decode cX4_advance 46 = .ok (.aload_n 0, 1) := by decide +kernel
theorem dX4_advance_47 : decode cX4_advance 47 = .ok (.getfield 22, 3) := by decide +kernel
theorem dX4_advance_50 : decode cX4_advance 50 = .ok (.aload_n 0, 1) := by decide +kernel
theorem dX4_advance_51 : decode cX4_advance 51 = .ok (.getfield 19, 3) := by decide +kernel
theorem dX4_advance_54 : decode cX4_advance 54 = .ok (.if_icmp .ge 30, 3) := by decide +kernel
theorem dX4_advance_57 : decode cX4_advance 57 = .ok (.aload_n 0, 1) := by decide +kernel
theorem dX4_advance_58 : decode cX4_advance 58 = .ok (.aload_n 0, 1) := by decide +kernel
theorem dX4_advance_59 : decode cX4_advance 59 = .ok (.getfield 22, 3) := by decide +kernel
theorem dX4_advance_62 : decode cX4_advance 62 = .ok (.invokevirtual 55, 3) := by decide +kernel
theorem dX4_advance_65 : decode cX4_advance 65 = .ok (.invokestatic 63, 3) := by decide +kernel
theorem dX4_advance_68 : decode cX4_advance 68 = .ok (.ifCond .eq 16, 3) := by decide +kernel
theorem dX4_advance_71 : decode cX4_advance 71 = .ok (.aload_n 0, 1) := by decide +kernel
theorem dX4_advance_72 : decode cX4_advance 72 = .ok (.dup, 1) := by decide +kernel
theorem dX4_advance_73 : decode cX4_advance 73 = .ok (.getfield 22, 3) := by decide +kernel
theorem dX4_advance_76 : decode cX4_advance 76 = .ok (.iconst 1, 1) := by decide +kernel
theorem dX4_advance_77 : decode cX4_advance 77 = .ok (.iadd, 1) := by decide +kernel
theorem dX4_advance_78 : decode cX4_advance 78 = .ok (.putfield 22, 3) := by decide +kernel
theorem dX4_advance_81 : decode cX4_advance 81 = .ok (.goto (-35), 3) := by decide +kernel
theorem dX4_advance_84 : decode cX4_advance 84 = .ok (.aload_n 0, 1) := by decide +kernel
theorem dX4_advance_85 : decode cX4_advance 85 = .ok (.getfield 22, 3) := by decide +kernel
theorem dX4_advance_88 : decode cX4_advance 88 = .ok (.aload_n 0, 1) := by decide +kernel
theorem dX4_advance_89 : decode cX4_advance 89 = .ok (.getfield 28, 3) := by decide +kernel
theorem dX4_advance_92 : decode cX4_advance 92 = .ok (.isub, 1) := by decide +kernel
theorem dX4_advance_93 : decode cX4_advance 93 = .ok (.istore_n 1, 1) := by decide +kernel
theorem dX4_advance_94 : decode cX4_advance 94 = .ok (.iload_n 1, 1) := by decide +kernel
theorem dX4_advance_95 : decode cX4_advance 95 = .ok (.ifCond .le 19, 3) := by decide +kernel
theorem dX4_advance_98 : decode cX4_advance 98 = .ok (.aload_n 0, 1) := by decide +kernel
theorem dX4_advance_99 : decode cX4_advance 99 = .ok (.iload_n 1, 1) := by decide +kernel
theorem dX4_advance_100 : decode cX4_advance 100 = .ok (.bipush 8, 2) := by decide +kernel
theorem dX4_advance_102 : decode cX4_advance 102 = .ok (.if_icmp .gt 7, 3) := by decide +kernel
theorem dX4_advance_105 : decode cX4_advance 105 = .ok (.iconst 1, 1) := by decide +kernel
theorem dX4_advance_106 : decode cX4_advance 106 = .ok (.goto 4, 3) := by decide +kernel
theorem dX4_advance_109 : decode cX4_advance 109 = .ok (.iconst 4, 1) := by decide +kernel
theorem dX4_advance_110 : decode cX4_advance 110 = .ok (.putfield 25, 3) := by decide +kernel
theorem dX4_advance_113 : decode cX4_advance 113 = .ok (.return_, 1) := by decide +kernel
theorem dX4_advance_114 : decode cX4_advance 114 = .ok (.aload_n 0, 1) := by decide +kernel
theorem dX4_advance_115 : decode cX4_advance 115 = .ok (.iconst 0, 1) := by decide +kernel
theorem dX4_advance_116 : decode cX4_advance 116 = .ok (.putfield 31, 3) := by decide +kernel
theorem dX4_advance_119 : decode cX4_advance 119 = .ok (.aload_n 0, 1) := by decide +kernel
theorem dX4_advance_120 : decode cX4_advance 120 = .ok (.getfield 22, 3) := by decide +kernel
theorem dX4_advance_123 : decode cX4_advance 123 = .ok (.aload_n 0, 1) := by decide +kernel
theorem dX4_advance_124 : decode cX4_advance 124 = .ok (.getfield 19, 3) := by decide +kernel
theorem dX4_advance_127 : decode cX4_advance 127 = .ok (.if_icmp .ge 53, 3) := by decide +kernel
theorem dX4_advance_130 : decode cX4_advance 130 = .ok (.aload_n 0, 1) := by decide +kernel
theorem dX4_advance_131 : decode cX4_advance 131 = .ok (.aload_n 0, 1) := by decide +kernel
theorem dX4_advance_132 : decode cX4_advance 132 = .ok (.getfield 22, 3) := by decide +kernel
theorem dX4_advance_135 : decode cX4_advance 135 = .ok (.invokevirtual 55, 3) := by decide +kernel
theorem dX4_advance_138 : decode cX4_advance 138 = .ok (.invokestatic 66, 3) := by decide +kernel
theorem dX4_advance_141 : decode cX4_advance 141 = .ok (.ifCond .eq 39, 3) := by decide +kernel
theorem dX4_advance_144 : decode cX4_advance 144 = .ok (.aload_n 0, 1) := by decide +kernel
theorem dX4_advance_145 : decode cX4_advance 145 = .ok (.aload_n 0, 1) := by decide +kernel
theorem dX4_advance_146 : decode cX4_advance 146 = .ok (.getfield 31, 3) := by decide +kernel
theorem dX4_advance_149 : decode cX4_advance 149 = .ok (.bipush 10, 2) := by decide +kernel
theorem dX4_advance_151 : decode cX4_advance 151 = .ok (.imul, 1) := by decide +kernel
theorem dX4_advance_152 : decode cX4_advance 152 = .ok (.aload_n 0, 1) := by decide +kernel
theorem dX4_advance_153 : decode cX4_advance 153 = .ok (.aload_n 0, 1) := by decide +kernel
theorem dX4_advance_154 : decode cX4_advance 154 = .ok (.getfield 22, 3) := by decide +kernel
theorem dX4_advance_157 : decode cX4_advance 157 = .ok (.invokevirtual 55, 3) := by decide +kernel
theorem dX4_advance_160 : decode cX4_advance 160 = .ok (.iadd, 1) := by decide +kernel
theorem dX4_advance_161 : decode cX4_advance 161 = .ok (.bipush 48, 2) := by decide +kernel
theorem dX4_advance_163 : decode cX4_advance 163 = .ok (.isub, 1) := by decide +kernel
theorem dX4_advance_164 : decode cX4_advance 164 = .ok (.putfield 31, 3) := by decide +kernel
theorem dX4_advance_167 : decode cX4_advance 167 = .ok (.aload_n 0, 1) := by decide +kernel
theorem dX4_advance_168 : decode cX4_advance 168 = .ok (.dup, 1) := by decide +kernel
theorem dX4_advance_169 : decode cX4_advance 169 = .ok (.getfield 22, 3) := by decide +kernel
theorem dX4_advance_172 : decode cX4_advance 172 = .ok (.iconst 1, 1) := by decide +kernel
theorem dX4_advance_173 : decode cX4_advance 173 = .ok (.iadd, 1) := by decide +kernel
theorem dX4_advance_174 : decode cX4_advance 174 = .ok (.putfield 22, 3) := by decide +kernel
theorem dX4_advance_177 : decode cX4_advance 177 = .ok (.goto (-58), 3) := by decide +kernel
theorem dX4_advance_180 : decode cX4_advance 180 = .ok (.aload_n 0, 1) := by decide +kernel
theorem dX4_advance_181 : decode cX4_advance 181 = .ok (.getfield 22, 3) := by decide +kernel
theorem dX4_advance_184 : decode cX4_advance 184 = .ok (.aload_n 0, 1) := by decide +kernel
theorem dX4_advance_185 : decode cX4_advance 185 = .ok (.getfield 28, 3) := by decide +kernel
theorem dX4_advance_188 : decode cX4_advance 188 = .ok (.isub, 1) := by decide +kernel
theorem dX4_advance_189 : decode cX4_advance 189 = .ok (.istore_n 2, 1) := by decide +kernel
theorem dX4_advance_190 : decode cX4_advance 190 = .ok (.iload_n 2, 1) := by decide +kernel
theorem dX4_advance_191 : decode cX4_advance 191 = .ok (.ifCond .le 18, 3) := by decide +kernel
theorem dX4_advance_194 : decode cX4_advance 194 = .ok (.aload_n 0, 1) := by decide +kernel
theorem dX4_advance_195 : decode cX4_advance 195 = .ok (.iload_n 2, 1) := by decide +kernel
theorem dX4_advance_196 : decode cX4_advance 196 = .ok (.iconst 2, 1) := by decide +kernel
theorem dX4_advance_197 : decode cX4_advance 197 = .ok (.if_icmp .gt 7, 3) := by decide +kernel
theorem dX4_advance_200 : decode cX4_advance 200 = .ok (.iconst 2, 1) := by decide +kernel
theorem dX4_advance_201 : decode cX4_advance 201 = .ok (.goto 4, 3) := by decide +kernel
theorem dX4_advance_204 : decode cX4_advance 204 = .ok (.iconst 4, 1) := by decide +kernel
theorem dX4_advance_205 : decode cX4_advance 205 = .ok (.putfield 25, 3) := by decide +kernel
theorem dX4_advance_208 : decode cX4_advance 208 = .ok (.return_, 1) := by decide +kernel
theorem dX4_advance_209 : decode cX4_advance 209 = .ok (.aload_n 0, 1) := by decide +kernel
theorem dX4_advance_210 : decode cX4_advance 210 = .ok (.aload_n 0, 1) := by decide +kernel
theorem dX4_advance_211 : decode cX4_advance 211 = .ok (.getfield 22, 3) := by decide +kernel
theorem dX4_advance_214 : decode cX4_advance 214 = .ok (.aload_n 0, 1) := by decide +kernel
theorem dX4_advance_215 : decode cX4_advance 215 = .ok (.getfield 19, 3) := by decide +kernel
theorem dX4_advance_218 : decode cX4_advance 218 = .ok (.if_icmp .lt 7, 3) := by decide +kernel
theorem dX4_advance_221 : decode cX4_advance 221 = .ok (.iconst 0, 1) := by decide +kernel
theorem dX4_advance_222 : decode cX4_advance 222 = .ok (.goto 21, 3) := by decide +kernel
theorem dX4_advance_225 : decode cX4_advance 225 = .ok (.aload_n 0, 1) := by decide +kernel
theorem dX4_advance_226 : decode cX4_advance 226 = .ok (.aload_n 0, 1) := by decide +kernel
theorem dX4_advance_227 : decode cX4_advance 227 = .ok (.getfield 22, 3) := by decide +kernel
theorem dX4_advance_230 : decode cX4_advance 230 = .ok (.invokevirtual 55, 3) := by decide +kernel
theorem dX4_advance_233 : decode cX4_advance 233 = .ok (.bipush 59, 2) := by decide +kernel
theorem dX4_advance_235 : decode cX4_advance 235 = .ok (.if_icmp .ne 7, 3) := by decide +kernel
theorem dX4_advance_238 : decode cX4_advance 238 = .ok (.iconst 3, 1) := by decide +kernel
theorem dX4_advance_239 : decode cX4_advance 239 = .ok (.goto 4, 3) := by decide +kernel
theorem dX4_advance_242 : decode cX4_advance 242 = .ok (.iconst 4, 1) := by decide +kernel
theorem dX4_advance_243 : decode cX4_advance 243 = .ok (.putfield 25, 3) := by decide +kernel
theorem dX4_advance_246 : decode cX4_advance 246 = .ok (.aload_n 0, 1) := by decide +kernel
theorem dX4_advance_247 : decode cX4_advance 247 = .ok (.dup, 1) := by decide +kernel
theorem dX4_advance_248 : decode cX4_advance 248 = .ok (.getfield 22, 3) := by decide +kernel
theorem dX4_advance_251 : decode cX4_advance 251 = .ok (.iconst 1, 1) := by decide +kernel
theorem dX4_advance_252 : decode cX4_advance 252 = .ok (.iadd, 1) := by decide +kernel
theorem dX4_advance_253 : decode cX4_advance 253 = .ok (.putfield 22, 3) := by decide +kernel
theorem dX4_advance_256 : decode cX4_advance 256 = .ok (.return_, 1) := by decide +kernel
theorem dX4_fail_0 : decode cX4_fail 0 = .ok (.aload_n 0, 1) := by decide +kernel
theorem dX4_fail_1 : decode cX4_fail 1 = .ok (.iload_n 1, 1) := by decide +kernel
theorem dX4_fail_2 : decode cX4_fail 2 = .ok (.putfield 40, 3) := by decide +kernel
theorem dX4_fail_5 : decode cX4_fail 5 = .ok (.aload_n 0, 1) := by decide +kernel
theorem dX4_fail_6 : decode cX4_fail 6 = .ok (.aload_n 0, 1) := by decide +kernel
theorem dX4_fail_7 : decode cX4_fail 7 = .ok (.getfield 28, 3) := by decide +kernel
theorem dX4_fail_10 : decode cX4_fail 10 = .ok (.putfield 43, 3) := by decide +kernel
theorem dX4_fail_13 : decode cX4_fail 13 = .ok (.iconst 0, 1) := by decide +kernel
theorem dX4_fail_14 : decode cX4_fail 14 = .ok (.ireturn, 1) := by decide +kernel
set_option maxRecDepth 20000 in
theorem ggX4_isWord_J0_length_8abf5 : GoodIn wsX4_isWord wsJ0_length_8abf5 := goodIn_r _ [8, 9, 10, 11, 12, 7, 13, 14, 15] (by decide +kernel) (by decide +kernel)
set_option maxRecDepth 20000 in
theorem gX4_isWord_J0_length_8abf5 : GoodIn wsX4_isWord (wsV RX4 69 RJ0 yJ0_length_8abf5 wsJ0_length_8abf5) := goodIn_app (goodIn_of _ (by decide +kernel)) ggX4_isWord_J0_length_8abf5
set_option maxRecDepth 20000 in
theorem ggX4_isWord_X4_byteAt : GoodIn wsX4_isWord wsX4_byteAt := goodIn_r _ [20, 21, 22, 60, 61, 62, 63, 64, 65, 66, 67, 68, 69, 70, 71, 72, 73] (by decide +kernel) (by decide +kernel)
set_option maxRecDepth 20000 in
theorem gX4_isWord_X4_byteAt : GoodIn wsX4_isWord (wsV RX4 55 RX4 yX4_byteAt wsX4_byteAt) := goodIn_app (goodIn_of _ (by decide +kernel)) ggX4_isWord_X4_byteAt
set_option maxRecDepth 20000 in
theorem ggX4_isWord_J0_charAt_5068e : GoodIn wsX4_isWord wsJ0_charAt_5068e := goodIn_r _ [26, 9, 27, 28, 29, 7, 30, 14, 15, 31, 32, 33, 34, 35, 36, 37, 38, 39, 40, 41, 42, 43, 44, 45, 46, 47, 48, 49, 50, 51, 52, 53, 54, 55, 56, 57, 58, 59] (by decide +kernel) (by decide +kernel)
set_option maxRecDepth 20000 in
theorem gX4_isWord_J0_charAt_5068e : GoodIn wsX4_isWord (wsV RX4 74 RJ0 yJ0_charAt_5068e wsJ0_charAt_5068e) := goodIn_app (goodIn_of _ (by decide +kernel)) ggX4_isWord_J0_charAt_5068e
theorem dX4_isWord_0 : decode cX4_isWord 0 = .ok (.aload_n 0, 1) := by decide +kernel
theorem dX4_isWord_1 : decode cX4_isWord 1 = .ok (.getfield 25, 3) := by decide +kernel
theorem dX4_isWord_4 : decode cX4_isWord 4 = .ok (.iconst 1, 1) := by decide +kernel
theorem dX4_isWord_5 : decode cX4_isWord 5 = .ok (.if_icmp .ne 19, 3) := by decide +kernel
theorem dX4_isWord_8 : decode cX4_isWord 8 = .ok (.aload_n 0, 1) := by decide +kernel
theorem dX4_isWord_9 : decode cX4_isWord 9 = .ok (.getfield 22, 3) := by decide +kernel
theorem dX4_isWord_12 : decode cX4_isWord 12 = .ok (.aload_n 0, 1) := by decide +kernel
theorem dX4_isWord_13 : decode cX4_isWord 13 = .ok (.getfield 28, 3) := by decide +kernel
theorem dX4_isWord_16 : decode cX4_isWord 16 = .ok (.isub, 1) := by decide +kernel
theorem dX4_isWord_17 : decode cX4_isWord 17 = .ok (.aload_n 1, 1) := by decide +kernel
theorem dX4_isWord_18 : decode cX4_isWord 18 = .ok (.invokevirtual 69, 3) := by decide +kernel
theorem dX4_isWord_21 : decode cX4_isWord 21 = .ok (.if_icmp .eq 5, 3) := by decide +kernel
theorem dX4_isWord_24 : decode cX4_isWord 24 = .ok (.iconst 0, 1) := by decide +kernel
theorem dX4_isWord_25 : decode cX4_isWord 25 = .ok (.ireturn, 1) := by decide +kernel
theorem dX4_isWord_26 : decode cX4_isWord 26 = .ok (.iconst 0, 1) := by decide +kernel
theorem dX4_isWord_27 : decode cX4_isWord 27 = .ok (.istore_n 2, 1) := by decide +kernel
theorem dX4_isWord_28 : decode cX4_isWord 28 = .ok (.iload_n 2, 1) := by decide +kernel
theorem dX4_isWord_29 : decode cX4_isWord 29 = .ok (.aload_n 1, 1) := by decide +kernel
theorem dX4_isWord_30 : decode cX4_isWord 30 = .ok (.invokevirtual 69, 3) := by decide +kernel
theorem dX4_isWord_33 : decode cX4_isWord 33 = .ok (.if_icmp .ge 29, 3) := by decide +kernel
theorem dX4_isWord_36 : decode cX4_isWord 36 = .ok (.aload_n 0, 1) := by decide +kernel
theorem dX4_isWord_37 : decode cX4_isWord 37 = .ok (.aload_n 0, 1) := by decide +kernel
theorem dX4_isWord_38 : decode cX4_isWord 38 = .ok (.getfield 28, 3) := by decide +kernel
theorem dX4_isWord_41 : decode cX4_isWord 41 = .ok (.iload_n 2, 1) := by decide +kernel
theorem dX4_isWord_42 : decode cX4_isWord 42 = .ok (.iadd, 1) := by decide +kernel
theorem dX4_isWord_43 : decode cX4_isWord 43 = .ok (.invokevirtual 55, 3) := by decide +kernel
theorem dX4_isWord_46 : decode cX4_isWord 46 = .ok (.aload_n 1, 1) := by decide +kernel
theorem dX4_isWord_47 : decode cX4_isWord 47 = .ok (.iload_n 2, 1) := by decide +kernel
theorem dX4_isWord_48 : decode cX4_isWord 48 = .ok (.invokevirtual 74, 3) := by decide +kernel
theorem dX4_isWord_51 : decode cX4_isWord 51 = .ok (.if_icmp .eq 5, 3) := by decide +kernel
theorem dX4_isWord_54 : decode cX4_isWord 54 = .ok (.iconst 0, 1) := by decide +kernel
theorem dX4_isWord_55 : decode cX4_isWord 55 = .ok (.ireturn, 1) := by decide +kernel
theorem dX4_isWord_56 : decode cX4_isWord 56 = .ok (.iinc 2 1, 3) := by decide +kernel
theorem dX4_isWord_59 : decode cX4_isWord 59 = .ok (.goto (-31), 3) := by decide +kernel
theorem dX4_isWord_62 : decode cX4_isWord 62 = .ok (.iconst 1, 1) := by decide +kernel
theorem dX4_isWord_63 : decode cX4_isWord 63 = .ok (.ireturn, 1) := by decide +kernel
set_option maxRecDepth 20000 in
theorem ggX4_takeWord_X4_isWord : GoodIn wsX4_takeWord wsX4_isWord := goodIn_r _ [5, 6, 7, 8, 9, 10, 11, 12, 13, 14, 15, 16, 17, 18, 19, 20, 21, 22, 23, 4, 24, 25, 26, 27, 28, 29, 30, 31, 32, 33, 34, 35, 36, 37, 38, 39, 40, 41, 42, 43, 44, 45, 46, 47, 48, 49, 50, 51, 52, 53, 54, 55, 56, 57, 58, 59, 60, 61, 62, 63, 84, 85, 86, 87, 88, 89, 90, 91, 92, 93, 94, 95, 96, 97] (by decide +kernel) (by decide +kernel)
set_option maxRecDepth 20000 in
theorem gX4_takeWord_X4_isWord : GoodIn wsX4_takeWord (wsV RX4 78 RX4 yX4_isWord wsX4_isWord) := goodIn_app (goodIn_of _ (by decide +kernel)) ggX4_takeWord_X4_isWord
set_option maxRecDepth 20000 in
theorem ggX4_takeWord_X4_fail : GoodIn wsX4_takeWord wsX4_fail := goodIn_r _ [67, 68, 8, 69, 84, 85, 86, 87, 88, 89, 90, 91, 92, 93, 94, 95, 96, 97] (by decide +kernel) (by decide +kernel)
set_option maxRecDepth 20000 in
theorem gX4_takeWord_X4_fail : GoodIn wsX4_takeWord (wsV RX4 82 RX4 yX4_fail wsX4_fail) := goodIn_app (goodIn_of _ (by decide +kernel)) ggX4_takeWord_X4_fail
set_option maxRecDepth 20000 in
theorem ggX4_takeWord_X4_advance : GoodIn wsX4_takeWord wsX4_advance := goodIn_r _ [73, 7, 25, 8, 6, 74, 21, 22, 23, 4, 24, 26, 75, 76, 77, 78, 79, 80, 81, 82, 83, 84, 85, 86, 87, 88, 89, 90, 91, 92, 93, 94, 95, 96, 97] (by decide +kernel) (by decide +kernel)
set_option maxRecDepth 20000 in
theorem gX4_takeWord_X4_advance : GoodIn wsX4_takeWord (wsV RX4 85 RX4 yX4_advance wsX4_advance) := goodIn_app (goodIn_of _ (by decide +kernel)) ggX4_takeWord_X4_advance
theorem dX4_takeWord_0 : decode cX4_takeWord 0 = .ok (.aload_n 0, 1) := by decide +kernel
theorem dX4_takeWord_1 : decode cX4_takeWord 1 = .ok (.aload_n 1, 1) := by decide +kernel
theorem dX4_takeWord_2 : decode cX4_takeWord 2 = .ok (.invokevirtual 78, 3) := by decide +kernel
theorem dX4_takeWord_5 : decode cX4_takeWord 5 = .ok (.ifCond .ne 9, 3) := by decide +kernel
theorem dX4_takeWord_8 : decode cX4_takeWord 8 = .ok (.aload_n 0, 1) := by decide +kernel
theorem dX4_takeWord_9 : decode cX4_takeWord 9 = .ok (.iconst 1, 1) := by decide +kernel
theorem dX4_takeWord_10 : decode cX4_takeWord 10 = .ok (.invokevirtual 82, 3) := by decide +kernel
theorem dX4_takeWord_13 : decode cX4_takeWord 13 = .ok (.ireturn, 1) := by decide +kernel
theorem dX4_takeWord_14 : decode cX4_takeWord 14 = .ok (.aload_n 0, 1) := by decide +kernel
theorem dX4_takeWord_15 : decode cX4_takeWord 15 = .ok (.invokevirtual 85, 3) := by decide +kernel
theorem dX4_takeWord_18 : decode cX4_takeWord 18 = .ok (.iconst 1, 1) := by decide +kernel
theorem dX4_takeWord_19 : decode cX4_takeWord 19 = .ok (.ireturn, 1) := by decide +kernel
set_option maxRecDepth 20000 in
theorem ggX4_takeNumber_X4_fail : GoodIn wsX4_takeNumber wsX4_fail := goodIn_r _ [10, 11, 4, 12, 33, 34, 35, 36, 37, 38, 39, 40, 41, 42, 43, 44, 45, 46] (by decide +kernel) (by decide +kernel)
set_option maxRecDepth 20000 in
theorem gX4_takeNumber_X4_fail : GoodIn wsX4_takeNumber (wsV RX4 82 RX4 yX4_fail wsX4_fail) := goodIn_app (goodIn_of _ (by decide +kernel)) ggX4_takeNumber_X4_fail
set_option maxRecDepth 20000 in
theorem ggX4_takeNumber_X4_advance : GoodIn wsX4_takeNumber wsX4_advance := goodIn_r _ [16, 17, 18, 4, 1, 2, 19, 20, 21, 9, 22, 23, 24, 25, 26, 27, 28, 29, 30, 31, 32, 33, 34, 35, 36, 37, 38, 39, 40, 41, 42, 43, 44, 45, 46] (by decide +kernel) (by decide +kernel)
set_option maxRecDepth 20000 in
theorem gX4_takeNumber_X4_advance : GoodIn wsX4_takeNumber (wsV RX4 85 RX4 yX4_advance wsX4_advance) := goodIn_app (goodIn_of _ (by decide +kernel)) ggX4_takeNumber_X4_advance
theorem dX4_takeNumber_0 : decode cX4_takeNumber 0 = .ok (.aload_n 0, 1) := by decide +kernel
theorem dX4_takeNumber_1 : decode cX4_takeNumber 1 = .ok (.getfield 25, 3) := by decide +kernel
theorem dX4_takeNumber_4 : decode cX4_takeNumber 4 = .ok (.iconst 2, 1) := by decide +kernel
theorem dX4_takeNumber_5 : decode cX4_takeNumber 5 = .ok (.if_icmp .eq 9, 3) := by decide +kernel
theorem dX4_takeNumber_8 : decode cX4_takeNumber 8 = .ok (.aload_n 0, 1) := by decide +kernel
theorem dX4_takeNumber_9 : decode cX4_takeNumber 9 = .ok (.iconst 1, 1) := by decide +kernel
theorem dX4_takeNumber_10 : decode cX4_takeNumber 10 = .ok (.invokevirtual 82, 3) := by decide +kernel
theorem dX4_takeNumber_13 : decode cX4_takeNumber 13 = .ok (.ireturn, 1) := by decide +kernel
theorem dX4_takeNumber_14 : decode cX4_takeNumber 14 = .ok (.aload_n 0, 1) := by decide +kernel
theorem dX4_takeNumber_15 : decode cX4_takeNumber 15 = .ok (.getfield 31, 3) := by decide +kernel
theorem dX4_takeNumber_18 : decode cX4_takeNumber 18 = .ok (.iload_n 1, 1) := by decide +kernel
theorem dX4_takeNumber_19 : decode cX4_takeNumber 19 = .ok (.if_icmp .lt 11, 3) := by decide +kernel
theorem dX4_takeNumber_22 : decode cX4_takeNumber 22 = .ok (.aload_n 0, 1) := by decide +kernel
theorem dX4_takeNumber_23 : decode cX4_takeNumber 23 = .ok (.getfield 31, 3) := by decide +kernel
theorem dX4_takeNumber_26 : decode cX4_takeNumber 26 = .ok (.iload_n 2, 1) := by decide +kernel
theorem dX4_takeNumber_27 : decode cX4_takeNumber 27 = .ok (.if_icmp .le 9, 3) := by decide +kernel
theorem dX4_takeNumber_30 : decode cX4_takeNumber 30 = .ok (.aload_n 0, 1) := by decide +kernel
theorem dX4_takeNumber_31 : decode cX4_takeNumber 31 = .ok (.iconst 2, 1) := by decide +kernel
theorem dX4_takeNumber_32 : decode cX4_takeNumber 32 = .ok (.invokevirtual 82, 3) := by decide +kernel
theorem dX4_takeNumber_35 : decode cX4_takeNumber 35 = .ok (.ireturn, 1) := by decide +kernel
theorem dX4_takeNumber_36 : decode cX4_takeNumber 36 = .ok (.aload_n 0, 1) := by decide +kernel
theorem dX4_takeNumber_37 : decode cX4_takeNumber 37 = .ok (.aload_n 0, 1) := by decide +kernel
theorem dX4_takeNumber_38 : decode cX4_takeNumber 38 = .ok (.getfield 31, 3) := by decide +kernel
theorem dX4_takeNumber_41 : decode cX4_takeNumber 41 = .ok (.putfield 34, 3) := by decide +kernel
theorem dX4_takeNumber_44 : decode cX4_takeNumber 44 = .ok (.aload_n 0, 1) := by decide +kernel
theorem dX4_takeNumber_45 : decode cX4_takeNumber 45 = .ok (.aload_n 0, 1) := by decide +kernel
theorem dX4_takeNumber_46 : decode cX4_takeNumber 46 = .ok (.getfield 28, 3) := by decide +kernel
theorem dX4_takeNumber_49 : decode cX4_takeNumber 49 = .ok (.putfield 37, 3) := by decide +kernel
theorem dX4_takeNumber_52 : decode cX4_takeNumber 52 = .ok (.aload_n 0, 1) := by decide +kernel
theorem dX4_takeNumber_53 : decode cX4_takeNumber 53 = .ok (.invokevirtual 85, 3) := by decide +kernel
theorem dX4_takeNumber_56 : decode cX4_takeNumber 56 = .ok (.iconst 1, 1) := by decide +kernel
theorem dX4_takeNumber_57 : decode cX4_takeNumber 57 = .ok (.ireturn, 1) := by decide +kernel
set_option maxRecDepth 20000 in
theorem ggX4_keep_X7_setCell : GoodIn wsX4_keep wsX7_setCell := goodIn_r _ [6, 7, 8, 9, 10, 11, 12, 13, 14, 15, 16] (by decide +kernel) (by decide +kernel)
set_option maxRecDepth 20000 in
theorem gX4_keep_X7_setCell : GoodIn wsX4_keep (wsV RX4 93 RX7 yX7_setCell wsX7_setCell) := goodIn_app (goodIn_of _ (by decide +kernel)) ggX4_keep_X7_setCell
theorem dX4_keep_0 : decode cX4_keep 0 = .ok (.aload_n 1, 1) := by decide +kernel
theorem dX4_keep_1 : decode cX4_keep 1 = .ok (.aload_n 1, 1) := by decide +kernel
theorem dX4_keep_2 : decode cX4_keep 2 = .ok (.getfield 88, 3) := by decide +kernel
theorem dX4_keep_5 : decode cX4_keep 5 = .ok (.iload_n 2, 1) := by decide +kernel
theorem dX4_keep_6 : decode cX4_keep 6 = .ok (.iload_n 3, 1) := by decide +kernel
theorem dX4_keep_7 : decode cX4_keep 7 = .ok (.aload_n 0, 1) := by decide +kernel
theorem dX4_keep_8 : decode cX4_keep 8 = .ok (.getfield 34, 3) := by decide +kernel
theorem dX4_keep_11 : decode cX4_keep 11 = .ok (.invokevirtual 93, 3) := by decide +kernel
theorem dX4_keep_14 : decode cX4_keep 14 = .ok (.iconst 1, 1) := by decide +kernel
theorem dX4_keep_15 : decode cX4_keep 15 = .ok (.ireturn, 1) := by decide +kernel
set_option maxRecDepth 20000 in
theorem ggX4_keepTarget_X4_keep : GoodIn wsX4_keepTarget wsX4_keep := goodIn_r _ [10, 3, 11, 12, 13, 14, 15, 16, 31, 32, 33, 34, 35, 36, 37, 38, 39, 17, 18, 19, 20, 21, 22, 23, 24, 25, 26, 27, 28, 29, 30] (by decide +kernel) (by decide +kernel)
set_option maxRecDepth 20000 in
theorem gX4_keepTarget_X4_keep : GoodIn wsX4_keepTarget (wsV RX4 97 RX4 yX4_keep wsX4_keep) := goodIn_app (goodIn_of _ (by decide +kernel)) ggX4_keepTarget_X4_keep
theorem dX4_keepTarget_0 : decode cX4_keepTarget 0 = .ok (.aload_n 0, 1) := by decide +kernel
theorem dX4_keepTarget_1 : decode cX4_keepTarget 1 = .ok (.getfield 52, 3) := by decide +kernel
theorem dX4_keepTarget_4 : decode cX4_keepTarget 4 = .ok (.ifCond .lt 51, 3) := by decide +kernel
theorem dX4_keepTarget_7 : decode cX4_keepTarget 7 = .ok (.aload_n 0, 1) := by decide +kernel
theorem dX4_keepTarget_8 : decode cX4_keepTarget 8 = .ok (.getfield 52, 3) := by decide +kernel
theorem dX4_keepTarget_11 : decode cX4_keepTarget 11 = .ok (.aload_n 0, 1) := by decide +kernel
theorem dX4_keepTarget_12 : decode cX4_keepTarget 12 = .ok (.getfield 46, 3) := by decide +kernel
theorem dX4_keepTarget_15 : decode cX4_keepTarget 15 = .ok (.arraylength, 1) := by decide +kernel
theorem dX4_keepTarget_16 : decode cX4_keepTarget 16 = .ok (.if_icmp .ge 39, 3) := by decide +kernel
theorem dX4_keepTarget_19 : decode cX4_keepTarget 19 = .ok (.aload_n 0, 1) := by decide +kernel
theorem dX4_keepTarget_20 : decode cX4_keepTarget 20 = .ok (.getfield 46, 3) := by decide +kernel
theorem dX4_keepTarget_23 : decode cX4_keepTarget 23 = .ok (.aload_n 0, 1) := by decide +kernel
theorem dX4_keepTarget_24 : decode cX4_keepTarget 24 = .ok (.getfield 52, 3) := by decide +kernel
theorem dX4_keepTarget_27 : decode cX4_keepTarget 27 = .ok (.aload_n 0, 1) := by decide +kernel
theorem dX4_keepTarget_28 : decode cX4_keepTarget 28 = .ok (.getfield 34, 3) := by decide +kernel
theorem dX4_keepTarget_31 : decode cX4_keepTarget 31 = .ok (.iastore, 1) := by decide +kernel
theorem dX4_keepTarget_32 : decode cX4_keepTarget 32 = .ok (.aload_n 0, 1) := by decide +kernel
theorem dX4_keepTarget_33 : decode cX4_keepTarget 33 = .ok (.getfield 49, 3) := by decide +kernel
theorem dX4_keepTarget_36 : decode cX4_keepTarget 36 = .ok (.aload_n 0, 1) := by decide +kernel
theorem dX4_keepTarget_37 : decode cX4_keepTarget 37 = .ok (.getfield 52, 3) := by decide +kernel
theorem dX4_keepTarget_40 : decode cX4_keepTarget 40 = .ok (.aload_n 0, 1) := by decide +kernel
theorem dX4_keepTarget_41 : decode cX4_keepTarget 41 = .ok (.getfield 37, 3) := by decide +kernel
theorem dX4_keepTarget_44 : decode cX4_keepTarget 44 = .ok (.iastore, 1) := by decide +kernel
theorem dX4_keepTarget_45 : decode cX4_keepTarget 45 = .ok (.aload_n 0, 1) := by decide +kernel
theorem dX4_keepTarget_46 : decode cX4_keepTarget 46 = .ok (.dup, 1) := by decide +kernel
theorem dX4_keepTarget_47 : decode cX4_keepTarget 47 = .ok (.getfield 52, 3) := by decide +kernel
theorem dX4_keepTarget_50 : decode cX4_keepTarget 50 = .ok (.iconst 1, 1) := by decide +kernel
theorem dX4_keepTarget_51 : decode cX4_keepTarget 51 = .ok (.iadd, 1) := by decide +kernel
theorem dX4_keepTarget_52 : decode cX4_keepTarget 52 = .ok (.putfield 52, 3) := by decide +kernel
theorem dX4_keepTarget_55 : decode cX4_keepTarget 55 = .ok (.aload_n 0, 1) := by decide +kernel
theorem dX4_keepTarget_56 : decode cX4_keepTarget 56 = .ok (.aload_n 1, 1) := by decide +kernel
theorem dX4_keepTarget_57 : decode cX4_keepTarget 57 = .ok (.iload_n 2, 1) := by decide +kernel
theorem dX4_keepTarget_58 : decode cX4_keepTarget 58 = .ok (.iload_n 3, 1) := by decide +kernel
theorem dX4_keepTarget_59 : decode cX4_keepTarget 59 = .ok (.invokevirtual 97, 3) := by decide +kernel
theorem dX4_keepTarget_62 : decode cX4_keepTarget 62 = .ok (.ireturn, 1) := by decide +kernel
set_option maxRecDepth 20000 in
theorem ggX4_beginsStep_X4_isWord : GoodIn wsX4_beginsStep wsX4_isWord := goodIn_r _ [5, 6, 7, 8, 9, 10, 11, 12, 13, 14, 15, 16, 17, 18, 19, 20, 21, 22, 23, 4, 24, 25, 26, 27, 28, 29, 30, 31, 32, 33, 34, 35, 36, 37, 38, 39, 40, 41, 42, 43, 44, 45, 46, 47, 48, 49, 50, 51, 52, 53, 54, 55, 56, 57, 58, 59, 60, 61, 62, 63, 64, 65, 66, 67, 68, 69, 70, 71, 72, 73, 74, 75, 76, 77] (by decide +kernel) (by decide +kernel)
set_option maxRecDepth 20000 in
theorem gX4_beginsStep_X4_isWord : GoodIn wsX4_beginsStep (wsV RX4 78 RX4 yX4_isWord wsX4_isWord) := goodIn_app (goodIn_of _ (by decide +kernel)) ggX4_beginsStep_X4_isWord
theorem dX4_beginsStep_0 : decode cX4_beginsStep 0 = .ok (.aload_n 0, 1) := by decide +kernel
theorem dX4_beginsStep_1 : decode cX4_beginsStep 1 = .ok (.ldc 101, 2) := by decide +kernel
theorem dX4_beginsStep_3 : decode cX4_beginsStep 3 = .ok (.invokevirtual 78, 3) := by decide +kernel
theorem dX4_beginsStep_6 : decode cX4_beginsStep 6 = .ok (.ifCond .ne 39, 3) := by decide +kernel
theorem dX4_beginsStep_9 : decode cX4_beginsStep 9 = .ok (.aload_n 0, 1) := by decide +kernel
theorem dX4_beginsStep_10 : decode cX4_beginsStep 10 = .ok (.ldc 103, 2) := by decide +kernel
theorem dX4_beginsStep_12 : decode cX4_beginsStep 12 = .ok (.invokevirtual 78, 3) := by decide +kernel
theorem dX4_beginsStep_15 : decode cX4_beginsStep 15 = .ok (.ifCond .ne 30, 3) := by decide +kernel
theorem dX4_beginsStep_18 : decode cX4_beginsStep 18 = .ok (.aload_n 0, 1) := by decide +kernel
theorem dX4_beginsStep_19 : decode cX4_beginsStep 19 = .ok (.ldc 105, 2) := by decide +kernel
theorem dX4_beginsStep_21 : decode cX4_beginsStep 21 = .ok (.invokevirtual 78, 3) := by decide +kernel
theorem dX4_beginsStep_24 : decode cX4_beginsStep 24 = .ok (.ifCond .ne 21, 3) := by decide +kernel
theorem dX4_beginsStep_27 : decode cX4_beginsStep 27 = .ok (.aload_n 0, 1) := by decide +kernel
theorem dX4_beginsStep_28 : decode cX4_beginsStep 28 = .ok (.ldc 107, 2) := by decide +kernel
theorem dX4_beginsStep_30 : decode cX4_beginsStep 30 = .ok (.invokevirtual 78, 3) := by decide +kernel
theorem dX4_beginsStep_33 : decode cX4_beginsStep 33 = .ok (.ifCond .ne 12, 3) := by decide +kernel
theorem dX4_beginsStep_36 : decode cX4_beginsStep 36 = .ok (.aload_n 0, 1) := by decide +kernel
theorem dX4_beginsStep_37 : decode cX4_beginsStep 37 = .ok (.ldc 109, 2) := by decide +kernel
theorem dX4_beginsStep_39 : decode cX4_beginsStep 39 = .ok (.invokevirtual 78, 3) := by decide +kernel
theorem dX4_beginsStep_42 : decode cX4_beginsStep 42 = .ok (.ifCond .eq 7, 3) := by decide +kernel
theorem dX4_beginsStep_45 : decode cX4_beginsStep 45 = .ok (.iconst 1, 1) := by decide +kernel
theorem dX4_beginsStep_46 : decode cX4_beginsStep 46 = .ok (.goto 4, 3) := by decide +kernel
theorem dX4_beginsStep_49 : decode cX4_beginsStep 49 = .ok (.iconst 0, 1) := by decide +kernel
theorem dX4_beginsStep_50 : decode cX4_beginsStep 50 = .ok (.ireturn, 1) := by decide +kernel
set_option maxRecDepth 20000 in
theorem ggX4_readText_X4_advance : GoodIn wsX4_readText wsX4_advance := goodIn_r _ [11, 2, 1, 12, 6, 13, 14, 15, 16, 10, 17, 18, 19, 20, 21, 22, 23, 24, 25, 26, 27, 139, 140, 141, 142, 143, 144, 145, 146, 147, 148, 149, 150, 151, 152] (by decide +kernel) (by decide +kernel)
set_option maxRecDepth 20000 in
theorem gX4_readText_X4_advance : GoodIn wsX4_readText (wsV RX4 85 RX4 yX4_advance wsX4_advance) := goodIn_app (goodIn_of _ (by decide +kernel)) ggX4_readText_X4_advance
set_option maxRecDepth 20000 in
theorem ggX4_readText_X4_beginsStep : GoodIn wsX4_readText wsX4_beginsStep := goodIn_r _ [31, 32, 33, 34, 10, 35, 6, 2, 12, 36, 37, 38, 39, 40, 41, 42, 43, 44, 45, 46, 47, 14, 15, 16, 17, 1, 18, 48, 49, 50, 51, 52, 53, 54, 55, 56, 57, 58, 59, 60, 61, 62, 63, 64, 65, 66, 67, 68, 69, 70, 71, 72, 73, 74, 75, 76, 77, 78, 79, 80, 81, 82, 83, 84, 139, 140, 141, 142, 143, 144, 145, 146, 147, 148, 149, 150, 151, 152] (by decide +kernel) (by decide +kernel)
set_option maxRecDepth 20000 in
theorem gX4_readText_X4_beginsStep : GoodIn wsX4_readText (wsV RX4 111 RX4 yX4_beginsStep wsX4_beginsStep) := goodIn_app (goodIn_of _ (by decide +kernel)) ggX4_readText_X4_beginsStep
set_option maxRecDepth 20000 in
theorem ggX4_readText_X4_fail : GoodIn wsX4_readText wsX4_fail := goodIn_r _ [88, 3, 12, 4, 139, 140, 141, 142, 143, 144, 145, 146, 147, 148, 149, 150, 151, 152] (by decide +kernel) (by decide +kernel)
set_option maxRecDepth 20000 in
theorem gX4_readText_X4_fail : GoodIn wsX4_readText (wsV RX4 82 RX4 yX4_fail wsX4_fail) := goodIn_app (goodIn_of _ (by decide +kernel)) ggX4_readText_X4_fail
set_option maxRecDepth 20000 in
theorem ggX4_readText_X4_readStep : GoodIn wsX4_readText wsX4_readStep := goodIn_r _ [92, 93, 94, 10, 95, 96, 97, 98, 99, 100, 101, 32, 33, 34, 35, 6, 2, 12, 36, 37, 38, 39, 40, 41, 42, 43, 44, 45, 46, 47, 14, 15, 16, 17, 1, 18, 48, 49, 50, 51, 52, 53, 54, 55, 56, 57, 58, 59, 60, 61, 62, 63, 64, 65, 66, 67, 68, 69, 70, 71, 72, 73, 74, 75, 76, 77, 78, 79, 80, 81, 82, 83, 84, 102, 103, 104, 105, 7, 8, 9, 11, 13, 19, 20, 21, 22, 23, 24, 25, 26, 27, 106, 107, 108, 109, 110, 111, 85, 86, 87, 88, 3, 4, 112, 113, 114, 115, 116, 117, 118, 119, 120, 121, 122, 123, 124, 125, 126, 127, 5, 128, 129, 153, 154, 155, 156, 157, 158, 159, 160, 161, 139, 140, 141, 142, 143, 144, 145, 146, 147, 148, 149, 150, 151, 152] (by decide +kernel) (by decide +kernel)
set_option maxRecDepth 20000 in
theorem gX4_readText_X4_readStep : GoodIn wsX4_readText (wsV RX4 115 RX4 yX4_readStep wsX4_readStep) := goodIn_app (goodIn_of _ (by decide +kernel)) ggX4_readText_X4_readStep
set_option maxRecDepth 20000 in
theorem ggX4_readText_X7_setSize : GoodIn wsX4_readText wsX7_setSize := goodIn_r _ [133, 134, 153, 154, 155, 156, 157, 158, 159, 160, 161] (by decide +kernel) (by decide +kernel)
set_option maxRecDepth 20000 in
theorem gX4_readText_X7_setSize : GoodIn wsX4_readText (wsV RX4 119 RX7 yX7_setSize wsX7_setSize) := goodIn_app (goodIn_of _ (by decide +kernel)) ggX4_readText_X7_setSize
set_option maxRecDepth 20000 in
theorem ggX4_readText_X4_targetsAreThere : GoodIn wsX4_readText wsX4_targetsAreThere := goodIn_r _ [138, 5, 128, 3, 129, 4, 139, 140, 141, 142, 143, 144, 145, 146, 147, 148, 149, 150, 151, 152] (by decide +kernel) (by decide +kernel)
set_option maxRecDepth 20000 in
theorem gX4_readText_X4_targetsAreThere : GoodIn wsX4_readText (wsV RX4 123 RX4 yX4_targetsAreThere wsX4_targetsAreThere) := goodIn_app (goodIn_of _ (by decide +kernel)) ggX4_readText_X4_targetsAreThere
theorem dX4_readText_0 : decode cX4_readText 0 = .ok (.aload_n 0, 1) := by decide +kernel
theorem dX4_readText_1 : decode cX4_readText 1 = .ok (.iload_n 2, 1) := by decide +kernel
theorem dX4_readText_2 : decode cX4_readText 2 = .ok (.putfield 19, 3) := by decide +kernel
theorem dX4_readText_5 : decode cX4_readText 5 = .ok (.aload_n 0, 1) := by decide +kernel
theorem dX4_readText_6 : decode cX4_readText 6 = .ok (.iconst 0, 1) := by decide +kernel
theorem dX4_readText_7 : decode cX4_readText 7 = .ok (.putfield 22, 3) := by decide +kernel
theorem dX4_readText_10 : decode cX4_readText 10 = .ok (.aload_n 0, 1) := by decide +kernel
theorem dX4_readText_11 : decode cX4_readText 11 = .ok (.iconst 0, 1) := by decide +kernel
theorem dX4_readText_12 : decode cX4_readText 12 = .ok (.putfield 40, 3) := by decide +kernel
theorem dX4_readText_15 : decode cX4_readText 15 = .ok (.aload_n 0, 1) := by decide +kernel
theorem dX4_readText_16 : decode cX4_readText 16 = .ok (.iconst 0, 1) := by decide +kernel
theorem dX4_readText_17 : decode cX4_readText 17 = .ok (.putfield 43, 3) := by decide +kernel
theorem dX4_readText_20 : decode cX4_readText 20 = .ok (.aload_n 0, 1) := by decide +kernel
theorem dX4_readText_21 : decode cX4_readText 21 = .ok (.iconst 0, 1) := by decide +kernel
theorem dX4_readText_22 : decode cX4_readText 22 = .ok (.putfield 52, 3) := by decide +kernel
theorem dX4_readText_25 : decode cX4_readText 25 = .ok (.aload_n 0, 1) := by decide +kernel
theorem dX4_readText_26 : decode cX4_readText 26 = .ok (.invokevirtual 85, 3) := by decide +kernel
theorem dX4_readText_29 : decode cX4_readText 29 = .ok (.iconst 0, 1) := by decide +kernel
theorem dX4_readText_30 : decode cX4_readText 30 = .ok (.istore_n 3, 1) := by decide +kernel
theorem dX4_readText_31 : decode cX4_readText 31 = .ok (.iload_n 3, 1) := by decide +kernel
theorem dX4_readText_32 : decode cX4_readText 32 = .ok (.bipush 24, 2) := by decide +kernel
theorem dX4_readText_34 : decode cX4_readText 34 = .ok (.if_icmp .gt 89, 3) := by decide +kernel
theorem dX4_readText_37 : decode cX4_readText 37 = .ok (.aload_n 0, 1) := by decide +kernel
theorem dX4_readText_38 : decode cX4_readText 38 = .ok (.invokevirtual 111, 3) := by decide +kernel
theorem dX4_readText_41 : decode cX4_readText 41 = .ok (.ifCond .ne 9, 3) := by decide +kernel
theorem dX4_readText_44 : decode cX4_readText 44 = .ok (.aload_n 0, 1) := by decide +kernel
theorem dX4_readText_45 : decode cX4_readText 45 = .ok (.iconst 1, 1) := by decide +kernel
theorem dX4_readText_46 : decode cX4_readText 46 = .ok (.invokevirtual 82, 3) := by decide +kernel
theorem dX4_readText_49 : decode cX4_readText 49 = .ok (.ireturn, 1) := by decide +kernel
theorem dX4_readText_50 : decode cX4_readText 50 = .ok (.iload_n 3, 1) := by decide +kernel
theorem dX4_readText_51 : decode cX4_readText 51 = .ok (.bipush 24, 2) := by decide +kernel
theorem dX4_readText_53 : decode cX4_readText 53 = .ok (.if_icmp .ne 9, 3) := by decide +kernel
theorem dX4_readText_56 : decode cX4_readText 56 = .ok (.aload_n 0, 1) := by decide +kernel
theorem dX4_readText_57 : decode cX4_readText 57 = .ok (.iconst 3, 1) := by decide +kernel
theorem dX4_readText_58 : decode cX4_readText 58 = .ok (.invokevirtual 82, 3) := by decide +kernel
theorem dX4_readText_61 : decode cX4_readText 61 = .ok (.ireturn, 1) := by decide +kernel
theorem dX4_readText_62 : decode cX4_readText 62 = .ok (.aload_n 0, 1) := by decide +kernel
theorem dX4_readText_63 : decode cX4_readText 63 = .ok (.aload_n 1, 1) := by decide +kernel
theorem dX4_readText_64 : decode cX4_readText 64 = .ok (.iload_n 3, 1) := by decide +kernel
theorem dX4_readText_65 : decode cX4_readText 65 = .ok (.invokevirtual 115, 3) := by decide +kernel
theorem dX4_readText_68 : decode cX4_readText 68 = .ok (.ifCond .ne 5, 3) := by decide +kernel
theorem dX4_readText_71 : decode cX4_readText 71 = .ok (.iconst 0, 1) := by decide +kernel
theorem dX4_readText_72 : decode cX4_readText 72 = .ok (.ireturn, 1) := by decide +kernel
theorem dX4_readText_73 : decode cX4_readText 73 = .ok (.aload_n 0, 1) := by decide +kernel
theorem dX4_readText_74 : decode cX4_readText 74 = .ok (.getfield 25, 3) := by decide +kernel
theorem dX4_readText_77 : decode cX4_readText 77 = .ok (.ifCond .ne 22, 3) := by decide +kernel
theorem dX4_readText_80 : decode cX4_readText 80 = .ok (.aload_n 1, 1) := by decide +kernel
theorem dX4_readText_81 : decode cX4_readText 81 = .ok (.aload_n 1, 1) := by decide +kernel
theorem dX4_readText_82 : decode cX4_readText 82 = .ok (.getfield 88, 3) := by decide +kernel
theorem dX4_readText_85 : decode cX4_readText 85 = .ok (.iload_n 3, 1) := by decide +kernel
theorem dX4_readText_86 : decode cX4_readText 86 = .ok (.iconst 1, 1) := by decide +kernel
theorem dX4_readText_87 : decode cX4_readText 87 = .ok (.iadd, 1) := by decide +kernel
theorem dX4_readText_88 : decode cX4_readText 88 = .ok (.invokevirtual 119, 3) := by decide +kernel
theorem dX4_readText_91 : decode cX4_readText 91 = .ok (.aload_n 0, 1) := by decide +kernel
theorem dX4_readText_92 : decode cX4_readText 92 = .ok (.iload_n 3, 1) := by decide +kernel
theorem dX4_readText_93 : decode cX4_readText 93 = .ok (.iconst 1, 1) := by decide +kernel
theorem dX4_readText_94 : decode cX4_readText 94 = .ok (.iadd, 1) := by decide +kernel
theorem dX4_readText_95 : decode cX4_readText 95 = .ok (.invokevirtual 123, 3) := by decide +kernel
theorem dX4_readText_98 : decode cX4_readText 98 = .ok (.ireturn, 1) := by decide +kernel
theorem dX4_readText_99 : decode cX4_readText 99 = .ok (.aload_n 0, 1) := by decide +kernel
theorem dX4_readText_100 : decode cX4_readText 100 = .ok (.getfield 25, 3) := by decide +kernel
theorem dX4_readText_103 : decode cX4_readText 103 = .ok (.iconst 3, 1) := by decide +kernel
theorem dX4_readText_104 : decode cX4_readText 104 = .ok (.if_icmp .eq 9, 3) := by decide +kernel
theorem dX4_readText_107 : decode cX4_readText 107 = .ok (.aload_n 0, 1) := by decide +kernel
theorem dX4_readText_108 : decode cX4_readText 108 = .ok (.iconst 1, 1) := by decide +kernel
theorem dX4_readText_109 : decode cX4_readText 109 = .ok (.invokevirtual 82, 3) := by decide +kernel
theorem dX4_readText_112 : decode cX4_readText 112 = .ok (.ireturn, 1) := by decide +kernel
theorem dX4_readText_113 : decode cX4_readText 113 = .ok (.aload_n 0, 1) := by decide +kernel
theorem dX4_readText_114 : decode cX4_readText 114 = .ok (.invokevirtual 85, 3) := by decide +kernel
theorem dX4_readText_117 : decode cX4_readText 117 = .ok (.iinc 3 1, 3) := by decide +kernel
theorem dX4_readText_120 : decode cX4_readText 120 = .ok (.goto (-89), 3) := by decide +kernel
theorem dX4_readText_123 : decode cX4_readText 123 = .ok (.aload_n 0, 1) := by decide +kernel
theorem dX4_readText_124 : decode cX4_readText 124 = .ok (.iconst 3, 1) := by decide +kernel
theorem dX4_readText_125 : decode cX4_readText 125 = .ok (.invokevirtual 82, 3) := by decide +kernel
theorem dX4_readText_128 : decode cX4_readText 128 = .ok (.ireturn, 1) := by decide +kernel
theorem dX4_targetsAreThere_0 : decode cX4_targetsAreThere 0 = .ok (.iconst 0, 1) := by decide +kernel
theorem dX4_targetsAreThere_1 : decode cX4_targetsAreThere 1 = .ok (.istore_n 2, 1) := by decide +kernel
theorem dX4_targetsAreThere_2 : decode cX4_targetsAreThere 2 = .ok (.iload_n 2, 1) := by decide +kernel
theorem dX4_targetsAreThere_3 : decode cX4_targetsAreThere 3 = .ok (.aload_n 0, 1) := by decide +kernel
theorem dX4_targetsAreThere_4 : decode cX4_targetsAreThere 4 = .ok (.getfield 52, 3) := by decide +kernel
theorem dX4_targetsAreThere_7 : decode cX4_targetsAreThere 7 = .ok (.if_icmp .ge 45, 3) := by decide +kernel
theorem dX4_targetsAreThere_10 : decode cX4_targetsAreThere 10 = .ok (.iload_n 2, 1) := by decide +kernel
theorem dX4_targetsAreThere_11 : decode cX4_targetsAreThere 11 = .ok (.aload_n 0, 1) := by decide +kernel
theorem dX4_targetsAreThere_12 : decode cX4_targetsAreThere 12 = .ok (.getfield 46, 3) := by decide +kernel
theorem dX4_targetsAreThere_15 : decode cX4_targetsAreThere 15 = .ok (.arraylength, 1) := by decide +kernel
theorem dX4_targetsAreThere_16 : decode cX4_targetsAreThere 16 = .ok (.if_icmp .ge 36, 3) := by decide +kernel
theorem dX4_targetsAreThere_19 : decode cX4_targetsAreThere 19 = .ok (.aload_n 0, 1) := by decide +kernel
theorem dX4_targetsAreThere_20 : decode cX4_targetsAreThere 20 = .ok (.getfield 46, 3) := by decide +kernel
theorem dX4_targetsAreThere_23 : decode cX4_targetsAreThere 23 = .ok (.iload_n 2, 1) := by decide +kernel
theorem dX4_targetsAreThere_24 : decode cX4_targetsAreThere 24 = .ok (.iaload, 1) := by decide +kernel
theorem dX4_targetsAreThere_25 : decode cX4_targetsAreThere 25 = .ok (.iload_n 1, 1) := by decide +kernel
theorem dX4_targetsAreThere_26 : decode cX4_targetsAreThere 26 = .ok (.if_icmp .lt 20, 3) := by decide +kernel
theorem dX4_targetsAreThere_29 : decode cX4_targetsAreThere 29 = .ok (.aload_n 0, 1) := by decide +kernel
theorem dX4_targetsAreThere_30 : decode cX4_targetsAreThere 30 = .ok (.iconst 2, 1) := by decide +kernel
theorem dX4_targetsAreThere_31 : decode cX4_targetsAreThere 31 = .ok (.putfield 40, 3) := by decide +kernel
theorem dX4_targetsAreThere_34 : decode cX4_targetsAreThere 34 = .ok (.aload_n 0, 1) := by decide +kernel
theorem dX4_targetsAreThere_35 : decode cX4_targetsAreThere 35 = .ok (.aload_n 0, 1) := by decide +kernel
theorem dX4_targetsAreThere_36 : decode cX4_targetsAreThere 36 = .ok (.getfield 49, 3) := by decide +kernel
theorem dX4_targetsAreThere_39 : decode cX4_targetsAreThere 39 = .ok (.iload_n 2, 1) := by decide +kernel
theorem dX4_targetsAreThere_40 : decode cX4_targetsAreThere 40 = .ok (.iaload, 1) := by decide +kernel
theorem dX4_targetsAreThere_41 : decode cX4_targetsAreThere 41 = .ok (.putfield 43, 3) := by decide +kernel
theorem dX4_targetsAreThere_44 : decode cX4_targetsAreThere 44 = .ok (.iconst 0, 1) := by decide +kernel
theorem dX4_targetsAreThere_45 : decode cX4_targetsAreThere 45 = .ok (.ireturn, 1) := by decide +kernel
theorem dX4_targetsAreThere_46 : decode cX4_targetsAreThere 46 = .ok (.iinc 2 1, 3) := by decide +kernel
theorem dX4_targetsAreThere_49 : decode cX4_targetsAreThere 49 = .ok (.goto (-47), 3) := by decide +kernel
theorem dX4_targetsAreThere_52 : decode cX4_targetsAreThere 52 = .ok (.iconst 1, 1) := by decide +kernel
theorem dX4_targetsAreThere_53 : decode cX4_targetsAreThere 53 = .ok (.ireturn, 1) := by decide +kernel
set_option maxRecDepth 20000 in
theorem ggX4_readStep_X4_clearStep : GoodIn wsX4_readStep wsX4_clearStep := goodIn_r _ [4, 5, 6, 7, 8, 9, 10, 122, 123, 124, 125, 126, 127, 128, 129, 130] (by decide +kernel) (by decide +kernel)
set_option maxRecDepth 20000 in
theorem gX4_readStep_X4_clearStep : GoodIn wsX4_readStep (va_wsS RX4 126 yX4_clearStep wsX4_clearStep) := goodIn_app (goodIn_of _ (by decide +kernel)) ggX4_readStep_X4_clearStep
set_option maxRecDepth 20000 in
theorem ggX4_readStep_X4_isWord : GoodIn wsX4_readStep wsX4_isWord := goodIn_r _ [14, 15, 16, 17, 18, 19, 20, 21, 22, 23, 24, 25, 26, 27, 28, 29, 30, 31, 32, 3, 33, 34, 35, 36, 37, 38, 39, 40, 41, 42, 43, 44, 45, 46, 47, 48, 49, 50, 51, 52, 53, 54, 55, 56, 57, 58, 59, 60, 61, 62, 63, 64, 65, 66, 67, 68, 69, 70, 71, 72, 131, 132, 133, 134, 135, 136, 137, 138, 139, 140, 141, 142, 143, 144] (by decide +kernel) (by decide +kernel)
set_option maxRecDepth 20000 in
theorem gX4_readStep_X4_isWord : GoodIn wsX4_readStep (wsV RX4 78 RX4 yX4_isWord wsX4_isWord) := goodIn_app (goodIn_of _ (by decide +kernel)) ggX4_readStep_X4_isWord
set_option maxRecDepth 20000 in
theorem ggX4_readStep_X4_readDo : GoodIn wsX4_readStep wsX4_readDo := goodIn_r _ [76, 77, 78, 79, 3, 80, 16, 34, 17, 15, 81, 30, 31, 32, 33, 35, 82, 83, 84, 85, 86, 87, 88, 89, 90, 91, 92, 93, 94, 95, 96, 97, 98, 99, 100, 101, 102, 103, 104, 105, 106, 5, 6, 7, 8, 9, 10, 11, 12, 13, 14, 18, 19, 20, 21, 22, 23, 24, 25, 26, 27, 28, 29, 36, 37, 38, 39, 40, 41, 42, 43, 44, 45, 46, 47, 48, 49, 50, 51, 52, 53, 54, 55, 56, 57, 58, 59, 60, 61, 62, 63, 64, 65, 66, 67, 68, 69, 70, 71, 72, 107, 108, 109, 110, 122, 123, 124, 125, 126, 127, 128, 129, 130, 131, 132, 133, 134, 135, 136, 137, 138, 139, 140, 141, 142, 143, 144] (by decide +kernel) (by decide +kernel)
set_option maxRecDepth 20000 in
theorem gX4_readStep_X4_readDo : GoodIn wsX4_readStep (wsV RX4 130 RX4 yX4_readDo wsX4_readDo) := goodIn_app (goodIn_of _ (by decide +kernel)) ggX4_readStep_X4_readDo
set_option maxRecDepth 20000 in
theorem ggX4_readStep_X4_readAsk : GoodIn wsX4_readStep wsX4_readAsk := goodIn_r _ [114, 5, 6, 7, 8, 9, 10, 77, 78, 79, 3, 80, 16, 34, 17, 15, 81, 30, 31, 32, 33, 35, 82, 83, 84, 85, 86, 87, 88, 89, 90, 91, 92, 93, 94, 95, 96, 97, 98, 99, 100, 101, 102, 103, 104, 105, 106, 107, 108, 109, 110, 11, 12, 13, 14, 18, 19, 20, 21, 22, 23, 24, 25, 26, 27, 28, 29, 36, 37, 38, 39, 40, 41, 42, 43, 44, 45, 46, 47, 48, 49, 50, 51, 52, 53, 54, 55, 56, 57, 58, 59, 60, 61, 62, 63, 64, 65, 66, 67, 68, 69, 70, 71, 72, 115, 116, 117, 118, 119, 120, 121, 122, 123, 124, 125, 126, 127, 128, 129, 130, 131, 132, 133, 134, 135, 136, 137, 138, 139, 140, 141, 142, 143, 144] (by decide +kernel) (by decide +kernel)
set_option maxRecDepth 20000 in
theorem gX4_readStep_X4_readAsk : GoodIn wsX4_readStep (wsV RX4 133 RX4 yX4_readAsk wsX4_readAsk) := goodIn_app (goodIn_of _ (by decide +kernel)) ggX4_readStep_X4_readAsk
set_option maxRecDepth 20000 in
theorem ggX4_readStep_X7_setCell : GoodIn wsX4_readStep wsX7_setCell := goodIn_r _ [9, 10, 122, 123, 124, 125, 126, 127, 128, 129, 130] (by decide +kernel) (by decide +kernel)
set_option maxRecDepth 20000 in
theorem gX4_readStep_X7_setCell : GoodIn wsX4_readStep (wsV RX4 93 RX7 yX7_setCell wsX7_setCell) := goodIn_app (goodIn_of _ (by decide +kernel)) ggX4_readStep_X7_setCell
set_option maxRecDepth 20000 in
theorem ggX4_readStep_X4_advance : GoodIn wsX4_readStep wsX4_advance := goodIn_r _ [80, 16, 34, 17, 15, 81, 30, 31, 32, 3, 33, 35, 82, 83, 84, 85, 86, 87, 88, 89, 90, 131, 132, 133, 134, 135, 136, 137, 138, 139, 140, 141, 142, 143, 144] (by decide +kernel) (by decide +kernel)
set_option maxRecDepth 20000 in
theorem gX4_readStep_X4_advance : GoodIn wsX4_readStep (wsV RX4 85 RX4 yX4_advance wsX4_advance) := goodIn_app (goodIn_of _ (by decide +kernel)) ggX4_readStep_X4_advance
set_option maxRecDepth 20000 in
theorem ggX4_readStep_X4_takeNumber : GoodIn wsX4_readStep wsX4_takeNumber := goodIn_r _ [94, 15, 81, 95, 17, 96, 97, 98, 99, 3, 100, 101, 102, 77, 78, 79, 80, 16, 34, 30, 31, 32, 33, 35, 82, 83, 84, 85, 86, 87, 88, 89, 90, 131, 132, 133, 134, 135, 136, 137, 138, 139, 140, 141, 142, 143, 144] (by decide +kernel) (by decide +kernel)
set_option maxRecDepth 20000 in
theorem gX4_readStep_X4_takeNumber : GoodIn wsX4_readStep (wsV RX4 136 RX4 yX4_takeNumber wsX4_takeNumber) := goodIn_app (goodIn_of _ (by decide +kernel)) ggX4_readStep_X4_takeNumber
set_option maxRecDepth 20000 in
theorem ggX4_readStep_X4_keep : GoodIn wsX4_readStep wsX4_keep := goodIn_r _ [106, 95, 5, 6, 7, 8, 9, 10, 122, 123, 124, 125, 126, 127, 128, 129, 130, 131, 132, 133, 134, 135, 136, 137, 138, 139, 140, 141, 142, 143, 144] (by decide +kernel) (by decide +kernel)
set_option maxRecDepth 20000 in
theorem gX4_readStep_X4_keep : GoodIn wsX4_readStep (wsV RX4 97 RX4 yX4_keep wsX4_keep) := goodIn_app (goodIn_of _ (by decide +kernel)) ggX4_readStep_X4_keep
set_option maxRecDepth 20000 in
theorem ggX4_readStep_X4_keepTarget : GoodIn wsX4_readStep wsX4_keepTarget := goodIn_r _ [118, 119, 120, 95, 121, 96, 103, 104, 105, 3, 106, 5, 6, 7, 8, 9, 10, 131, 132, 133, 134, 135, 136, 137, 138, 139, 140, 141, 142, 143, 144, 122, 123, 124, 125, 126, 127, 128, 129, 130] (by decide +kernel) (by decide +kernel)
set_option maxRecDepth 20000 in
theorem gX4_readStep_X4_keepTarget : GoodIn wsX4_readStep (wsV RX4 140 RX4 yX4_keepTarget wsX4_keepTarget) := goodIn_app (goodIn_of _ (by decide +kernel)) ggX4_readStep_X4_keepTarget
set_option maxRecDepth 20000 in
theorem ggX4_readStep_X4_takeWord : GoodIn wsX4_readStep wsX4_takeWord := goodIn_r _ [110, 11, 12, 13, 3, 14, 15, 16, 17, 18, 19, 20, 21, 22, 23, 24, 25, 26, 27, 28, 29, 30, 31, 32, 33, 34, 35, 36, 37, 38, 39, 40, 41, 42, 43, 44, 45, 46, 47, 48, 49, 50, 51, 52, 53, 54, 55, 56, 57, 58, 59, 60, 61, 62, 63, 64, 65, 66, 67, 68, 69, 70, 71, 72, 97, 98, 99, 100, 101, 102, 77, 78, 79, 80, 81, 82, 83, 84, 85, 86, 87, 88, 89, 90, 131, 132, 133, 134, 135, 136, 137, 138, 139, 140, 141, 142, 143, 144] (by decide +kernel) (by decide +kernel)
set_option maxRecDepth 20000 in
theorem gX4_readStep_X4_takeWord : GoodIn wsX4_readStep (wsV RX4 143 RX4 yX4_takeWord wsX4_takeWord) := goodIn_app (goodIn_of _ (by decide +kernel)) ggX4_readStep_X4_takeWord
theorem dX4_readStep_0 : decode cX4_readStep 0 = .ok (.aload_n 1, 1) := by decide +kernel
theorem dX4_readStep_1 : decode cX4_readStep 1 = .ok (.iload_n 2, 1) := by decide +kernel
theorem dX4_readStep_2 : decode cX4_readStep 2 = .ok (.invokestatic 126, 3) := by decide +kernel
theorem dX4_readStep_5 : decode cX4_readStep 5 = .ok (.aload_n 0, 1) := by decide +kernel
theorem dX4_readStep_6 : decode cX4_readStep 6 = .ok (.ldc 101, 2) := by decide +kernel
theorem dX4_readStep_8 : decode cX4_readStep 8 = .ok (.invokevirtual 78, 3) := by decide +kernel
theorem dX4_readStep_11 : decode cX4_readStep 11 = .ok (.ifCond .eq 10, 3) := by decide +kernel
theorem dX4_readStep_14 : decode cX4_readStep 14 = .ok (.aload_n 0, 1) := by decide +kernel
theorem dX4_readStep_15 : decode cX4_readStep 15 = .ok (.aload_n 1, 1) := by decide +kernel
theorem dX4_readStep_16 : decode cX4_readStep 16 = .ok (.iload_n 2, 1) := by decide +kernel
theorem dX4_readStep_17 : decode cX4_readStep 17 = .ok (.invokevirtual 130, 3) := by decide +kernel
theorem dX4_readStep_20 : decode cX4_readStep 20 = .ok (.ireturn, 1) := by decide +kernel
theorem dX4_readStep_21 : decode cX4_readStep 21 = .ok (.aload_n 0, 1) := by decide +kernel
theorem dX4_readStep_22 : decode cX4_readStep 22 = .ok (.ldc 103, 2) := by decide +kernel
theorem dX4_readStep_24 : decode cX4_readStep 24 = .ok (.invokevirtual 78, 3) := by decide +kernel
theorem dX4_readStep_27 : decode cX4_readStep 27 = .ok (.ifCond .eq 10, 3) := by decide +kernel
theorem dX4_readStep_30 : decode cX4_readStep 30 = .ok (.aload_n 0, 1) := by decide +kernel
theorem dX4_readStep_31 : decode cX4_readStep 31 = .ok (.aload_n 1, 1) := by decide +kernel
theorem dX4_readStep_32 : decode cX4_readStep 32 = .ok (.iload_n 2, 1) := by decide +kernel
theorem dX4_readStep_33 : decode cX4_readStep 33 = .ok (.invokevirtual 133, 3) := by decide +kernel
theorem dX4_readStep_36 : decode cX4_readStep 36 = .ok (.ireturn, 1) := by decide +kernel
theorem dX4_readStep_37 : decode cX4_readStep 37 = .ok (.aload_n 0, 1) := by decide +kernel
theorem dX4_readStep_38 : decode cX4_readStep 38 = .ok (.ldc 105, 2) := by decide +kernel
theorem dX4_readStep_40 : decode cX4_readStep 40 = .ok (.invokevirtual 78, 3) := by decide +kernel
theorem dX4_readStep_43 : decode cX4_readStep 43 = .ok (.ifCond .eq 44, 3) := by decide +kernel
theorem dX4_readStep_46 : decode cX4_readStep 46 = .ok (.aload_n 1, 1) := by decide +kernel
theorem dX4_readStep_47 : decode cX4_readStep 47 = .ok (.aload_n 1, 1) := by decide +kernel
theorem dX4_readStep_48 : decode cX4_readStep 48 = .ok (.getfield 88, 3) := by decide +kernel
theorem dX4_readStep_51 : decode cX4_readStep 51 = .ok (.iload_n 2, 1) := by decide +kernel
theorem dX4_readStep_52 : decode cX4_readStep 52 = .ok (.iconst 0, 1) := by decide +kernel
theorem dX4_readStep_53 : decode cX4_readStep 53 = .ok (.iconst 3, 1) := by decide +kernel
theorem dX4_readStep_54 : decode cX4_readStep 54 = .ok (.invokevirtual 93, 3) := by decide +kernel
theorem dX4_readStep_57 : decode cX4_readStep 57 = .ok (.aload_n 0, 1) := by decide +kernel
theorem dX4_readStep_58 : decode cX4_readStep 58 = .ok (.invokevirtual 85, 3) := by decide +kernel
theorem dX4_readStep_61 : decode cX4_readStep 61 = .ok (.aload_n 0, 1) := by decide +kernel
theorem dX4_readStep_62 : decode cX4_readStep 62 = .ok (.iconst 1, 1) := by decide +kernel
theorem dX4_readStep_63 : decode cX4_readStep 63 = .ok (.bipush 60, 2) := by decide +kernel
theorem dX4_readStep_65 : decode cX4_readStep 65 = .ok (.invokevirtual 136, 3) := by decide +kernel
theorem dX4_readStep_68 : decode cX4_readStep 68 = .ok (.ifCond .eq 17, 3) := by decide +kernel
theorem dX4_readStep_71 : decode cX4_readStep 71 = .ok (.aload_n 0, 1) := by decide +kernel
theorem dX4_readStep_72 : decode cX4_readStep 72 = .ok (.aload_n 1, 1) := by decide +kernel
theorem dX4_readStep_73 : decode cX4_readStep 73 = .ok (.iload_n 2, 1) := by decide +kernel
theorem dX4_readStep_74 : decode cX4_readStep 74 = .ok (.iconst 1, 1) := by decide +kernel
theorem dX4_readStep_75 : decode cX4_readStep 75 = .ok (.invokevirtual 97, 3) := by decide +kernel
theorem dX4_readStep_78 : decode cX4_readStep 78 = .ok (.ifCond .eq 7, 3) := by decide +kernel
theorem dX4_readStep_81 : decode cX4_readStep 81 = .ok (.iconst 1, 1) := by decide +kernel
theorem dX4_readStep_82 : decode cX4_readStep 82 = .ok (.goto 4, 3) := by decide +kernel
theorem dX4_readStep_85 : decode cX4_readStep 85 = .ok (.iconst 0, 1) := by decide +kernel
theorem dX4_readStep_86 : decode cX4_readStep 86 = .ok (.ireturn, 1) := by decide +kernel
theorem dX4_readStep_87 : decode cX4_readStep 87 = .ok (.aload_n 0, 1) := by decide +kernel
theorem dX4_readStep_88 : decode cX4_readStep 88 = .ok (.ldc 107, 2) := by decide +kernel
theorem dX4_readStep_90 : decode cX4_readStep 90 = .ok (.invokevirtual 78, 3) := by decide +kernel
theorem dX4_readStep_93 : decode cX4_readStep 93 = .ok (.ifCond .eq 44, 3) := by decide +kernel
theorem dX4_readStep_96 : decode cX4_readStep 96 = .ok (.aload_n 1, 1) := by decide +kernel
theorem dX4_readStep_97 : decode cX4_readStep 97 = .ok (.aload_n 1, 1) := by decide +kernel
theorem dX4_readStep_98 : decode cX4_readStep 98 = .ok (.getfield 88, 3) := by decide +kernel
theorem dX4_readStep_101 : decode cX4_readStep 101 = .ok (.iload_n 2, 1) := by decide +kernel
theorem dX4_readStep_102 : decode cX4_readStep 102 = .ok (.iconst 0, 1) := by decide +kernel
theorem dX4_readStep_103 : decode cX4_readStep 103 = .ok (.iconst 4, 1) := by decide +kernel
theorem dX4_readStep_104 : decode cX4_readStep 104 = .ok (.invokevirtual 93, 3) := by decide +kernel
theorem dX4_readStep_107 : decode cX4_readStep 107 = .ok (.aload_n 0, 1) := by decide +kernel
theorem dX4_readStep_108 : decode cX4_readStep 108 = .ok (.invokevirtual 85, 3) := by decide +kernel
theorem dX4_readStep_111 : decode cX4_readStep 111 = .ok (.aload_n 0, 1) := by decide +kernel
theorem dX4_readStep_112 : decode cX4_readStep 112 = .ok (.iconst 0, 1) := by decide +kernel
theorem dX4_readStep_113 : decode cX4_readStep 113 = .ok (.bipush 99, 2) := by decide +kernel
theorem dX4_readStep_115 : decode cX4_readStep 115 = .ok (.invokevirtual 136, 3) := by decide +kernel
theorem dX4_readStep_118 : decode cX4_readStep 118 = .ok (.ifCond .eq 17, 3) := by decide +kernel
theorem dX4_readStep_121 : decode cX4_readStep 121 = .ok (.aload_n 0, 1) := by decide +kernel
theorem dX4_readStep_122 : decode cX4_readStep 122 = .ok (.aload_n 1, 1) := by decide +kernel
theorem dX4_readStep_123 : decode cX4_readStep 123 = .ok (.iload_n 2, 1) := by decide +kernel
theorem dX4_readStep_124 : decode cX4_readStep 124 = .ok (.iconst 1, 1) := by decide +kernel
theorem dX4_readStep_125 : decode cX4_readStep 125 = .ok (.invokevirtual 140, 3) := by decide +kernel
theorem dX4_readStep_128 : decode cX4_readStep 128 = .ok (.ifCond .eq 7, 3) := by decide +kernel
theorem dX4_readStep_131 : decode cX4_readStep 131 = .ok (.iconst 1, 1) := by decide +kernel
theorem dX4_readStep_132 : decode cX4_readStep 132 = .ok (.goto 4, 3) := by decide +kernel
theorem dX4_readStep_135 : decode cX4_readStep 135 = .ok (.iconst 0, 1) := by decide +kernel
theorem dX4_readStep_136 : decode cX4_readStep 136 = .ok (.ireturn, 1) := by decide +kernel
theorem dX4_readStep_137 : decode cX4_readStep 137 = .ok (.aload_n 1, 1) := by decide +kernel
theorem dX4_readStep_138 : decode cX4_readStep 138 = .ok (.aload_n 1, 1) := by decide +kernel
theorem dX4_readStep_139 : decode cX4_readStep 139 = .ok (.getfield 88, 3) := by decide +kernel
theorem dX4_readStep_142 : decode cX4_readStep 142 = .ok (.iload_n 2, 1) := by decide +kernel
theorem dX4_readStep_143 : decode cX4_readStep 143 = .ok (.iconst 0, 1) := by decide +kernel
theorem dX4_readStep_144 : decode cX4_readStep 144 = .ok (.iconst 5, 1) := by decide +kernel
theorem dX4_readStep_145 : decode cX4_readStep 145 = .ok (.invokevirtual 93, 3) := by decide +kernel
theorem dX4_readStep_148 : decode cX4_readStep 148 = .ok (.aload_n 0, 1) := by decide +kernel
theorem dX4_readStep_149 : decode cX4_readStep 149 = .ok (.ldc 109, 2) := by decide +kernel
theorem dX4_readStep_151 : decode cX4_readStep 151 = .ok (.invokevirtual 143, 3) := by decide +kernel
theorem dX4_readStep_154 : decode cX4_readStep 154 = .ok (.ireturn, 1) := by decide +kernel
set_option maxRecDepth 20000 in
theorem ggX4_clearStep_X7_setCell : GoodIn wsX4_clearStep wsX7_setCell := goodIn_r _ [5, 6, 7, 8, 9, 10, 11, 12, 13, 14, 15] (by decide +kernel) (by decide +kernel)
set_option maxRecDepth 20000 in
theorem gX4_clearStep_X7_setCell : GoodIn wsX4_clearStep (wsV RX4 93 RX7 yX7_setCell wsX7_setCell) := goodIn_app (goodIn_of _ (by decide +kernel)) ggX4_clearStep_X7_setCell
theorem dX4_clearStep_0 : decode cX4_clearStep 0 = .ok (.aload_n 0, 1) := by decide +kernel
theorem dX4_clearStep_1 : decode cX4_clearStep 1 = .ok (.aload_n 0, 1) := by decide +kernel
theorem dX4_clearStep_2 : decode cX4_clearStep 2 = .ok (.getfield 88, 3) := by decide +kernel
