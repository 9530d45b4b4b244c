theorem dX6_tellsTown_15 : decode cX6_tellsTown 15 = .ok (.istore_n 1, 1) := by decide +kernel
theorem dX6_tellsTown_16 : decode cX6_tellsTown 16 = .ok (.iload_n 1, 1) := by decide +kernel
theorem dX6_tellsTown_17 : decode cX6_tellsTown 17 = .ok (.ifCond .eq 26, 3) := by decide +kernel
theorem dX6_tellsTown_20 : decode cX6_tellsTown 20 = .ok (.aload_n 0, 1) := by decide +kernel
theorem dX6_tellsTown_21 : decode cX6_tellsTown 21 = .ok (.invokevirtual 31, 3) := by decide +kernel
theorem dX6_tellsTown_24 : decode cX6_tellsTown 24 = .ok (.iconst 3, 1) := by decide +kernel
theorem dX6_tellsTown_25 : decode cX6_tellsTown 25 = .ok (.if_icmp .lt 18, 3) := by decide +kernel
theorem dX6_tellsTown_28 : decode cX6_tellsTown 28 = .ok (.aload_n 0, 1) := by decide +kernel
theorem dX6_tellsTown_29 : decode cX6_tellsTown 29 = .ok (.invokevirtual 35, 3) := by decide +kernel
theorem dX6_tellsTown_32 : decode cX6_tellsTown 32 = .ok (.aload_n 0, 1) := by decide +kernel
theorem dX6_tellsTown_33 : decode cX6_tellsTown 33 = .ok (.getfield 15, 3) := by decide +kernel
theorem dX6_tellsTown_36 : decode cX6_tellsTown 36 = .ok (.if_icmp .ne 7, 3) := by decide +kernel
theorem dX6_tellsTown_39 : decode cX6_tellsTown 39 = .ok (.iconst 1, 1) := by decide +kernel
theorem dX6_tellsTown_40 : decode cX6_tellsTown 40 = .ok (.goto 4, 3) := by decide +kernel
theorem dX6_tellsTown_43 : decode cX6_tellsTown 43 = .ok (.iconst 0, 1) := by decide +kernel
theorem dX6_tellsTown_44 : decode cX6_tellsTown 44 = .ok (.ireturn, 1) := by decide +kernel
theorem dX6_housesTold_0 : decode cX6_housesTold 0 = .ok (.aload_n 0, 1) := by decide +kernel
theorem dX6_housesTold_1 : decode cX6_housesTold 1 = .ok (.getfield 15, 3) := by decide +kernel
theorem dX6_housesTold_4 : decode cX6_housesTold 4 = .ok (.iconst 1, 1) := by decide +kernel
theorem dX6_housesTold_5 : decode cX6_housesTold 5 = .ok (.iadd, 1) := by decide +kernel
theorem dX6_housesTold_6 : decode cX6_housesTold 6 = .ok (.iconst 5, 1) := by decide +kernel
theorem dX6_housesTold_7 : decode cX6_housesTold 7 = .ok (.idiv, 1) := by decide +kernel
theorem dX6_housesTold_8 : decode cX6_housesTold 8 = .ok (.ireturn, 1) := by decide +kernel
set_option maxRecDepth 20000 in
theorem ggX6_houseTold_X6_digitAt : GoodIn wsX6_houseTold wsX6_digitAt := goodIn_r _ [20, 21, 22, 23, 19, 24, 25, 26, 67, 68] (by decide +kernel) (by decide +kernel)
set_option maxRecDepth 20000 in
theorem gX6_houseTold_X6_digitAt : GoodIn wsX6_houseTold (wsV RX6 38 RX6 yX6_digitAt wsX6_digitAt) := goodIn_app (goodIn_of _ (by decide +kernel)) ggX6_houseTold_X6_digitAt
set_option maxRecDepth 20000 in
theorem ggX6_houseTold_X6_codeAt : GoodIn wsX6_houseTold wsX6_codeAt := goodIn_r _ [24, 25, 26, 67, 68] (by decide +kernel) (by decide +kernel)
set_option maxRecDepth 20000 in
theorem gX6_houseTold_X6_codeAt : GoodIn wsX6_houseTold (wsV RX6 41 RX6 yX6_codeAt wsX6_codeAt) := goodIn_app (goodIn_of _ (by decide +kernel)) ggX6_houseTold_X6_codeAt
set_option maxRecDepth 20000 in
theorem ggX6_houseTold_X4_init : GoodIn wsX6_houseTold wsX4_init := goodIn_r _ [29, 30, 31, 15, 32, 33, 34, 35, 36, 37, 38, 64, 65, 66, 55, 56, 57, 61, 62, 63, 52, 53, 54, 58, 59, 60] (by decide +kernel) (by decide +kernel)
set_option maxRecDepth 20000 in
theorem gX6_houseTold_X4_init : GoodIn wsX6_houseTold (wsX4_init) := ggX6_houseTold_X4_init
set_option maxRecDepth 20000 in
theorem ggX6_houseTold_X1_init : GoodIn wsX6_houseTold wsX1_init := goodIn_r _ [41, 42, 31, 15, 32, 33, 34, 35, 36, 37, 38, 64, 65, 66, 55, 56, 57, 61, 62, 63, 52, 53, 54, 58, 59, 60] (by decide +kernel) (by decide +kernel)
set_option maxRecDepth 20000 in
theorem gX6_houseTold_X1_init : GoodIn wsX6_houseTold (wsX1_init) := ggX6_houseTold_X1_init
set_option maxRecDepth 20000 in
theorem ggX6_houseTold_X9_init : GoodIn wsX6_houseTold wsX9_init := goodIn_r _ [45, 46, 31, 15, 32, 33, 34, 35, 36, 37, 38, 64, 65, 66, 55, 56, 57, 61, 62, 63, 52, 53, 54, 58, 59, 60] (by decide +kernel) (by decide +kernel)
set_option maxRecDepth 20000 in
theorem gX6_houseTold_X9_init : GoodIn wsX6_houseTold (wsX9_init) := ggX6_houseTold_X9_init
set_option maxRecDepth 20000 in
theorem ggX6_houseTold_X3_init : GoodIn wsX6_houseTold wsX3_init := goodIn_r _ [49, 50, 44, 9, 45, 46, 31, 15, 32, 33, 34, 35, 36, 37, 38, 64, 65, 66, 55, 56, 57, 61, 62, 63, 52, 53, 54, 58, 59, 60] (by decide +kernel) (by decide +kernel)
set_option maxRecDepth 20000 in
theorem gX6_houseTold_X3_init : GoodIn wsX6_houseTold (wsX3_init) := ggX6_houseTold_X3_init
set_option maxRecDepth 20000 in
theorem ggX6_houseTold_X0_init : GoodIn wsX6_houseTold wsX0_init := goodIn_r _ [32, 33, 34, 35, 36, 37, 38, 64, 65, 66, 55, 56, 57, 61, 62, 63, 52, 53, 54, 58, 59, 60] (by decide +kernel) (by decide +kernel)
set_option maxRecDepth 20000 in
theorem gX6_houseTold_X0_init : GoodIn wsX6_houseTold (wsX0_init) := ggX6_houseTold_X0_init
theorem dX6_houseTold_0 : decode cX6_houseTold 0 = .ok (.iload_n 1, 1) := by decide +kernel
theorem dX6_houseTold_1 : decode cX6_houseTold 1 = .ok (.iconst 5, 1) := by decide +kernel
theorem dX6_houseTold_2 : decode cX6_houseTold 2 = .ok (.imul, 1) := by decide +kernel
theorem dX6_houseTold_3 : decode cX6_houseTold 3 = .ok (.istore_n 2, 1) := by decide +kernel
theorem dX6_houseTold_4 : decode cX6_houseTold 4 = .ok (.aload_n 0, 1) := by decide +kernel
theorem dX6_houseTold_5 : decode cX6_houseTold 5 = .ok (.iload_n 2, 1) := by decide +kernel
theorem dX6_houseTold_6 : decode cX6_houseTold 6 = .ok (.iconst 1, 1) := by decide +kernel
theorem dX6_houseTold_7 : decode cX6_houseTold 7 = .ok (.iadd, 1) := by decide +kernel
theorem dX6_houseTold_8 : decode cX6_houseTold 8 = .ok (.invokevirtual 38, 3) := by decide +kernel
theorem dX6_houseTold_11 : decode cX6_houseTold 11 = .ok (.istore_n 3, 1) := by decide +kernel
theorem dX6_houseTold_12 : decode cX6_houseTold 12 = .ok (.aload_n 0, 1) := by decide +kernel
theorem dX6_houseTold_13 : decode cX6_houseTold 13 = .ok (.iload_n 2, 1) := by decide +kernel
theorem dX6_houseTold_14 : decode cX6_houseTold 14 = .ok (.iconst 2, 1) := by decide +kernel
theorem dX6_houseTold_15 : decode cX6_houseTold 15 = .ok (.iadd, 1) := by decide +kernel
theorem dX6_houseTold_16 : decode cX6_houseTold 16 = .ok (.invokevirtual 38, 3) := by decide +kernel
theorem dX6_houseTold_19 : decode cX6_houseTold 19 = .ok (.istore 4, 2) := by decide +kernel
theorem dX6_houseTold_21 : decode cX6_houseTold 21 = .ok (.aload_n 0, 1) := by decide +kernel
theorem dX6_houseTold_22 : decode cX6_houseTold 22 = .ok (.iload_n 2, 1) := by decide +kernel
theorem dX6_houseTold_23 : decode cX6_houseTold 23 = .ok (.iconst 3, 1) := by decide +kernel
theorem dX6_houseTold_24 : decode cX6_houseTold 24 = .ok (.iadd, 1) := by decide +kernel
theorem dX6_houseTold_25 : decode cX6_houseTold 25 = .ok (.invokevirtual 38, 3) := by decide +kernel
theorem dX6_houseTold_28 : decode cX6_houseTold 28 = .ok (.istore 5, 2) := by decide +kernel
theorem dX6_houseTold_30 : decode cX6_houseTold 30 = .ok (.aload_n 0, 1) := by decide +kernel
theorem dX6_houseTold_31 : decode cX6_houseTold 31 = .ok (.iload_n 2, 1) := by decide +kernel
theorem dX6_houseTold_32 : decode cX6_houseTold 32 = .ok (.invokevirtual 41, 3) := by decide +kernel
theorem dX6_houseTold_35 : decode cX6_houseTold 35 = .ok (.lookupswitch 93 #[(105, 54), (108, 80), (109, 41), (119, 67)], 41) := by decide +kernel
theorem dX6_houseTold_76 : decode cX6_houseTold 76 = .ok (.new 44, 3) := by decide +kernel
theorem dX6_houseTold_79 : decode cX6_houseTold 79 = .ok (.dup, 1) := by decide +kernel
theorem dX6_houseTold_80 : decode cX6_houseTold 80 = .ok (.iload_n 3, 1) := by decide +kernel
theorem dX6_houseTold_81 : decode cX6_houseTold 81 = .ok (.iload 4, 2) := by decide +kernel
theorem dX6_houseTold_83 : decode cX6_houseTold 83 = .ok (.iload 5, 2) := by decide +kernel
theorem dX6_houseTold_85 : decode cX6_houseTold 85 = .ok (.invokespecial 46, 3) := by decide +kernel
theorem dX6_houseTold_88 : decode cX6_houseTold 88 = .ok (.areturn, 1) := by decide +kernel
theorem dX6_houseTold_89 : decode cX6_houseTold 89 = .ok (.new 49, 3) := by decide +kernel
theorem dX6_houseTold_92 : decode cX6_houseTold 92 = .ok (.dup, 1) := by decide +kernel
theorem dX6_houseTold_93 : decode cX6_houseTold 93 = .ok (.iload_n 3, 1) := by decide +kernel
theorem dX6_houseTold_94 : decode cX6_houseTold 94 = .ok (.iload 4, 2) := by decide +kernel
theorem dX6_houseTold_96 : decode cX6_houseTold 96 = .ok (.iload 5, 2) := by decide +kernel
theorem dX6_houseTold_98 : decode cX6_houseTold 98 = .ok (.invokespecial 51, 3) := by decide +kernel
theorem dX6_houseTold_101 : decode cX6_houseTold 101 = .ok (.areturn, 1) := by decide +kernel
theorem dX6_houseTold_102 : decode cX6_houseTold 102 = .ok (.new 52, 3) := by decide +kernel
theorem dX6_houseTold_105 : decode cX6_houseTold 105 = .ok (.dup, 1) := by decide +kernel
theorem dX6_houseTold_106 : decode cX6_houseTold 106 = .ok (.iload_n 3, 1) := by decide +kernel
theorem dX6_houseTold_107 : decode cX6_houseTold 107 = .ok (.iload 4, 2) := by decide +kernel
theorem dX6_houseTold_109 : decode cX6_houseTold 109 = .ok (.iload 5, 2) := by decide +kernel
theorem dX6_houseTold_111 : decode cX6_houseTold 111 = .ok (.invokespecial 54, 3) := by decide +kernel
theorem dX6_houseTold_114 : decode cX6_houseTold 114 = .ok (.areturn, 1) := by decide +kernel
theorem dX6_houseTold_115 : decode cX6_houseTold 115 = .ok (.new 55, 3) := by decide +kernel
theorem dX6_houseTold_118 : decode cX6_houseTold 118 = .ok (.dup, 1) := by decide +kernel
theorem dX6_houseTold_119 : decode cX6_houseTold 119 = .ok (.iload_n 3, 1) := by decide +kernel
theorem dX6_houseTold_120 : decode cX6_houseTold 120 = .ok (.iload 4, 2) := by decide +kernel
theorem dX6_houseTold_122 : decode cX6_houseTold 122 = .ok (.iload 5, 2) := by decide +kernel
theorem dX6_houseTold_124 : decode cX6_houseTold 124 = .ok (.invokespecial 57, 3) := by decide +kernel
theorem dX6_houseTold_127 : decode cX6_houseTold 127 = .ok (.areturn, 1) := by decide +kernel
theorem dX6_houseTold_128 : decode cX6_houseTold 128 = .ok (.new 58, 3) := by decide +kernel
theorem dX6_houseTold_131 : decode cX6_houseTold 131 = .ok (.dup, 1) := by decide +kernel
theorem dX6_houseTold_132 : decode cX6_houseTold 132 = .ok (.iload_n 3, 1) := by decide +kernel
theorem dX6_houseTold_133 : decode cX6_houseTold 133 = .ok (.iload 4, 2) := by decide +kernel
theorem dX6_houseTold_135 : decode cX6_houseTold 135 = .ok (.iload 5, 2) := by decide +kernel
theorem dX6_houseTold_137 : decode cX6_houseTold 137 = .ok (.invokespecial 60, 3) := by decide +kernel
theorem dX6_houseTold_140 : decode cX6_houseTold 140 = .ok (.areturn, 1) := by decide +kernel
set_option maxRecDepth 20000 in
theorem ggX6_digitAt_X6_codeAt : GoodIn wsX6_digitAt wsX6_codeAt := goodIn_r _ [5, 6, 7, 8, 9] (by decide +kernel) (by decide +kernel)
set_option maxRecDepth 20000 in
theorem gX6_digitAt_X6_codeAt : GoodIn wsX6_digitAt (wsV RX6 41 RX6 yX6_codeAt wsX6_codeAt) := goodIn_app (goodIn_of _ (by decide +kernel)) ggX6_digitAt_X6_codeAt
theorem dX6_digitAt_0 : decode cX6_digitAt 0 = .ok (.aload_n 0, 1) := by decide +kernel
theorem dX6_digitAt_1 : decode cX6_digitAt 1 = .ok (.iload_n 1, 1) := by decide +kernel
theorem dX6_digitAt_2 : decode cX6_digitAt 2 = .ok (.invokevirtual 41, 3) := by decide +kernel
theorem dX6_digitAt_5 : decode cX6_digitAt 5 = .ok (.bipush 48, 2) := by decide +kernel
theorem dX6_digitAt_7 : decode cX6_digitAt 7 = .ok (.isub, 1) := by decide +kernel
theorem dX6_digitAt_8 : decode cX6_digitAt 8 = .ok (.ireturn, 1) := by decide +kernel
set_option maxRecDepth 20000 in
theorem ggX7_init_X2_init : GoodIn wsX7_init wsX2_init := goodIn_r _ [13, 14, 2, 3] (by decide +kernel) (by decide +kernel)
set_option maxRecDepth 20000 in
theorem gX7_init_X2_init_n28 : GoodIn wsX7_init (wsX2_init) := ggX7_init_X2_init
theorem dX7_init_0 : decode cX7_init 0 = .ok (.aload_n 0, 1) := by decide +kernel
theorem dX7_init_1 : decode cX7_init 1 = .ok (.invokespecial 3, 3) := by decide +kernel
theorem dX7_init_4 : decode cX7_init 4 = .ok (.aload_n 0, 1) := by decide +kernel
theorem dX7_init_5 : decode cX7_init 5 = .ok (.bipush 7, 2) := by decide +kernel
theorem dX7_init_7 : decode cX7_init 7 = .ok (.anewarray 9, 3) := by decide +kernel
theorem dX7_init_10 : decode cX7_init 10 = .ok (.putfield 11, 3) := by decide +kernel
theorem dX7_init_13 : decode cX7_init 13 = .ok (.aload_n 0, 1) := by decide +kernel
theorem dX7_init_14 : decode cX7_init 14 = .ok (.bipush 6, 2) := by decide +kernel
theorem dX7_init_16 : decode cX7_init 16 = .ok (.newarray .int, 2) := by decide +kernel
theorem dX7_init_18 : decode cX7_init 18 = .ok (.putfield 17, 3) := by decide +kernel
theorem dX7_init_21 : decode cX7_init 21 = .ok (.aload_n 0, 1) := by decide +kernel
theorem dX7_init_22 : decode cX7_init 22 = .ok (.bipush 6, 2) := by decide +kernel
theorem dX7_init_24 : decode cX7_init 24 = .ok (.newarray .int, 2) := by decide +kernel
theorem dX7_init_26 : decode cX7_init 26 = .ok (.putfield 21, 3) := by decide +kernel
theorem dX7_init_29 : decode cX7_init 29 = .ok (.aload_n 0, 1) := by decide +kernel
theorem dX7_init_30 : decode cX7_init 30 = .ok (.aload_n 1, 1) := by decide +kernel
theorem dX7_init_31 : decode cX7_init 31 = .ok (.putfield 24, 3) := by decide +kernel
theorem dX7_init_34 : decode cX7_init 34 = .ok (.iconst 0, 1) := by decide +kernel
theorem dX7_init_35 : decode cX7_init 35 = .ok (.istore_n 2, 1) := by decide +kernel
theorem dX7_init_36 : decode cX7_init 36 = .ok (.iload_n 2, 1) := by decide +kernel
theorem dX7_init_37 : decode cX7_init 37 = .ok (.bipush 6, 2) := by decide +kernel
theorem dX7_init_39 : decode cX7_init 39 = .ok (.if_icmp .gt 22, 3) := by decide +kernel
theorem dX7_init_42 : decode cX7_init 42 = .ok (.aload_n 0, 1) := by decide +kernel
theorem dX7_init_43 : decode cX7_init 43 = .ok (.getfield 11, 3) := by decide +kernel
theorem dX7_init_46 : decode cX7_init 46 = .ok (.iload_n 2, 1) := by decide +kernel
theorem dX7_init_47 : decode cX7_init 47 = .ok (.new 9, 3) := by decide +kernel
theorem dX7_init_50 : decode cX7_init 50 = .ok (.dup, 1) := by decide +kernel
theorem dX7_init_51 : decode cX7_init 51 = .ok (.invokespecial 28, 3) := by decide +kernel
theorem dX7_init_54 : decode cX7_init 54 = .ok (.aastore, 1) := by decide +kernel
theorem dX7_init_55 : decode cX7_init 55 = .ok (.iinc 2 1, 3) := by decide +kernel
theorem dX7_init_58 : decode cX7_init 58 = .ok (.goto (-22), 3) := by decide +kernel
theorem dX7_init_61 : decode cX7_init 61 = .ok (.return_, 1) := by decide +kernel
set_option maxRecDepth 20000 in
theorem ggX7_seekBest_X5_waiting : GoodIn wsX7_seekBest wsX5_waiting := goodIn_r _ [8, 9, 134, 135, 136, 137, 138, 139, 140, 141, 142, 143] (by decide +kernel) (by decide +kernel)
set_option maxRecDepth 20000 in
theorem gX7_seekBest_X5_waiting : GoodIn wsX7_seekBest (wsV RX7 36 RX5 yX5_waiting wsX5_waiting) := goodIn_app (goodIn_of _ (by decide +kernel)) ggX7_seekBest_X5_waiting
set_option maxRecDepth 20000 in
theorem ggX7_seekBest_X7_seek : GoodIn wsX7_seekBest wsX7_seek := goodIn_r _ [14, 15, 16, 17, 18, 19, 20, 21, 22, 23, 24, 25, 26, 27, 28, 29, 30, 31, 32, 13, 33, 2, 34, 35, 36, 37, 38, 39, 40, 41, 42, 43, 44, 45, 46, 47, 48, 49, 50, 51, 52, 53, 54, 55, 1, 56, 57, 58, 59, 60, 61, 62, 63, 64, 65, 66, 67, 68, 69, 70, 71, 72, 73, 74, 75, 76, 77, 78, 79, 80, 81, 82, 83, 84, 85, 86, 87, 88, 89, 90, 91, 92, 93, 94, 95, 96, 97, 98, 99, 100, 101, 102, 103, 104, 105, 106, 107, 108, 109, 110, 111, 112, 113, 114, 115, 116, 117, 118, 119, 120, 121, 122, 123, 124, 125, 126, 127, 128, 129, 130, 131, 132, 133, 144, 145, 146, 147, 148, 149, 150, 151, 152, 153, 154, 155, 156, 157, 158, 159, 160, 161, 162, 163, 164, 165] (by decide +kernel) (by decide +kernel)
set_option maxRecDepth 20000 in
theorem gX7_seekBest_X7_seek : GoodIn wsX7_seekBest (wsV RX7 46 RX7 yX7_seek wsX7_seek) := goodIn_app (goodIn_of _ (by decide +kernel)) ggX7_seekBest_X7_seek
theorem dX7_seekBest_0 : decode cX7_seekBest 0 = .ok (.aload_n 0, 1) := by decide +kernel
theorem dX7_seekBest_1 : decode cX7_seekBest 1 = .ok (.iconst 1, 1) := by decide +kernel
theorem dX7_seekBest_2 : decode cX7_seekBest 2 = .ok (.putfield 29, 3) := by decide +kernel
theorem dX7_seekBest_5 : decode cX7_seekBest 5 = .ok (.aload_n 0, 1) := by decide +kernel
theorem dX7_seekBest_6 : decode cX7_seekBest 6 = .ok (.iconst 1, 1) := by decide +kernel
theorem dX7_seekBest_7 : decode cX7_seekBest 7 = .ok (.putfield 33, 3) := by decide +kernel
theorem dX7_seekBest_10 : decode cX7_seekBest 10 = .ok (.aload_n 0, 1) := by decide +kernel
theorem dX7_seekBest_11 : decode cX7_seekBest 11 = .ok (.aload_n 1, 1) := by decide +kernel
theorem dX7_seekBest_12 : decode cX7_seekBest 12 = .ok (.invokevirtual 36, 3) := by decide +kernel
theorem dX7_seekBest_15 : decode cX7_seekBest 15 = .ok (.iload_n 2, 1) := by decide +kernel
theorem dX7_seekBest_16 : decode cX7_seekBest 16 = .ok (.aload_n 1, 1) := by decide +kernel
theorem dX7_seekBest_17 : decode cX7_seekBest 17 = .ok (.getfield 42, 3) := by decide +kernel
theorem dX7_seekBest_20 : decode cX7_seekBest 20 = .ok (.invokevirtual 46, 3) := by decide +kernel
theorem dX7_seekBest_23 : decode cX7_seekBest 23 = .ok (.return_, 1) := by decide +kernel
set_option maxRecDepth 20000 in
theorem ggX7_seekShortest_X5_waiting : GoodIn wsX7_seekShortest wsX5_waiting := goodIn_r _ [10, 11, 135, 136, 137, 138, 139, 140, 141, 142, 143, 144] (by decide +kernel) (by decide +kernel)
set_option maxRecDepth 20000 in
theorem gX7_seekShortest_X5_waiting : GoodIn wsX7_seekShortest (wsV RX7 36 RX5 yX5_waiting wsX5_waiting) := goodIn_app (goodIn_of _ (by decide +kernel)) ggX7_seekShortest_X5_waiting
set_option maxRecDepth 20000 in
theorem ggX7_seekShortest_X7_seek : GoodIn wsX7_seekShortest wsX7_seek := goodIn_r _ [16, 17, 18, 5, 19, 20, 21, 22, 23, 24, 25, 26, 27, 28, 29, 30, 31, 32, 33, 15, 34, 2, 35, 36, 37, 38, 39, 40, 41, 42, 43, 44, 45, 46, 47, 48, 49, 50, 51, 52, 53, 54, 55, 56, 1, 57, 58, 59, 60, 61, 62, 63, 64, 65, 66, 67, 68, 69, 70, 71, 72, 73, 74, 75, 76, 77, 78, 79, 80, 81, 82, 83, 84, 85, 86, 87, 88, 89, 90, 91, 92, 93, 94, 95, 96, 97, 98, 99, 100, 101, 102, 103, 104, 105, 106, 107, 108, 109, 110, 111, 112, 113, 114, 115, 116, 117, 118, 119, 120, 121, 122, 123, 124, 125, 126, 127, 128, 129, 130, 131, 132, 133, 134, 145, 146, 147, 148, 149, 150, 151, 152, 153, 154, 155, 156, 157, 158, 159, 160, 161, 162, 163, 164, 165, 166] (by decide +kernel) (by decide +kernel)
set_option maxRecDepth 20000 in
theorem gX7_seekShortest_X7_seek : GoodIn wsX7_seekShortest (wsV RX7 46 RX7 yX7_seek wsX7_seek) := goodIn_app (goodIn_of _ (by decide +kernel)) ggX7_seekShortest_X7_seek
theorem dX7_seekShortest_0 : decode cX7_seekShortest 0 = .ok (.aload_n 0, 1) := by decide +kernel
theorem dX7_seekShortest_1 : decode cX7_seekShortest 1 = .ok (.iconst 0, 1) := by decide +kernel
theorem dX7_seekShortest_2 : decode cX7_seekShortest 2 = .ok (.putfield 29, 3) := by decide +kernel
theorem dX7_seekShortest_5 : decode cX7_seekShortest 5 = .ok (.aload_n 0, 1) := by decide +kernel
theorem dX7_seekShortest_6 : decode cX7_seekShortest 6 = .ok (.iconst 1, 1) := by decide +kernel
theorem dX7_seekShortest_7 : decode cX7_seekShortest 7 = .ok (.putfield 33, 3) := by decide +kernel
theorem dX7_seekShortest_10 : decode cX7_seekShortest 10 = .ok (.aload_n 0, 1) := by decide +kernel
theorem dX7_seekShortest_11 : decode cX7_seekShortest 11 = .ok (.aload_n 1, 1) := by decide +kernel
theorem dX7_seekShortest_12 : decode cX7_seekShortest 12 = .ok (.invokevirtual 36, 3) := by decide +kernel
theorem dX7_seekShortest_15 : decode cX7_seekShortest 15 = .ok (.aload_n 1, 1) := by decide +kernel
theorem dX7_seekShortest_16 : decode cX7_seekShortest 16 = .ok (.getfield 42, 3) := by decide +kernel
theorem dX7_seekShortest_19 : decode cX7_seekShortest 19 = .ok (.getfield 50, 3) := by decide +kernel
theorem dX7_seekShortest_22 : decode cX7_seekShortest 22 = .ok (.aload_n 1, 1) := by decide +kernel
theorem dX7_seekShortest_23 : decode cX7_seekShortest 23 = .ok (.getfield 42, 3) := by decide +kernel
theorem dX7_seekShortest_26 : decode cX7_seekShortest 26 = .ok (.invokevirtual 46, 3) := by decide +kernel
theorem dX7_seekShortest_29 : decode cX7_seekShortest 29 = .ok (.aload_n 0, 1) := by decide +kernel
theorem dX7_seekShortest_30 : decode cX7_seekShortest 30 = .ok (.getfield 54, 3) := by decide +kernel
theorem dX7_seekShortest_33 : decode cX7_seekShortest 33 = .ok (.ireturn, 1) := by decide +kernel
set_option maxRecDepth 20000 in
theorem ggX7_seekWithTwoKeys_X5_waiting : GoodIn wsX7_seekWithTwoKeys wsX5_waiting := goodIn_r _ [18, 19, 139, 140, 141, 142, 143, 144, 145, 146, 147, 148] (by decide +kernel) (by decide +kernel)
set_option maxRecDepth 20000 in
theorem gX7_seekWithTwoKeys_X5_waiting : GoodIn wsX7_seekWithTwoKeys (wsV RX7 36 RX5 yX5_waiting wsX5_waiting) := goodIn_app (goodIn_of _ (by decide +kernel)) ggX7_seekWithTwoKeys_X5_waiting
set_option maxRecDepth 20000 in
theorem ggX7_seekWithTwoKeys_X7_seek : GoodIn wsX7_seekWithTwoKeys wsX7_seek := goodIn_r _ [24, 3, 25, 6, 26, 27, 28, 29, 30, 31, 32, 33, 34, 35, 36, 37, 38, 39, 40, 23, 41, 2, 42, 43, 44, 45, 46, 47, 48, 49, 50, 51, 52, 53, 54, 55, 56, 57, 58, 59, 60, 61, 62, 63, 1, 64, 65, 66, 67, 68, 69, 70, 71, 72, 73, 74, 75, 76, 77, 78, 79, 8, 9, 10, 80, 81, 82, 83, 84, 85, 86, 87, 88, 89, 90, 91, 92, 93, 94, 95, 96, 97, 98, 99, 100, 101, 102, 103, 104, 105, 106, 107, 108, 109, 110, 111, 112, 113, 114, 115, 116, 117, 118, 119, 120, 121, 122, 123, 124, 125, 126, 127, 128, 129, 130, 131, 132, 133, 134, 135, 136, 137, 138, 149, 150, 151, 152, 153, 154, 155, 156, 157, 158, 159, 160, 161, 162, 163, 164, 165, 166, 167, 168, 169, 170] (by decide +kernel) (by decide +kernel)
set_option maxRecDepth 20000 in
theorem gX7_seekWithTwoKeys_X7_seek : GoodIn wsX7_seekWithTwoKeys (wsV RX7 46 RX7 yX7_seek wsX7_seek) := goodIn_app (goodIn_of _ (by decide +kernel)) ggX7_seekWithTwoKeys_X7_seek
theorem dX7_seekWithTwoKeys_0 : decode cX7_seekWithTwoKeys 0 = .ok (.aload_n 0, 1) := by decide +kernel
theorem dX7_seekWithTwoKeys_1 : decode cX7_seekWithTwoKeys 1 = .ok (.iconst 0, 1) := by decide +kernel
theorem dX7_seekWithTwoKeys_2 : decode cX7_seekWithTwoKeys 2 = .ok (.putfield 29, 3) := by decide +kernel
theorem dX7_seekWithTwoKeys_5 : decode cX7_seekWithTwoKeys 5 = .ok (.aload_n 0, 1) := by decide +kernel
theorem dX7_seekWithTwoKeys_6 : decode cX7_seekWithTwoKeys 6 = .ok (.iconst 0, 1) := by decide +kernel
theorem dX7_seekWithTwoKeys_7 : decode cX7_seekWithTwoKeys 7 = .ok (.putfield 33, 3) := by decide +kernel
theorem dX7_seekWithTwoKeys_10 : decode cX7_seekWithTwoKeys 10 = .ok (.aload_n 1, 1) := by decide +kernel
theorem dX7_seekWithTwoKeys_11 : decode cX7_seekWithTwoKeys 11 = .ok (.invokevirtual 36, 3) := by decide +kernel
theorem dX7_seekWithTwoKeys_14 : decode cX7_seekWithTwoKeys 14 = .ok (.istore_n 2, 1) := by decide +kernel
theorem dX7_seekWithTwoKeys_15 : decode cX7_seekWithTwoKeys 15 = .ok (.ldc 57, 2) := by decide +kernel
theorem dX7_seekWithTwoKeys_17 : decode cX7_seekWithTwoKeys 17 = .ok (.istore_n 3, 1) := by decide +kernel
theorem dX7_seekWithTwoKeys_18 : decode cX7_seekWithTwoKeys 18 = .ok (.iconst 0, 1) := by decide +kernel
theorem dX7_seekWithTwoKeys_19 : decode cX7_seekWithTwoKeys 19 = .ok (.istore 4, 2) := by decide +kernel
theorem dX7_seekWithTwoKeys_21 : decode cX7_seekWithTwoKeys 21 = .ok (.iload 4, 2) := by decide +kernel
theorem dX7_seekWithTwoKeys_23 : decode cX7_seekWithTwoKeys 23 = .ok (.bipush 64, 2) := by decide +kernel
theorem dX7_seekWithTwoKeys_25 : decode cX7_seekWithTwoKeys 25 = .ok (.if_icmp .ge 87, 3) := by decide +kernel
theorem dX7_seekWithTwoKeys_28 : decode cX7_seekWithTwoKeys 28 = .ok (.iload_n 2, 1) := by decide +kernel
theorem dX7_seekWithTwoKeys_29 : decode cX7_seekWithTwoKeys 29 = .ok (.iload 4, 2) := by decide +kernel
theorem dX7_seekWithTwoKeys_31 : decode cX7_seekWithTwoKeys 31 = .ok (.iconst (-1), 1) := by decide +kernel
theorem dX7_seekWithTwoKeys_32 : decode cX7_seekWithTwoKeys 32 = .ok (.ixor, 1) := by decide +kernel
theorem dX7_seekWithTwoKeys_33 : decode cX7_seekWithTwoKeys 33 = .ok (.iand, 1) := by decide +kernel
theorem dX7_seekWithTwoKeys_34 : decode cX7_seekWithTwoKeys 34 = .ok (.istore 5, 2) := by decide +kernel
theorem dX7_seekWithTwoKeys_36 : decode cX7_seekWithTwoKeys 36 = .ok (.iload 4, 2) := by decide +kernel
theorem dX7_seekWithTwoKeys_38 : decode cX7_seekWithTwoKeys 38 = .ok (.iload_n 2, 1) := by decide +kernel
theorem dX7_seekWithTwoKeys_39 : decode cX7_seekWithTwoKeys 39 = .ok (.iand, 1) := by decide +kernel
theorem dX7_seekWithTwoKeys_40 : decode cX7_seekWithTwoKeys 40 = .ok (.iload 4, 2) := by decide +kernel
theorem dX7_seekWithTwoKeys_42 : decode cX7_seekWithTwoKeys 42 = .ok (.if_icmp .ne 64, 3) := by decide +kernel
theorem dX7_seekWithTwoKeys_45 : decode cX7_seekWithTwoKeys 45 = .ok (.iload 4, 2) := by decide +kernel
theorem dX7_seekWithTwoKeys_47 : decode cX7_seekWithTwoKeys 47 = .ok (.iload 5, 2) := by decide +kernel
theorem dX7_seekWithTwoKeys_49 : decode cX7_seekWithTwoKeys 49 = .ok (.if_icmp .gt 57, 3) := by decide +kernel
theorem dX7_seekWithTwoKeys_52 : decode cX7_seekWithTwoKeys 52 = .ok (.aload_n 0, 1) := by decide +kernel
theorem dX7_seekWithTwoKeys_53 : decode cX7_seekWithTwoKeys 53 = .ok (.iload 4, 2) := by decide +kernel
theorem dX7_seekWithTwoKeys_55 : decode cX7_seekWithTwoKeys 55 = .ok (.aload_n 1, 1) := by decide +kernel
theorem dX7_seekWithTwoKeys_56 : decode cX7_seekWithTwoKeys 56 = .ok (.getfield 42, 3) := by decide +kernel
theorem dX7_seekWithTwoKeys_59 : decode cX7_seekWithTwoKeys 59 = .ok (.getfield 50, 3) := by decide +kernel
theorem dX7_seekWithTwoKeys_62 : decode cX7_seekWithTwoKeys 62 = .ok (.aload_n 1, 1) := by decide +kernel
theorem dX7_seekWithTwoKeys_63 : decode cX7_seekWithTwoKeys 63 = .ok (.getfield 42, 3) := by decide +kernel
theorem dX7_seekWithTwoKeys_66 : decode cX7_seekWithTwoKeys 66 = .ok (.invokevirtual 46, 3) := by decide +kernel
theorem dX7_seekWithTwoKeys_69 : decode cX7_seekWithTwoKeys 69 = .ok (.aload_n 0, 1) := by decide +kernel
theorem dX7_seekWithTwoKeys_70 : decode cX7_seekWithTwoKeys 70 = .ok (.getfield 54, 3) := by decide +kernel
theorem dX7_seekWithTwoKeys_73 : decode cX7_seekWithTwoKeys 73 = .ok (.istore 6, 2) := by decide +kernel
theorem dX7_seekWithTwoKeys_75 : decode cX7_seekWithTwoKeys 75 = .ok (.aload_n 0, 1) := by decide +kernel
theorem dX7_seekWithTwoKeys_76 : decode cX7_seekWithTwoKeys 76 = .ok (.iload 5, 2) := by decide +kernel
theorem dX7_seekWithTwoKeys_78 : decode cX7_seekWithTwoKeys 78 = .ok (.aload_n 1, 1) := by decide +kernel
theorem dX7_seekWithTwoKeys_79 : decode cX7_seekWithTwoKeys 79 = .ok (.getfield 42, 3) := by decide +kernel
theorem dX7_seekWithTwoKeys_82 : decode cX7_seekWithTwoKeys 82 = .ok (.getfield 50, 3) := by decide +kernel
theorem dX7_seekWithTwoKeys_85 : decode cX7_seekWithTwoKeys 85 = .ok (.aload_n 1, 1) := by decide +kernel
theorem dX7_seekWithTwoKeys_86 : decode cX7_seekWithTwoKeys 86 = .ok (.getfield 42, 3) := by decide +kernel
theorem dX7_seekWithTwoKeys_89 : decode cX7_seekWithTwoKeys 89 = .ok (.invokevirtual 46, 3) := by decide +kernel
theorem dX7_seekWithTwoKeys_92 : decode cX7_seekWithTwoKeys 92 = .ok (.iload_n 3, 1) := by decide +kernel
theorem dX7_seekWithTwoKeys_93 : decode cX7_seekWithTwoKeys 93 = .ok (.iload 6, 2) := by decide +kernel
theorem dX7_seekWithTwoKeys_95 : decode cX7_seekWithTwoKeys 95 = .ok (.aload_n 0, 1) := by decide +kernel
theorem dX7_seekWithTwoKeys_96 : decode cX7_seekWithTwoKeys 96 = .ok (.getfield 54, 3) := by decide +kernel
theorem dX7_seekWithTwoKeys_99 : decode cX7_seekWithTwoKeys 99 = .ok (.invokestatic 58, 3) := by decide +kernel
theorem dX7_seekWithTwoKeys_102 : decode cX7_seekWithTwoKeys 102 = .ok (.invokestatic 64, 3) := by decide +kernel
theorem dX7_seekWithTwoKeys_105 : decode cX7_seekWithTwoKeys 105 = .ok (.istore_n 3, 1) := by decide +kernel
theorem dX7_seekWithTwoKeys_106 : decode cX7_seekWithTwoKeys 106 = .ok (.iinc 4 1, 3) := by decide +kernel
theorem dX7_seekWithTwoKeys_109 : decode cX7_seekWithTwoKeys 109 = .ok (.goto (-88), 3) := by decide +kernel
theorem dX7_seekWithTwoKeys_112 : decode cX7_seekWithTwoKeys 112 = .ok (.iload_n 3, 1) := by decide +kernel
theorem dX7_seekWithTwoKeys_113 : decode cX7_seekWithTwoKeys 113 = .ok (.ireturn, 1) := by decide +kernel
theorem dX7_bestHouse_0 : decode cX7_bestHouse 0 = .ok (.iload_n 1, 1) := by decide +kernel
theorem dX7_bestHouse_1 : decode cX7_bestHouse 1 = .ok (.ifCond .lt 21, 3) := by decide +kernel
theorem dX7_bestHouse_4 : decode cX7_bestHouse 4 = .ok (.iload_n 1, 1) := by decide +kernel
theorem dX7_bestHouse_5 : decode cX7_bestHouse 5 = .ok (.aload_n 0, 1) := by decide +kernel
theorem dX7_bestHouse_6 : decode cX7_bestHouse 6 = .ok (.getfield 67, 3) := by decide +kernel
theorem dX7_bestHouse_9 : decode cX7_bestHouse 9 = .ok (.if_icmp .ge 13, 3) := by decide +kernel
theorem dX7_bestHouse_12 : decode cX7_bestHouse 12 = .ok (.iload_n 1, 1) := by decide +kernel
theorem dX7_bestHouse_13 : decode cX7_bestHouse 13 = .ok (.bipush 6, 2) := by decide +kernel
theorem dX7_bestHouse_15 : decode cX7_bestHouse 15 = .ok (.if_icmp .ge 7, 3) := by decide +kernel
theorem dX7_bestHouse_18 : decode cX7_bestHouse 18 = .ok (.iconst 1, 1) := by decide +kernel
theorem dX7_bestHouse_19 : decode cX7_bestHouse 19 = .ok (.goto 4, 3) := by decide +kernel
theorem dX7_bestHouse_22 : decode cX7_bestHouse 22 = .ok (.iconst 0, 1) := by decide +kernel
theorem dX7_bestHouse_23 : decode cX7_bestHouse 23 = .ok (.istore_n 2, 1) := by decide +kernel
theorem dX7_bestHouse_24 : decode cX7_bestHouse 24 = .ok (.iload_n 2, 1) := by decide +kernel
theorem dX7_bestHouse_25 : decode cX7_bestHouse 25 = .ok (.ifCond .eq 12, 3) := by decide +kernel
theorem dX7_bestHouse_28 : decode cX7_bestHouse 28 = .ok (.aload_n 0, 1) := by decide +kernel
theorem dX7_bestHouse_29 : decode cX7_bestHouse 29 = .ok (.getfield 21, 3) := by decide +kernel
theorem dX7_bestHouse_32 : decode cX7_bestHouse 32 = .ok (.iload_n 1, 1) := by decide +kernel
theorem dX7_bestHouse_33 : decode cX7_bestHouse 33 = .ok (.iaload, 1) := by decide +kernel
theorem dX7_bestHouse_34 : decode cX7_bestHouse 34 = .ok (.goto 4, 3) := by decide +kernel
theorem dX7_bestHouse_37 : decode cX7_bestHouse 37 = .ok (.iconst (-1), 1) := by decide +kernel
theorem dX7_bestHouse_38 : decode cX7_bestHouse 38 = .ok (.ireturn, 1) := by decide +kernel
set_option maxRecDepth 20000 in
theorem ggX7_seek_X2_put : GoodIn wsX7_seek wsX2_put := goodIn_r _ [12, 13, 14, 15, 123, 124, 125] (by decide +kernel) (by decide +kernel)
set_option maxRecDepth 20000 in
theorem gX7_seek_X2_put : GoodIn wsX7_seek (wsV RX7 79 RX2 yX2_put wsX2_put) := goodIn_app (goodIn_of _ (by decide +kernel)) ggX7_seek_X2_put
set_option maxRecDepth 20000 in
theorem ggX7_seek_X7_goOn : GoodIn wsX7_seek wsX7_goOn := goodIn_r _ [20, 5, 6, 21, 22, 23, 24, 25, 26, 19, 27, 2, 3, 28, 29, 30, 31, 4, 32, 33, 34, 35, 36, 37, 38, 39, 40, 41, 42, 43, 44, 45, 46, 47, 48, 49, 50, 51, 52, 53, 11, 54, 13, 14, 15, 55, 9, 10, 12, 56, 57, 58, 59, 60, 61, 62, 63, 64, 65, 66, 67, 68, 69, 70, 71, 72, 73, 74, 75, 76, 77, 78, 79, 80, 81, 82, 83, 84, 85, 86, 87, 88, 89, 90, 91, 92, 93, 94, 95, 96, 97, 98, 99, 100, 101, 102, 103, 104, 105, 106, 107, 108, 109, 110, 111, 112, 113, 16, 17, 18, 114, 115, 116, 117, 118, 119, 120, 121, 122, 123, 124, 125, 126, 127, 128, 129, 130, 131, 132, 133, 134, 135, 136, 137, 138, 139, 140, 141, 142, 143, 144] (by decide +kernel) (by decide +kernel)
set_option maxRecDepth 20000 in
theorem gX7_seek_X7_goOn : GoodIn wsX7_seek (wsV RX7 83 RX7 yX7_goOn wsX7_goOn) := goodIn_app (goodIn_of _ (by decide +kernel)) ggX7_seek_X7_goOn
theorem dX7_seek_0 : decode cX7_seek 0 = .ok (.aload_n 0, 1) := by decide +kernel
theorem dX7_seek_1 : decode cX7_seek 1 = .ok (.ldc 57, 2) := by decide +kernel
theorem dX7_seek_3 : decode cX7_seek 3 = .ok (.putfield 70, 3) := by decide +kernel
theorem dX7_seek_6 : decode cX7_seek 6 = .ok (.aload_n 0, 1) := by decide +kernel
theorem dX7_seek_7 : decode cX7_seek 7 = .ok (.ldc 57, 2) := by decide +kernel
theorem dX7_seek_9 : decode cX7_seek 9 = .ok (.putfield 54, 3) := by decide +kernel
theorem dX7_seek_12 : decode cX7_seek 12 = .ok (.aload_n 0, 1) := by decide +kernel
theorem dX7_seek_13 : decode cX7_seek 13 = .ok (.iconst 0, 1) := by decide +kernel
theorem dX7_seek_14 : decode cX7_seek 14 = .ok (.putfield 67, 3) := by decide +kernel
theorem dX7_seek_17 : decode cX7_seek 17 = .ok (.aload_n 0, 1) := by decide +kernel
theorem dX7_seek_18 : decode cX7_seek 18 = .ok (.getfield 11, 3) := by decide +kernel
theorem dX7_seek_21 : decode cX7_seek 21 = .ok (.iconst 0, 1) := by decide +kernel
theorem dX7_seek_22 : decode cX7_seek 22 = .ok (.aaload, 1) := by decide +kernel
theorem dX7_seek_23 : decode cX7_seek 23 = .ok (.iload_n 2, 1) := by decide +kernel
theorem dX7_seek_24 : decode cX7_seek 24 = .ok (.aload_n 3, 1) := by decide +kernel
theorem dX7_seek_25 : decode cX7_seek 25 = .ok (.getfield 73, 3) := by decide +kernel
theorem dX7_seek_28 : decode cX7_seek 28 = .ok (.aload_n 3, 1) := by decide +kernel
theorem dX7_seek_29 : decode cX7_seek 29 = .ok (.getfield 76, 3) := by decide +kernel
theorem dX7_seek_32 : decode cX7_seek 32 = .ok (.invokevirtual 79, 3) := by decide +kernel
theorem dX7_seek_35 : decode cX7_seek 35 = .ok (.aload_n 0, 1) := by decide +kernel
theorem dX7_seek_36 : decode cX7_seek 36 = .ok (.iconst 0, 1) := by decide +kernel
theorem dX7_seek_37 : decode cX7_seek 37 = .ok (.iload_n 1, 1) := by decide +kernel
theorem dX7_seek_38 : decode cX7_seek 38 = .ok (.iconst 0, 1) := by decide +kernel
theorem dX7_seek_39 : decode cX7_seek 39 = .ok (.invokevirtual 83, 3) := by decide +kernel
theorem dX7_seek_42 : decode cX7_seek 42 = .ok (.return_, 1) := by decide +kernel
set_option maxRecDepth 20000 in
theorem ggX7_goOn_X7_isBetter : GoodIn wsX7_goOn wsX7_isBetter := goodIn_r _ [10, 11, 12, 110, 111, 112, 113, 114, 115, 116, 117, 118] (by decide +kernel) (by decide +kernel)
set_option maxRecDepth 20000 in
theorem gX7_goOn_X7_isBetter : GoodIn wsX7_goOn (wsV RX7 86 RX7 yX7_isBetter wsX7_isBetter) := goodIn_app (goodIn_of _ (by decide +kernel)) ggX7_goOn_X7_isBetter
set_option maxRecDepth 20000 in
theorem ggX7_goOn_X7_keepRound : GoodIn wsX7_goOn wsX7_keepRound := goodIn_r _ [16, 11, 1, 2, 12, 17, 18, 19, 110, 111, 112, 113, 114, 115, 116, 117, 118, 119, 120, 121] (by decide +kernel) (by decide +kernel)
set_option maxRecDepth 20000 in
theorem gX7_goOn_X7_keepRound : GoodIn wsX7_goOn (wsV RX7 90 RX7 yX7_keepRound wsX7_keepRound) := goodIn_app (goodIn_of _ (by decide +kernel)) ggX7_goOn_X7_keepRound
set_option maxRecDepth 20000 in
theorem ggX7_goOn_X8_mayBeOpened : GoodIn wsX7_goOn wsX8_mayBeOpened := goodIn_r _ [24, 25, 122, 123, 124, 125] (by decide +kernel) (by decide +kernel)
set_option maxRecDepth 20000 in
theorem gX7_goOn_X8_mayBeOpened : GoodIn wsX7_goOn (wsV RX7 94 RX8 yX8_mayBeOpened wsX8_mayBeOpened) := goodIn_app (goodIn_of _ (by decide +kernel)) ggX7_goOn_X8_mayBeOpened
set_option maxRecDepth 20000 in
theorem ggX7_goOn_X7_openThenGoOn : GoodIn wsX7_goOn wsX7_openThenGoOn := goodIn_r _ [29, 4, 1, 19, 30, 2, 31, 32, 33, 23, 34, 35, 36, 37, 38, 39, 40, 41, 42, 43, 44, 45, 46, 47, 48, 49, 50, 51, 52, 53, 54, 55, 56, 57, 58, 59, 60, 61, 62, 63, 64, 65, 66, 67, 68, 69, 70, 71, 72, 73, 74, 75, 76, 77, 78, 79, 80, 81, 82, 83, 84, 85, 86, 87, 88, 89, 90, 91, 92, 93, 94, 95, 96, 97, 98, 99, 100, 101, 102, 103, 104, 105, 106, 107, 108, 109, 9, 0, 3, 5, 6, 7, 8, 10, 11, 12, 13, 14, 15, 16, 17, 18, 20, 21, 22, 24, 25, 26, 27, 28, 110, 111, 112, 113, 114, 115, 116, 117, 118, 119, 120, 121, 122, 123, 124, 125, 126, 127, 128, 129, 130, 131, 132, 133, 134, 135, 136, 137, 138, 139, 140] (by decide +kernel) (by decide +kernel)
set_option maxRecDepth 20000 in
theorem gX7_goOn_X7_openThenGoOn : GoodIn wsX7_goOn (wsV RX7 103 RX7 yX7_openThenGoOn wsX7_openThenGoOn) := goodIn_app (goodIn_of _ (by decide +kernel)) ggX7_goOn_X7_openThenGoOn
theorem dX7_goOn_0 : decode cX7_goOn 0 = .ok (.iload_n 1, 1) := by decide +kernel
theorem dX7_goOn_1 : decode cX7_goOn 1 = .ok (.ifCond .lt 26, 3) := by decide +kernel
theorem dX7_goOn_4 : decode cX7_goOn 4 = .ok (.iload_n 1, 1) := by decide +kernel
theorem dX7_goOn_5 : decode cX7_goOn 5 = .ok (.bipush 6, 2) := by decide +kernel
theorem dX7_goOn_7 : decode cX7_goOn 7 = .ok (.if_icmp .gt 20, 3) := by decide +kernel
theorem dX7_goOn_10 : decode cX7_goOn 10 = .ok (.aload_n 0, 1) := by decide +kernel
theorem dX7_goOn_11 : decode cX7_goOn 11 = .ok (.iload_n 3, 1) := by decide +kernel
theorem dX7_goOn_12 : decode cX7_goOn 12 = .ok (.aload_n 0, 1) := by decide +kernel
theorem dX7_goOn_13 : decode cX7_goOn 13 = .ok (.getfield 11, 3) := by decide +kernel
theorem dX7_goOn_16 : decode cX7_goOn 16 = .ok (.iload_n 1, 1) := by decide +kernel
theorem dX7_goOn_17 : decode cX7_goOn 17 = .ok (.aaload, 1) := by decide +kernel
theorem dX7_goOn_18 : decode cX7_goOn 18 = .ok (.getfield 73, 3) := by decide +kernel
theorem dX7_goOn_21 : decode cX7_goOn 21 = .ok (.invokevirtual 86, 3) := by decide +kernel
theorem dX7_goOn_24 : decode cX7_goOn 24 = .ok (.ifCond .ne 4, 3) := by decide +kernel
theorem dX7_goOn_27 : decode cX7_goOn 27 = .ok (.return_, 1) := by decide +kernel
theorem dX7_goOn_28 : decode cX7_goOn 28 = .ok (.iload_n 2, 1) := by decide +kernel
theorem dX7_goOn_29 : decode cX7_goOn 29 = .ok (.ifCond .ne 10, 3) := by decide +kernel
theorem dX7_goOn_32 : decode cX7_goOn 32 = .ok (.aload_n 0, 1) := by decide +kernel
theorem dX7_goOn_33 : decode cX7_goOn 33 = .ok (.iload_n 1, 1) := by decide +kernel
theorem dX7_goOn_34 : decode cX7_goOn 34 = .ok (.iload_n 3, 1) := by decide +kernel
theorem dX7_goOn_35 : decode cX7_goOn 35 = .ok (.invokevirtual 90, 3) := by decide +kernel
theorem dX7_goOn_38 : decode cX7_goOn 38 = .ok (.return_, 1) := by decide +kernel
theorem dX7_goOn_39 : decode cX7_goOn 39 = .ok (.aload_n 0, 1) := by decide +kernel
theorem dX7_goOn_40 : decode cX7_goOn 40 = .ok (.getfield 33, 3) := by decide +kernel
theorem dX7_goOn_43 : decode cX7_goOn 43 = .ok (.ifCond .eq 14, 3) := by decide +kernel
theorem dX7_goOn_46 : decode cX7_goOn 46 = .ok (.aload_n 0, 1) := by decide +kernel
theorem dX7_goOn_47 : decode cX7_goOn 47 = .ok (.getfield 24, 3) := by decide +kernel
theorem dX7_goOn_50 : decode cX7_goOn 50 = .ok (.iload_n 2, 1) := by decide +kernel
theorem dX7_goOn_51 : decode cX7_goOn 51 = .ok (.invokevirtual 94, 3) := by decide +kernel
theorem dX7_goOn_54 : decode cX7_goOn 54 = .ok (.goto 4, 3) := by decide +kernel
theorem dX7_goOn_57 : decode cX7_goOn 57 = .ok (.iload_n 2, 1) := by decide +kernel
theorem dX7_goOn_58 : decode cX7_goOn 58 = .ok (.istore 4, 2) := by decide +kernel
theorem dX7_goOn_60 : decode cX7_goOn 60 = .ok (.iconst 0, 1) := by decide +kernel
theorem dX7_goOn_61 : decode cX7_goOn 61 = .ok (.istore 5, 2) := by decide +kernel
theorem dX7_goOn_63 : decode cX7_goOn 63 = .ok (.iload 5, 2) := by decide +kernel
theorem dX7_goOn_65 : decode cX7_goOn 65 = .ok (.aload_n 0, 1) := by decide +kernel
theorem dX7_goOn_66 : decode cX7_goOn 66 = .ok (.getfield 24, 3) := by decide +kernel
theorem dX7_goOn_69 : decode cX7_goOn 69 = .ok (.getfield 100, 3) := by decide +kernel
theorem dX7_goOn_72 : decode cX7_goOn 72 = .ok (.if_icmp .ge 29, 3) := by decide +kernel
theorem dX7_goOn_75 : decode cX7_goOn 75 = .ok (.iload 4, 2) := by decide +kernel
theorem dX7_goOn_77 : decode cX7_goOn 77 = .ok (.iload 5, 2) := by decide +kernel
theorem dX7_goOn_79 : decode cX7_goOn 79 = .ok (.ishr, 1) := by decide +kernel
theorem dX7_goOn_80 : decode cX7_goOn 80 = .ok (.iconst 1, 1) := by decide +kernel
theorem dX7_goOn_81 : decode cX7_goOn 81 = .ok (.iand, 1) := by decide +kernel
theorem dX7_goOn_82 : decode cX7_goOn 82 = .ok (.iconst 1, 1) := by decide +kernel
theorem dX7_goOn_83 : decode cX7_goOn 83 = .ok (.if_icmp .ne 12, 3) := by decide +kernel
theorem dX7_goOn_86 : decode cX7_goOn 86 = .ok (.aload_n 0, 1) := by decide +kernel
theorem dX7_goOn_87 : decode cX7_goOn 87 = .ok (.iload 5, 2) := by decide +kernel
theorem dX7_goOn_89 : decode cX7_goOn 89 = .ok (.iload_n 1, 1) := by decide +kernel
theorem dX7_goOn_90 : decode cX7_goOn 90 = .ok (.iload_n 2, 1) := by decide +kernel
theorem dX7_goOn_91 : decode cX7_goOn 91 = .ok (.iload_n 3, 1) := by decide +kernel
theorem dX7_goOn_92 : decode cX7_goOn 92 = .ok (.invokevirtual 103, 3) := by decide +kernel
theorem dX7_goOn_95 : decode cX7_goOn 95 = .ok (.iinc 5 1, 3) := by decide +kernel
theorem dX7_goOn_98 : decode cX7_goOn 98 = .ok (.goto (-35), 3) := by decide +kernel
theorem dX7_goOn_101 : decode cX7_goOn 101 = .ok (.return_, 1) := by decide +kernel
set_option maxRecDepth 20000 in
theorem ggX7_openThenGoOn_X8_at : GoodIn wsX7_openThenGoOn wsX8_at := goodIn_r _ [10, 11, 12, 122, 123, 124, 125] (by decide +kernel) (by decide +kernel)
set_option maxRecDepth 20000 in
theorem gX7_openThenGoOn_X8_at : GoodIn wsX7_openThenGoOn (wsV RX7 107 RX8 yX8_at wsX8_at) := goodIn_app (goodIn_of _ (by decide +kernel)) ggX7_openThenGoOn_X8_at
set_option maxRecDepth 20000 in
theorem ggX7_openThenGoOn_X2_copyFrom : GoodIn wsX7_openThenGoOn wsX2_copyFrom := goodIn_r _ [17, 18, 19, 20, 21, 22, 23, 16, 24, 119, 120, 121] (by decide +kernel) (by decide +kernel)
set_option maxRecDepth 20000 in
theorem gX7_openThenGoOn_X2_copyFrom : GoodIn wsX7_openThenGoOn (wsV RX7 111 RX2 yX2_copyFrom wsX2_copyFrom) := goodIn_app (goodIn_of _ (by decide +kernel)) ggX7_openThenGoOn_X2_copyFrom
set_option maxRecDepth 20000 in
theorem ggX7_openThenGoOn_X2_bringTo : GoodIn wsX7_openThenGoOn wsX2_bringTo := goodIn_r _ [28, 19, 20, 29, 30, 31, 32, 18, 33, 34, 35, 36, 37, 38, 39, 40, 41, 42, 43, 44, 45, 46, 47, 48, 49, 50, 51, 52, 53, 54, 55, 56, 57, 58, 59, 60, 61, 62, 63, 64, 65, 21, 22, 23, 16, 24, 119, 120, 121, 126, 127, 128, 129, 130, 131, 132, 133, 134, 135, 136, 137, 138, 139, 140] (by decide +kernel) (by decide +kernel)
set_option maxRecDepth 20000 in
theorem gX7_openThenGoOn_X2_bringTo : GoodIn wsX7_openThenGoOn (wsV RX7 115 RX2 yX2_bringTo wsX2_bringTo) := goodIn_app (goodIn_of _ (by decide +kernel)) ggX7_openThenGoOn_X2_bringTo
set_option maxRecDepth 20000 in
theorem ggX7_openThenGoOn_X0_lateAt : GoodIn wsX7_openThenGoOn wsX0_lateAt := goodIn_r _ [69, 70, 71, 30, 31, 32, 72, 126, 127, 128, 129, 130, 131, 132, 133, 134, 135, 136, 137, 138, 139, 140] (by decide +kernel) (by decide +kernel)
set_option maxRecDepth 20000 in
theorem gX7_openThenGoOn_X0_lateAt : GoodIn wsX7_openThenGoOn (wsV RX7 119 RX0 yX0_lateAt wsX0_lateAt) := goodIn_app (goodIn_of _ (by decide +kernel)) ggX7_openThenGoOn_X0_lateAt
set_option maxRecDepth 20000 in
theorem ggX7_openThenGoOn_X1_lateAt : GoodIn wsX7_openThenGoOn wsX1_lateAt := goodIn_r _ [79] (by decide +kernel) (by decide +kernel)
set_option maxRecDepth 20000 in
theorem gX7_openThenGoOn_X1_lateAt_u119X1 : GoodIn wsX7_openThenGoOn (va_wsO RX7 119 RX1 "KeyOnStreet$House" ⟨"KeyOnStreet$House", "lateAt", "(I)I"⟩ yX1_lateAt wsX1_lateAt) := goodIn_app (goodIn_of _ (by decide +kernel)) ggX7_openThenGoOn_X1_lateAt
set_option maxRecDepth 20000 in
theorem gX7_openThenGoOn_X0_lateAt_u119X3 : GoodIn wsX7_openThenGoOn (va_wsU RX7 119 RX3 "KeyOnStreet$House" ⟨"KeyOnStreet$House", "lateAt", "(I)I"⟩ yX0_lateAt wsX0_lateAt) := goodIn_app (goodIn_of _ (by decide +kernel)) ggX7_openThenGoOn_X0_lateAt
set_option maxRecDepth 20000 in
theorem gX7_openThenGoOn_X0_lateAt_u119X4 : GoodIn wsX7_openThenGoOn (va_wsU RX7 119 RX4 "KeyOnStreet$House" ⟨"KeyOnStreet$House", "lateAt", "(I)I"⟩ yX0_lateAt wsX0_lateAt) := goodIn_app (goodIn_of _ (by decide +kernel)) ggX7_openThenGoOn_X0_lateAt
set_option maxRecDepth 20000 in
theorem gX7_openThenGoOn_X0_lateAt_u119X9 : GoodIn wsX7_openThenGoOn (va_wsU RX7 119 RX9 "KeyOnStreet$House" ⟨"KeyOnStreet$House", "lateAt", "(I)I"⟩ yX0_lateAt wsX0_lateAt) := goodIn_app (goodIn_of _ (by decide +kernel)) ggX7_openThenGoOn_X0_lateAt
set_option maxRecDepth 20000 in
theorem ggX7_openThenGoOn_X7_goOn : GoodIn wsX7_openThenGoOn wsX7_goOn := goodIn_r _ [87, 2, 5, 88, 1, 89, 90, 91, 92, 86, 93, 94, 95, 96, 97, 98, 99, 100, 101, 3, 102, 103, 104, 9, 105, 106, 107, 108, 109, 0, 4, 6, 7, 8, 10, 11, 12, 13, 14, 15, 16, 17, 18, 19, 20, 21, 22, 23, 24, 25, 26, 27, 28, 29, 30, 31, 32, 33, 34, 35, 36, 37, 38, 39, 40, 41, 42, 43, 44, 45, 46, 47, 48, 49, 50, 51, 52, 53, 54, 55, 56, 57, 58, 59, 60, 61, 62, 63, 64, 65, 66, 67, 68, 69, 70, 71, 72, 73, 74, 75, 76, 77, 78, 79, 80, 81, 82, 83, 84, 85, 110, 111, 112, 113, 114, 115, 116, 117, 118, 119, 120, 121, 122, 123, 124, 125, 126, 127, 128, 129, 130, 131, 132, 133, 134, 135, 136, 137, 138, 139, 140] (by decide +kernel) (by decide +kernel)
set_option maxRecDepth 20000 in
theorem gX7_openThenGoOn_X7_goOn : GoodIn wsX7_openThenGoOn (wsV RX7 83 RX7 yX7_goOn wsX7_goOn) := goodIn_app (goodIn_of _ (by decide +kernel)) ggX7_openThenGoOn_X7_goOn
theorem dX7_openThenGoOn_0 : decode cX7_openThenGoOn 0 = .ok (.iload_n 2, 1) := by decide +kernel
theorem dX7_openThenGoOn_1 : decode cX7_openThenGoOn 1 = .ok (.ifCond .lt 9, 3) := by decide +kernel
theorem dX7_openThenGoOn_4 : decode cX7_openThenGoOn 4 = .ok (.iload_n 2, 1) := by decide +kernel
theorem dX7_openThenGoOn_5 : decode cX7_openThenGoOn 5 = .ok (.bipush 6, 2) := by decide +kernel
theorem dX7_openThenGoOn_7 : decode cX7_openThenGoOn 7 = .ok (.if_icmp .lt 4, 3) := by decide +kernel
theorem dX7_openThenGoOn_10 : decode cX7_openThenGoOn 10 = .ok (.return_, 1) := by decide +kernel
theorem dX7_openThenGoOn_11 : decode cX7_openThenGoOn 11 = .ok (.aload_n 0, 1) := by decide +kernel
theorem dX7_openThenGoOn_12 : decode cX7_openThenGoOn 12 = .ok (.getfield 24, 3) := by decide +kernel
theorem dX7_openThenGoOn_15 : decode cX7_openThenGoOn 15 = .ok (.iload_n 1, 1) := by decide +kernel
theorem dX7_openThenGoOn_16 : decode cX7_openThenGoOn 16 = .ok (.invokevirtual 107, 3) := by decide +kernel
theorem dX7_openThenGoOn_19 : decode cX7_openThenGoOn 19 = .ok (.astore 5, 2) := by decide +kernel
theorem dX7_openThenGoOn_21 : decode cX7_openThenGoOn 21 = .ok (.aload_n 0, 1) := by decide +kernel
theorem dX7_openThenGoOn_22 : decode cX7_openThenGoOn 22 = .ok (.getfield 11, 3) := by decide +kernel
theorem dX7_openThenGoOn_25 : decode cX7_openThenGoOn 25 = .ok (.iload_n 2, 1) := by decide +kernel
theorem dX7_openThenGoOn_26 : decode cX7_openThenGoOn 26 = .ok (.iconst 1, 1) := by decide +kernel
theorem dX7_openThenGoOn_27 : decode cX7_openThenGoOn 27 = .ok (.iadd, 1) := by decide +kernel
theorem dX7_openThenGoOn_28 : decode cX7_openThenGoOn 28 = .ok (.aaload, 1) := by decide +kernel
theorem dX7_openThenGoOn_29 : decode cX7_openThenGoOn 29 = .ok (.astore 6, 2) := by decide +kernel
theorem dX7_openThenGoOn_31 : decode cX7_openThenGoOn 31 = .ok (.aload 6, 2) := by decide +kernel
theorem dX7_openThenGoOn_33 : decode cX7_openThenGoOn 33 = .ok (.aload_n 0, 1) := by decide +kernel
theorem dX7_openThenGoOn_34 : decode cX7_openThenGoOn 34 = .ok (.getfield 11, 3) := by decide +kernel
theorem dX7_openThenGoOn_37 : decode cX7_openThenGoOn 37 = .ok (.iload_n 2, 1) := by decide +kernel
theorem dX7_openThenGoOn_38 : decode cX7_openThenGoOn 38 = .ok (.aaload, 1) := by decide +kernel
theorem dX7_openThenGoOn_39 : decode cX7_openThenGoOn 39 = .ok (.invokevirtual 111, 3) := by decide +kernel
theorem dX7_openThenGoOn_42 : decode cX7_openThenGoOn 42 = .ok (.aload 6, 2) := by decide +kernel
theorem dX7_openThenGoOn_44 : decode cX7_openThenGoOn 44 = .ok (.aload 5, 2) := by decide +kernel
theorem dX7_openThenGoOn_46 : decode cX7_openThenGoOn 46 = .ok (.invokevirtual 115, 3) := by decide +kernel
theorem dX7_openThenGoOn_49 : decode cX7_openThenGoOn 49 = .ok (.aload_n 0, 1) := by decide +kernel
theorem dX7_openThenGoOn_50 : decode cX7_openThenGoOn 50 = .ok (.getfield 17, 3) := by decide +kernel
theorem dX7_openThenGoOn_53 : decode cX7_openThenGoOn 53 = .ok (.iload_n 2, 1) := by decide +kernel
theorem dX7_openThenGoOn_54 : decode cX7_openThenGoOn 54 = .ok (.iload_n 1, 1) := by decide +kernel
theorem dX7_openThenGoOn_55 : decode cX7_openThenGoOn 55 = .ok (.iastore, 1) := by decide +kernel
theorem dX7_openThenGoOn_56 : decode cX7_openThenGoOn 56 = .ok (.aload_n 0, 1) := by decide +kernel
theorem dX7_openThenGoOn_57 : decode cX7_openThenGoOn 57 = .ok (.getfield 29, 3) := by decide +kernel
theorem dX7_openThenGoOn_60 : decode cX7_openThenGoOn 60 = .ok (.ifCond .eq 16, 3) := by decide +kernel
theorem dX7_openThenGoOn_63 : decode cX7_openThenGoOn 63 = .ok (.aload 5, 2) := by decide +kernel
theorem dX7_openThenGoOn_65 : decode cX7_openThenGoOn 65 = .ok (.aload 6, 2) := by decide +kernel
theorem dX7_openThenGoOn_67 : decode cX7_openThenGoOn 67 = .ok (.getfield 73, 3) := by decide +kernel
theorem dX7_openThenGoOn_70 : decode cX7_openThenGoOn 70 = .ok (.invokevirtual 119, 3) := by decide +kernel
theorem dX7_openThenGoOn_73 : decode cX7_openThenGoOn 73 = .ok (.goto 4, 3) := by decide +kernel
theorem dX7_openThenGoOn_76 : decode cX7_openThenGoOn 76 = .ok (.iconst 0, 1) := by decide +kernel
theorem dX7_openThenGoOn_77 : decode cX7_openThenGoOn 77 = .ok (.istore 7, 2) := by decide +kernel
theorem dX7_openThenGoOn_79 : decode cX7_openThenGoOn 79 = .ok (.aload_n 0, 1) := by decide +kernel
theorem dX7_openThenGoOn_80 : decode cX7_openThenGoOn 80 = .ok (.iload_n 2, 1) := by decide +kernel
theorem dX7_openThenGoOn_81 : decode cX7_openThenGoOn 81 = .ok (.iconst 1, 1) := by decide +kernel
theorem dX7_openThenGoOn_82 : decode cX7_openThenGoOn 82 = .ok (.iadd, 1) := by decide +kernel
theorem dX7_openThenGoOn_83 : decode cX7_openThenGoOn 83 = .ok (.iload_n 3, 1) := by decide +kernel
theorem dX7_openThenGoOn_84 : decode cX7_openThenGoOn 84 = .ok (.iconst 1, 1) := by decide +kernel
theorem dX7_openThenGoOn_85 : decode cX7_openThenGoOn 85 = .ok (.iload_n 1, 1) := by decide +kernel
theorem dX7_openThenGoOn_86 : decode cX7_openThenGoOn 86 = .ok (.ishl, 1) := by decide +kernel
theorem dX7_openThenGoOn_87 : decode cX7_openThenGoOn 87 = .ok (.iconst (-1), 1) := by decide +kernel
theorem dX7_openThenGoOn_88 : decode cX7_openThenGoOn 88 = .ok (.ixor, 1) := by decide +kernel
theorem dX7_openThenGoOn_89 : decode cX7_openThenGoOn 89 = .ok (.iand, 1) := by decide +kernel
theorem dX7_openThenGoOn_90 : decode cX7_openThenGoOn 90 = .ok (.iload 4, 2) := by decide +kernel
theorem dX7_openThenGoOn_92 : decode cX7_openThenGoOn 92 = .ok (.iload 7, 2) := by decide +kernel
theorem dX7_openThenGoOn_94 : decode cX7_openThenGoOn 94 = .ok (.iadd, 1) := by decide +kernel
theorem dX7_openThenGoOn_95 : decode cX7_openThenGoOn 95 = .ok (.invokevirtual 83, 3) := by decide +kernel
theorem dX7_openThenGoOn_98 : decode cX7_openThenGoOn 98 = .ok (.return_, 1) := by decide +kernel
theorem dX7_isBetter_0 : decode cX7_isBetter 0 = .ok (.iload_n 1, 1) := by decide +kernel
theorem dX7_isBetter_1 : decode cX7_isBetter 1 = .ok (.aload_n 0, 1) := by decide +kernel
theorem dX7_isBetter_2 : decode cX7_isBetter 2 = .ok (.getfield 70, 3) := by decide +kernel
theorem dX7_isBetter_5 : decode cX7_isBetter 5 = .ok (.if_icmp .lt 19, 3) := by decide +kernel
theorem dX7_isBetter_8 : decode cX7_isBetter 8 = .ok (.iload_n 1, 1) := by decide +kernel
theorem dX7_isBetter_9 : decode cX7_isBetter 9 = .ok (.aload_n 0, 1) := by decide +kernel
theorem dX7_isBetter_10 : decode cX7_isBetter 10 = .ok (.getfield 70, 3) := by decide +kernel
theorem dX7_isBetter_13 : decode cX7_isBetter 13 = .ok (.if_icmp .ne 15, 3) := by decide +kernel
theorem dX7_isBetter_16 : decode cX7_isBetter 16 = .ok (.iload_n 2, 1) := by decide +kernel
theorem dX7_isBetter_17 : decode cX7_isBetter 17 = .ok (.aload_n 0, 1) := by decide +kernel
theorem dX7_isBetter_18 : decode cX7_isBetter 18 = .ok (.getfield 54, 3) := by decide +kernel
theorem dX7_isBetter_21 : decode cX7_isBetter 21 = .ok (.if_icmp .ge 7, 3) := by decide +kernel
theorem dX7_isBetter_24 : decode cX7_isBetter 24 = .ok (.iconst 1, 1) := by decide +kernel
theorem dX7_isBetter_25 : decode cX7_isBetter 25 = .ok (.goto 4, 3) := by decide +kernel
theorem dX7_isBetter_28 : decode cX7_isBetter 28 = .ok (.iconst 0, 1) := by decide +kernel
theorem dX7_isBetter_29 : decode cX7_isBetter 29 = .ok (.ireturn, 1) := by decide +kernel
theorem dX7_keepRound_0 : decode cX7_keepRound 0 = .ok (.aload_n 0, 1) := by decide +kernel
theorem dX7_keepRound_1 : decode cX7_keepRound 1 = .ok (.iload_n 2, 1) := by decide +kernel
theorem dX7_keepRound_2 : decode cX7_keepRound 2 = .ok (.putfield 70, 3) := by decide +kernel
theorem dX7_keepRound_5 : decode cX7_keepRound 5 = .ok (.aload_n 0, 1) := by decide +kernel
theorem dX7_keepRound_6 : decode cX7_keepRound 6 = .ok (.aload_n 0, 1) := by decide +kernel
theorem dX7_keepRound_7 : decode cX7_keepRound 7 = .ok (.getfield 11, 3) := by decide +kernel
theorem dX7_keepRound_10 : decode cX7_keepRound 10 = .ok (.iload_n 1, 1) := by decide +kernel
theorem dX7_keepRound_11 : decode cX7_keepRound 11 = .ok (.aaload, 1) := by decide +kernel
theorem dX7_keepRound_12 : decode cX7_keepRound 12 = .ok (.getfield 73, 3) := by decide +kernel
theorem dX7_keepRound_15 : decode cX7_keepRound 15 = .ok (.putfield 54, 3) := by decide +kernel
theorem dX7_keepRound_18 : decode cX7_keepRound 18 = .ok (.aload_n 0, 1) := by decide +kernel
theorem dX7_keepRound_19 : decode cX7_keepRound 19 = .ok (.iload_n 1, 1) := by decide +kernel
theorem dX7_keepRound_20 : decode cX7_keepRound 20 = .ok (.putfield 67, 3) := by decide +kernel
theorem dX7_keepRound_23 : decode cX7_keepRound 23 = .ok (.iconst 0, 1) := by decide +kernel
theorem dX7_keepRound_24 : decode cX7_keepRound 24 = .ok (.istore_n 3, 1) := by decide +kernel
theorem dX7_keepRound_25 : decode cX7_keepRound 25 = .ok (.iload_n 3, 1) := by decide +kernel
theorem dX7_keepRound_26 : decode cX7_keepRound 26 = .ok (.iload_n 1, 1) := by decide +kernel
theorem dX7_keepRound_27 : decode cX7_keepRound 27 = .ok (.if_icmp .ge 27, 3) := by decide +kernel
theorem dX7_keepRound_30 : decode cX7_keepRound 30 = .ok (.iload_n 3, 1) := by decide +kernel
theorem dX7_keepRound_31 : decode cX7_keepRound 31 = .ok (.bipush 6, 2) := by decide +kernel
theorem dX7_keepRound_33 : decode cX7_keepRound 33 = .ok (.if_icmp .ge 21, 3) := by decide +kernel
theorem dX7_keepRound_36 : decode cX7_keepRound 36 = .ok (.aload_n 0, 1) := by decide +kernel
theorem dX7_keepRound_37 : decode cX7_keepRound 37 = .ok (.getfield 21, 3) := by decide +kernel
theorem dX7_keepRound_40 : decode cX7_keepRound 40 = .ok (.iload_n 3, 1) := by decide +kernel
theorem dX7_keepRound_41 : decode cX7_keepRound 41 = .ok (.aload_n 0, 1) := by decide +kernel
theorem dX7_keepRound_42 : decode cX7_keepRound 42 = .ok (.getfield 17, 3) := by decide +kernel
theorem dX7_keepRound_45 : decode cX7_keepRound 45 = .ok (.iload_n 3, 1) := by decide +kernel
theorem dX7_keepRound_46 : decode cX7_keepRound 46 = .ok (.iaload, 1) := by decide +kernel
theorem dX7_keepRound_47 : decode cX7_keepRound 47 = .ok (.iastore, 1) := by decide +kernel
theorem dX7_keepRound_48 : decode cX7_keepRound 48 = .ok (.iinc 3 1, 3) := by decide +kernel
theorem dX7_keepRound_51 : decode cX7_keepRound 51 = .ok (.goto (-26), 3) := by decide +kernel
theorem dX7_keepRound_54 : decode cX7_keepRound 54 = .ok (.return_, 1) := by decide +kernel
set_option maxRecDepth 20000 in
theorem ggX8_init_X0_init : GoodIn wsX8_init wsX0_init := goodIn_r _ [11, 12, 2, 3, 13, 14, 15, 20, 21, 22, 23, 24, 25, 26, 27, 28, 29, 30, 31, 32, 33, 34] (by decide +kernel) (by decide +kernel)
set_option maxRecDepth 20000 in
theorem gX8_init_X0_init : GoodIn wsX8_init (wsX0_init) := ggX8_init_X0_init
theorem dX8_init_0 : decode cX8_init 0 = .ok (.aload_n 0, 1) := by decide +kernel
theorem dX8_init_1 : decode cX8_init 1 = .ok (.invokespecial 3, 3) := by decide +kernel
theorem dX8_init_4 : decode cX8_init 4 = .ok (.aload_n 0, 1) := by decide +kernel
theorem dX8_init_5 : decode cX8_init 5 = .ok (.bipush 6, 2) := by decide +kernel
theorem dX8_init_7 : decode cX8_init 7 = .ok (.anewarray 9, 3) := by decide +kernel
theorem dX8_init_10 : decode cX8_init 10 = .ok (.putfield 11, 3) := by decide +kernel
theorem dX8_init_13 : decode cX8_init 13 = .ok (.aload_n 0, 1) := by decide +kernel
theorem dX8_init_14 : decode cX8_init 14 = .ok (.new 9, 3) := by decide +kernel
theorem dX8_init_17 : decode cX8_init 17 = .ok (.dup, 1) := by decide +kernel
theorem dX8_init_18 : decode cX8_init 18 = .ok (.iconst 0, 1) := by decide +kernel
theorem dX8_init_19 : decode cX8_init 19 = .ok (.iconst 1, 1) := by decide +kernel
theorem dX8_init_20 : decode cX8_init 20 = .ok (.iconst 1, 1) := by decide +kernel
theorem dX8_init_21 : decode cX8_init 21 = .ok (.invokespecial 17, 3) := by decide +kernel
theorem dX8_init_24 : decode cX8_init 24 = .ok (.putfield 20, 3) := by decide +kernel
theorem dX8_init_27 : decode cX8_init 27 = .ok (.return_, 1) := by decide +kernel
set_option maxRecDepth 20000 in
theorem ggX8_readFrom_X6_housesTold : GoodIn wsX8_readFrom wsX6_housesTold := goodIn_r _ [13, 14, 72, 73] (by decide +kernel) (by decide +kernel)
set_option maxRecDepth 20000 in
theorem gX8_readFrom_X6_housesTold : GoodIn wsX8_readFrom (wsV RX8 24 RX6 yX6_housesTold wsX6_housesTold) := goodIn_app (goodIn_of _ (by decide +kernel)) ggX8_readFrom_X6_housesTold
set_option maxRecDepth 20000 in
theorem ggX8_readFrom_X6_houseTold : GoodIn wsX8_readFrom wsX6_houseTold := goodIn_r _ [18, 19, 20, 21, 22, 23, 24, 25, 26, 27, 28, 29, 30, 31, 32, 33, 34, 35, 36, 12, 37, 38, 39, 40, 41, 14, 42, 43, 44, 45, 46, 47, 48, 49, 50, 51, 52, 53, 54, 55, 56, 57, 58, 59, 60, 61, 62, 63, 64, 65, 66, 67, 74, 75, 76, 77, 78, 79, 80, 81, 82, 83, 84, 85, 86, 87, 88, 72, 73] (by decide +kernel) (by decide +kernel)
set_option maxRecDepth 20000 in
theorem gX8_readFrom_X6_houseTold : GoodIn wsX8_readFrom (wsV RX8 43 RX6 yX6_houseTold wsX6_houseTold) := goodIn_app (goodIn_of _ (by decide +kernel)) ggX8_readFrom_X6_houseTold
theorem dX8_readFrom_0 : decode cX8_readFrom 0 = .ok (.aload_n 0, 1) := by decide +kernel
theorem dX8_readFrom_1 : decode cX8_readFrom 1 = .ok (.aload_n 1, 1) := by decide +kernel
theorem dX8_readFrom_2 : decode cX8_readFrom 2 = .ok (.invokevirtual 24, 3) := by decide +kernel
theorem dX8_readFrom_5 : decode cX8_readFrom 5 = .ok (.bipush 6, 2) := by decide +kernel
theorem dX8_readFrom_7 : decode cX8_readFrom 7 = .ok (.invokestatic 30, 3) := by decide +kernel
theorem dX8_readFrom_10 : decode cX8_readFrom 10 = .ok (.putfield 36, 3) := by decide +kernel
theorem dX8_readFrom_13 : decode cX8_readFrom 13 = .ok (.aload_n 0, 1) := by decide +kernel
theorem dX8_readFrom_14 : decode cX8_readFrom 14 = .ok (.iconst 0, 1) := by decide +kernel
theorem dX8_readFrom_15 : decode cX8_readFrom 15 = .ok (.putfield 40, 3) := by decide +kernel
theorem dX8_readFrom_18 : decode cX8_readFrom 18 = .ok (.iconst 0, 1) := by decide +kernel
theorem dX8_readFrom_19 : decode cX8_readFrom 19 = .ok (.istore_n 2, 1) := by decide +kernel
theorem dX8_readFrom_20 : decode cX8_readFrom 20 = .ok (.iload_n 2, 1) := by decide +kernel
theorem dX8_readFrom_21 : decode cX8_readFrom 21 = .ok (.bipush 6, 2) := by decide +kernel
theorem dX8_readFrom_23 : decode cX8_readFrom 23 = .ok (.if_icmp .ge 53, 3) := by decide +kernel
theorem dX8_readFrom_26 : decode cX8_readFrom 26 = .ok (.iload_n 2, 1) := by decide +kernel
theorem dX8_readFrom_27 : decode cX8_readFrom 27 = .ok (.aload_n 0, 1) := by decide +kernel
theorem dX8_readFrom_28 : decode cX8_readFrom 28 = .ok (.getfield 36, 3) := by decide +kernel
theorem dX8_readFrom_31 : decode cX8_readFrom 31 = .ok (.if_icmp .ge 11, 3) := by decide +kernel
theorem dX8_readFrom_34 : decode cX8_readFrom 34 = .ok (.aload_n 1, 1) := by decide +kernel
theorem dX8_readFrom_35 : decode cX8_readFrom 35 = .ok (.iload_n 2, 1) := by decide +kernel
theorem dX8_readFrom_36 : decode cX8_readFrom 36 = .ok (.invokevirtual 43, 3) := by decide +kernel
theorem dX8_readFrom_39 : decode cX8_readFrom 39 = .ok (.goto 4, 3) := by decide +kernel
theorem dX8_readFrom_42 : decode cX8_readFrom 42 = .ok (.aconst_null, 1) := by decide +kernel
theorem dX8_readFrom_43 : decode cX8_readFrom 43 = .ok (.astore_n 3, 1) := by decide +kernel
theorem dX8_readFrom_44 : decode cX8_readFrom 44 = .ok (.aload_n 0, 1) := by decide +kernel
theorem dX8_readFrom_45 : decode cX8_readFrom 45 = .ok (.getfield 11, 3) := by decide +kernel
theorem dX8_readFrom_48 : decode cX8_readFrom 48 = .ok (.iload_n 2, 1) := by decide +kernel
theorem dX8_readFrom_49 : decode cX8_readFrom 49 = .ok (.aload_n 3, 1) := by decide +kernel
theorem dX8_readFrom_50 : decode cX8_readFrom 50 = .ok (.aastore, 1) := by decide +kernel
theorem dX8_readFrom_51 : decode cX8_readFrom 51 = .ok (.aload_n 3, 1) := by decide +kernel
theorem dX8_readFrom_52 : decode cX8_readFrom 52 = .ok (.instanceof 47, 3) := by decide +kernel
theorem dX8_readFrom_55 : decode cX8_readFrom 55 = .ok (.ifCond .eq 15, 3) := by decide +kernel
theorem dX8_readFrom_58 : decode cX8_readFrom 58 = .ok (.aload_n 0, 1) := by decide +kernel
theorem dX8_readFrom_59 : decode cX8_readFrom 59 = .ok (.dup, 1) := by decide +kernel
theorem dX8_readFrom_60 : decode cX8_readFrom 60 = .ok (.getfield 40, 3) := by decide +kernel
theorem dX8_readFrom_63 : decode cX8_readFrom 63 = .ok (.iconst 1, 1) := by decide +kernel
theorem dX8_readFrom_64 : decode cX8_readFrom 64 = .ok (.iload_n 2, 1) := by decide +kernel
theorem dX8_readFrom_65 : decode cX8_readFrom 65 = .ok (.ishl, 1) := by decide +kernel
theorem dX8_readFrom_66 : decode cX8_readFrom 66 = .ok (.ior, 1) := by decide +kernel
theorem dX8_readFrom_67 : decode cX8_readFrom 67 = .ok (.putfield 40, 3) := by decide +kernel
theorem dX8_readFrom_70 : decode cX8_readFrom 70 = .ok (.iinc 2 1, 3) := by decide +kernel
theorem dX8_readFrom_73 : decode cX8_readFrom 73 = .ok (.goto (-53), 3) := by decide +kernel
theorem dX8_readFrom_76 : decode cX8_readFrom 76 = .ok (.return_, 1) := by decide +kernel
theorem dX8_has_0 : decode cX8_has 0 = .ok (.iload_n 1, 1) := by decide +kernel
theorem dX8_has_1 : decode cX8_has 1 = .ok (.ifCond .lt 15, 3) := by decide +kernel
theorem dX8_has_4 : decode cX8_has 4 = .ok (.iload_n 1, 1) := by decide +kernel
theorem dX8_has_5 : decode cX8_has 5 = .ok (.aload_n 0, 1) := by decide +kernel
theorem dX8_has_6 : decode cX8_has 6 = .ok (.getfield 36, 3) := by decide +kernel
theorem dX8_has_9 : decode cX8_has 9 = .ok (.if_icmp .ge 7, 3) := by decide +kernel
theorem dX8_has_12 : decode cX8_has 12 = .ok (.iconst 1, 1) := by decide +kernel
theorem dX8_has_13 : decode cX8_has 13 = .ok (.goto 4, 3) := by decide +kernel
theorem dX8_has_16 : decode cX8_has 16 = .ok (.iconst 0, 1) := by decide +kernel
theorem dX8_has_17 : decode cX8_has 17 = .ok (.ireturn, 1) := by decide +kernel
theorem dX8_at_0 : decode cX8_at 0 = .ok (.iload_n 1, 1) := by decide +kernel
theorem dX8_at_1 : decode cX8_at 1 = .ok (.ifCond .lt 9, 3) := by decide +kernel
theorem dX8_at_4 : decode cX8_at 4 = .ok (.iload_n 1, 1) := by decide +kernel
theorem dX8_at_5 : decode cX8_at 5 = .ok (.bipush 6, 2) := by decide +kernel
theorem dX8_at_7 : decode cX8_at 7 = .ok (.if_icmp .lt 7, 3) := by decide +kernel
theorem dX8_at_10 : decode cX8_at 10 = .ok (.aconst_null, 1) := by decide +kernel
theorem dX8_at_11 : decode cX8_at 11 = .ok (.goto 9, 3) := by decide +kernel
theorem dX8_at_14 : decode cX8_at 14 = .ok (.aload_n 0, 1) := by decide +kernel
theorem dX8_at_15 : decode cX8_at 15 = .ok (.getfield 11, 3) := by decide +kernel
theorem dX8_at_18 : decode cX8_at 18 = .ok (.iload_n 1, 1) := by decide +kernel
theorem dX8_at_19 : decode cX8_at 19 = .ok (.aaload, 1) := by decide +kernel
theorem dX8_at_20 : decode cX8_at 20 = .ok (.astore_n 2, 1) := by decide +kernel
theorem dX8_at_21 : decode cX8_at 21 = .ok (.aload_n 2, 1) := by decide +kernel
theorem dX8_at_22 : decode cX8_at 22 = .ok (.ifnonnull 10, 3) := by decide +kernel
theorem dX8_at_25 : decode cX8_at 25 = .ok (.aload_n 0, 1) := by decide +kernel
theorem dX8_at_26 : decode cX8_at 26 = .ok (.getfield 20, 3) := by decide +kernel
theorem dX8_at_29 : decode cX8_at 29 = .ok (.goto 4, 3) := by decide +kernel
theorem dX8_at_32 : decode cX8_at 32 = .ok (.aload_n 2, 1) := by decide +kernel
theorem dX8_at_33 : decode cX8_at 33 = .ok (.areturn, 1) := by decide +kernel
theorem dX8_mayBeOpened_0 : decode cX8_mayBeOpened 0 = .ok (.iload_n 1, 1) := by decide +kernel
theorem dX8_mayBeOpened_1 : decode cX8_mayBeOpened 1 = .ok (.aload_n 0, 1) := by decide +kernel
theorem dX8_mayBeOpened_2 : decode cX8_mayBeOpened 2 = .ok (.getfield 40, 3) := by decide +kernel
theorem dX8_mayBeOpened_5 : decode cX8_mayBeOpened 5 = .ok (.iand, 1) := by decide +kernel
theorem dX8_mayBeOpened_6 : decode cX8_mayBeOpened 6 = .ok (.istore_n 2, 1) := by decide +kernel
theorem dX8_mayBeOpened_7 : decode cX8_mayBeOpened 7 = .ok (.iload_n 2, 1) := by decide +kernel
theorem dX8_mayBeOpened_8 : decode cX8_mayBeOpened 8 = .ok (.ifCond .eq 7, 3) := by decide +kernel
theorem dX8_mayBeOpened_11 : decode cX8_mayBeOpened 11 = .ok (.iload_n 2, 1) := by decide +kernel
theorem dX8_mayBeOpened_12 : decode cX8_mayBeOpened 12 = .ok (.goto 4, 3) := by decide +kernel
theorem dX8_mayBeOpened_15 : decode cX8_mayBeOpened 15 = .ok (.iload_n 1, 1) := by decide +kernel
theorem dX8_mayBeOpened_16 : decode cX8_mayBeOpened 16 = .ok (.ireturn, 1) := by decide +kernel
set_option maxRecDepth 20000 in
theorem ggX9_init_X0_init : GoodIn wsX9_init wsX0_init := goodIn_r _ [4, 5, 6, 7, 8, 9, 10, 11, 12, 13, 14, 15, 16, 17, 18, 19, 20, 21, 22, 23, 24, 25] (by decide +kernel) (by decide +kernel)
set_option maxRecDepth 20000 in
theorem gX9_init_X0_init : GoodIn wsX9_init (wsX0_init) := ggX9_init_X0_init
theorem dX9_init_0 : decode cX9_init 0 = .ok (.aload_n 0, 1) := by decide +kernel
theorem dX9_init_1 : decode cX9_init 1 = .ok (.iload_n 1, 1) := by decide +kernel
theorem dX9_init_2 : decode cX9_init 2 = .ok (.iload_n 2, 1) := by decide +kernel
theorem dX9_init_3 : decode cX9_init 3 = .ok (.iload_n 3, 1) := by decide +kernel
theorem dX9_init_4 : decode cX9_init 4 = .ok (.invokespecial 1, 3) := by decide +kernel
theorem dX9_init_7 : decode cX9_init 7 = .ok (.return_, 1) := by decide +kernel
theorem dX9_kind_0 : decode cX9_kind 0 = .ok (.iconst 3, 1) := by decide +kernel
theorem dX9_kind_1 : decode cX9_kind 1 = .ok (.ireturn, 1) := by decide +kernel
theorem dX9_openingTakes_0 : decode cX9_openingTakes 0 = .ok (.iconst 0, 1) := by decide +kernel
theorem dX9_openingTakes_1 : decode cX9_openingTakes 1 = .ok (.ireturn, 1) := by decide +kernel
set_option maxRecDepth 20000 in
theorem ggX10_init_X6_init : GoodIn wsX10_init wsX6_init := goodIn_r _ [23, 24, 2, 3, 25, 26, 71, 72] (by decide +kernel) (by decide +kernel)
set_option maxRecDepth 20000 in
theorem gX10_init_X6_init_n11 : GoodIn wsX10_init (wsX6_init) := ggX10_init_X6_init
set_option maxRecDepth 20000 in
theorem ggX10_init_X8_init : GoodIn wsX10_init wsX8_init := goodIn_r _ [28, 29, 2, 3, 30, 31, 32, 33, 34, 35, 36, 37, 38, 39, 40, 41, 84, 85, 86, 87, 107, 108, 109, 110, 111, 112, 113, 114, 115, 116, 117, 118, 119, 120, 121] (by decide +kernel) (by decide +kernel)
set_option maxRecDepth 20000 in
theorem gX10_init_X8_init_n20 : GoodIn wsX10_init (wsX8_init) := ggX10_init_X8_init
set_option maxRecDepth 20000 in
theorem ggX10_init_X5_init : GoodIn wsX10_init wsX5_init := goodIn_r _ [44, 45, 2, 3, 46, 47, 48, 49, 25, 50, 51, 52, 53, 54, 55, 56, 57, 58, 59, 60, 61, 122, 123, 124, 88, 89, 90, 91, 92, 93, 94, 95, 96, 97] (by decide +kernel) (by decide +kernel)
set_option maxRecDepth 20000 in
theorem gX10_init_X5_init : GoodIn wsX10_init (wsX5_init) := ggX10_init_X5_init
set_option maxRecDepth 20000 in
theorem ggX10_init_X7_init : GoodIn wsX10_init wsX7_init := goodIn_r _ [64, 65, 2, 3, 66, 67, 25, 68, 69, 70, 47, 48, 59, 60, 61, 98, 99, 100, 101, 102, 103, 104, 105, 106, 122, 123, 124] (by decide +kernel) (by decide +kernel)
set_option maxRecDepth 20000 in
theorem gX10_init_X7_init : GoodIn wsX10_init (wsX7_init) := ggX10_init_X7_init
theorem dX10_init_0 : decode cX10_init 0 = .ok (.aload_n 0, 1) := by decide +kernel
theorem dX10_init_1 : decode cX10_init 1 = .ok (.invokespecial 3, 3) := by decide +kernel
theorem dX10_init_4 : decode cX10_init 4 = .ok (.aload_n 0, 1) := by decide +kernel
theorem dX10_init_5 : decode cX10_init 5 = .ok (.new 9, 3) := by decide +kernel
theorem dX10_init_8 : decode cX10_init 8 = .ok (.dup, 1) := by decide +kernel
theorem dX10_init_9 : decode cX10_init 9 = .ok (.invokespecial 11, 3) := by decide +kernel
theorem dX10_init_12 : decode cX10_init 12 = .ok (.putfield 12, 3) := by decide +kernel
theorem dX10_init_15 : decode cX10_init 15 = .ok (.aload_n 0, 1) := by decide +kernel
theorem dX10_init_16 : decode cX10_init 16 = .ok (.new 18, 3) := by decide +kernel
theorem dX10_init_19 : decode cX10_init 19 = .ok (.dup, 1) := by decide +kernel
theorem dX10_init_20 : decode cX10_init 20 = .ok (.invokespecial 20, 3) := by decide +kernel
theorem dX10_init_23 : decode cX10_init 23 = .ok (.putfield 21, 3) := by decide +kernel
theorem dX10_init_26 : decode cX10_init 26 = .ok (.aload_n 0, 1) := by decide +kernel
theorem dX10_init_27 : decode cX10_init 27 = .ok (.new 25, 3) := by decide +kernel
theorem dX10_init_30 : decode cX10_init 30 = .ok (.dup, 1) := by decide +kernel
theorem dX10_init_31 : decode cX10_init 31 = .ok (.aload_n 0, 1) := by decide +kernel
theorem dX10_init_32 : decode cX10_init 32 = .ok (.getfield 21, 3) := by decide +kernel
theorem dX10_init_35 : decode cX10_init 35 = .ok (.invokespecial 27, 3) := by decide +kernel
theorem dX10_init_38 : decode cX10_init 38 = .ok (.putfield 30, 3) := by decide +kernel
theorem dX10_init_41 : decode cX10_init 41 = .ok (.aload_n 0, 1) := by decide +kernel
theorem dX10_init_42 : decode cX10_init 42 = .ok (.new 25, 3) := by decide +kernel
theorem dX10_init_45 : decode cX10_init 45 = .ok (.dup, 1) := by decide +kernel
theorem dX10_init_46 : decode cX10_init 46 = .ok (.aload_n 0, 1) := by decide +kernel
theorem dX10_init_47 : decode cX10_init 47 = .ok (.getfield 21, 3) := by decide +kernel
theorem dX10_init_50 : decode cX10_init 50 = .ok (.invokespecial 27, 3) := by decide +kernel
theorem dX10_init_53 : decode cX10_init 53 = .ok (.putfield 34, 3) := by decide +kernel
theorem dX10_init_56 : decode cX10_init 56 = .ok (.aload_n 0, 1) := by decide +kernel
theorem dX10_init_57 : decode cX10_init 57 = .ok (.new 25, 3) := by decide +kernel
theorem dX10_init_60 : decode cX10_init 60 = .ok (.dup, 1) := by decide +kernel
theorem dX10_init_61 : decode cX10_init 61 = .ok (.aload_n 0, 1) := by decide +kernel
theorem dX10_init_62 : decode cX10_init 62 = .ok (.getfield 21, 3) := by decide +kernel
theorem dX10_init_65 : decode cX10_init 65 = .ok (.invokespecial 27, 3) := by decide +kernel
theorem dX10_init_68 : decode cX10_init 68 = .ok (.putfield 37, 3) := by decide +kernel
theorem dX10_init_71 : decode cX10_init 71 = .ok (.aload_n 0, 1) := by decide +kernel
theorem dX10_init_72 : decode cX10_init 72 = .ok (.new 40, 3) := by decide +kernel
theorem dX10_init_75 : decode cX10_init 75 = .ok (.dup, 1) := by decide +kernel
theorem dX10_init_76 : decode cX10_init 76 = .ok (.aload_n 0, 1) := by decide +kernel
theorem dX10_init_77 : decode cX10_init 77 = .ok (.getfield 21, 3) := by decide +kernel
theorem dX10_init_80 : decode cX10_init 80 = .ok (.invokespecial 42, 3) := by decide +kernel
theorem dX10_init_83 : decode cX10_init 83 = .ok (.putfield 43, 3) := by decide +kernel
theorem dX10_init_86 : decode cX10_init 86 = .ok (.return_, 1) := by decide +kernel
set_option maxRecDepth 20000 in
theorem ggX10_letter_X6_write : GoodIn wsX10_letter wsX6_write := goodIn_r _ [7, 8, 9, 21, 22] (by decide +kernel) (by decide +kernel)
set_option maxRecDepth 20000 in
theorem gX10_letter_X6_write : GoodIn wsX10_letter (wsV RX10 47 RX6 yX6_write wsX6_write) := goodIn_app (goodIn_of _ (by decide +kernel)) ggX10_letter_X6_write
theorem dX10_letter_0 : decode cX10_letter 0 = .ok (.iload_n 1, 1) := by decide +kernel
theorem dX10_letter_1 : decode cX10_letter 1 = .ok (.iconst 1, 1) := by decide +kernel
theorem dX10_letter_2 : decode cX10_letter 2 = .ok (.if_icmp .lt 9, 3) := by decide +kernel
theorem dX10_letter_5 : decode cX10_letter 5 = .ok (.iload_n 1, 1) := by decide +kernel
theorem dX10_letter_6 : decode cX10_letter 6 = .ok (.bipush 126, 2) := by decide +kernel
theorem dX10_letter_8 : decode cX10_letter 8 = .ok (.if_icmp .le 6, 3) := by decide +kernel
theorem dX10_letter_11 : decode cX10_letter 11 = .ok (.bipush (-102), 2) := by decide +kernel
theorem dX10_letter_13 : decode cX10_letter 13 = .ok (.ireturn, 1) := by decide +kernel
theorem dX10_letter_14 : decode cX10_letter 14 = .ok (.aload_n 0, 1) := by decide +kernel
theorem dX10_letter_15 : decode cX10_letter 15 = .ok (.getfield 12, 3) := by decide +kernel
theorem dX10_letter_18 : decode cX10_letter 18 = .ok (.iload_n 1, 1) := by decide +kernel
theorem dX10_letter_19 : decode cX10_letter 19 = .ok (.invokevirtual 47, 3) := by decide +kernel
theorem dX10_letter_22 : decode cX10_letter 22 = .ok (.ifCond .eq 13, 3) := by decide +kernel
theorem dX10_letter_25 : decode cX10_letter 25 = .ok (.aload_n 0, 1) := by decide +kernel
theorem dX10_letter_26 : decode cX10_letter 26 = .ok (.getfield 12, 3) := by decide +kernel
theorem dX10_letter_29 : decode cX10_letter 29 = .ok (.getfield 51, 3) := by decide +kernel
theorem dX10_letter_32 : decode cX10_letter 32 = .ok (.goto 5, 3) := by decide +kernel
theorem dX10_letter_35 : decode cX10_letter 35 = .ok (.bipush (-104), 2) := by decide +kernel
theorem dX10_letter_37 : decode cX10_letter 37 = .ok (.ireturn, 1) := by decide +kernel
theorem dX10_blank_0 : decode cX10_blank 0 = .ok (.aload_n 0, 1) := by decide +kernel
theorem dX10_blank_1 : decode cX10_blank 1 = .ok (.getfield 12, 3) := by decide +kernel
theorem dX10_blank_4 : decode cX10_blank 4 = .ok (.getfield 51, 3) := by decide +kernel
theorem dX10_blank_7 : decode cX10_blank 7 = .ok (.istore_n 1, 1) := by decide +kernel
theorem dX10_blank_8 : decode cX10_blank 8 = .ok (.aload_n 0, 1) := by decide +kernel
theorem dX10_blank_9 : decode cX10_blank 9 = .ok (.getfield 12, 3) := by decide +kernel
theorem dX10_blank_12 : decode cX10_blank 12 = .ok (.iconst 0, 1) := by decide +kernel
theorem dX10_blank_13 : decode cX10_blank 13 = .ok (.putfield 51, 3) := by decide +kernel
theorem dX10_blank_16 : decode cX10_blank 16 = .ok (.iload_n 1, 1) := by decide +kernel
theorem dX10_blank_17 : decode cX10_blank 17 = .ok (.ireturn, 1) := by decide +kernel
set_option maxRecDepth 20000 in
theorem ggX10_fault_X6_firstFault : GoodIn wsX10_fault wsX6_firstFault := goodIn_r _ [6, 7, 8, 9, 10, 5, 11, 12, 13, 14, 15, 16, 17, 18, 19, 20, 21, 22, 23, 24, 25, 26, 27, 28, 29, 30, 31, 32, 33, 34, 35, 36, 37, 38, 39, 40, 41, 42, 43, 44, 45, 46, 47, 48, 49, 50, 51, 52, 53, 54, 55, 56, 57, 58, 59, 60, 61, 62, 63, 64, 65, 66, 67, 68, 69, 70, 71, 72, 73, 74, 75, 76, 77, 78, 79, 80, 81, 82, 83, 84, 85, 86, 87, 88, 89, 90, 91, 92, 93, 94, 95, 96, 97, 98, 99, 100, 112, 113] (by decide +kernel) (by decide +kernel)
set_option maxRecDepth 20000 in
theorem gX10_fault_X6_firstFault : GoodIn wsX10_fault (wsV RX10 55 RX6 yX6_firstFault wsX6_firstFault) := goodIn_app (goodIn_of _ (by decide +kernel)) ggX10_fault_X6_firstFault
theorem dX10_fault_0 : decode cX10_fault 0 = .ok (.aload_n 0, 1) := by decide +kernel
theorem dX10_fault_1 : decode cX10_fault 1 = .ok (.getfield 12, 3) := by decide +kernel
theorem dX10_fault_4 : decode cX10_fault 4 = .ok (.invokevirtual 55, 3) := by decide +kernel
theorem dX10_fault_7 : decode cX10_fault 7 = .ok (.ireturn, 1) := by decide +kernel
set_option maxRecDepth 20000 in
theorem ggX10_town_X6_tellsTown : GoodIn wsX10_town wsX6_tellsTown := goodIn_r _ [12, 13, 14, 15, 16, 11, 17, 18, 19, 20, 21, 22, 23, 24, 25, 26, 27, 28, 29, 30, 31, 32, 33, 34, 35, 36, 37, 38, 39, 40, 41, 42, 43, 44, 45, 46, 47, 48, 49, 50, 51, 52, 53, 54, 55, 56, 57, 58, 59, 60, 61, 62, 63, 64, 65, 66, 67, 68, 69, 70, 71, 72, 73, 74, 75, 76, 77, 78, 79, 80, 81, 82, 83, 84, 85, 86, 87, 88, 89, 90, 91, 92, 93, 94, 95, 96, 97, 98, 99, 100, 101, 102, 103, 104, 105, 106, 107, 108, 109, 110, 111, 112, 113, 114, 208, 209] (by decide +kernel) (by decide +kernel)
set_option maxRecDepth 20000 in
theorem gX10_town_X6_tellsTown : GoodIn wsX10_town (wsV RX10 59 RX6 yX6_tellsTown wsX6_tellsTown) := goodIn_app (goodIn_of _ (by decide +kernel)) ggX10_town_X6_tellsTown
set_option maxRecDepth 20000 in
theorem ggX10_town_X8_readFrom : GoodIn wsX10_town wsX8_readFrom := goodIn_r _ [119, 120, 59, 56, 60, 121, 122, 123, 124, 125, 15, 16, 11, 17, 13, 126, 127, 128, 129, 130, 131, 132, 133, 134, 135, 136, 137, 138, 139, 140, 141, 142, 143, 144, 145, 146, 147, 148, 149, 150, 151, 152, 22, 153, 154, 155, 156, 157, 158, 159, 160, 161, 162, 163, 164, 165, 166, 167, 168, 169, 170, 171, 172, 173, 174, 175, 176, 177, 210, 211, 212, 213, 208, 209, 214, 215, 216, 217, 218, 219, 220, 221, 222, 223, 224, 225, 226, 227, 228] (by decide +kernel) (by decide +kernel)
set_option maxRecDepth 20000 in
theorem gX10_town_X8_readFrom : GoodIn wsX10_town (wsV RX10 63 RX8 yX8_readFrom wsX8_readFrom) := goodIn_app (goodIn_of _ (by decide +kernel)) ggX10_town_X8_readFrom
set_option maxRecDepth 20000 in
theorem ggX10_town_X5_begin : GoodIn wsX10_town wsX5_begin := goodIn_r _ [182, 183, 184, 185, 186, 187, 188, 189, 190, 191, 192, 193, 194, 195, 196, 229, 230, 231, 232, 233, 234, 235, 236, 237, 238, 239, 240, 241] (by decide +kernel) (by decide +kernel)
set_option maxRecDepth 20000 in
theorem gX10_town_X5_begin : GoodIn wsX10_town (wsV RX10 67 RX5 yX5_begin wsX5_begin) := goodIn_app (goodIn_of _ (by decide +kernel)) ggX10_town_X5_begin
theorem dX10_town_0 : decode cX10_town 0 = .ok (.aload_n 0, 1) := by decide +kernel
theorem dX10_town_1 : decode cX10_town 1 = .ok (.getfield 12, 3) := by decide +kernel
theorem dX10_town_4 : decode cX10_town 4 = .ok (.invokevirtual 59, 3) := by decide +kernel
theorem dX10_town_7 : decode cX10_town 7 = .ok (.ifCond .ne 6, 3) := by decide +kernel
theorem dX10_town_10 : decode cX10_town 10 = .ok (.bipush (-103), 2) := by decide +kernel
theorem dX10_town_12 : decode cX10_town 12 = .ok (.ireturn, 1) := by decide +kernel
theorem dX10_town_13 : decode cX10_town 13 = .ok (.aload_n 0, 1) := by decide +kernel
theorem dX10_town_14 : decode cX10_town 14 = .ok (.getfield 21, 3) := by decide +kernel
theorem dX10_town_17 : decode cX10_town 17 = .ok (.aload_n 0, 1) := by decide +kernel
theorem dX10_town_18 : decode cX10_town 18 = .ok (.getfield 12, 3) := by decide +kernel
theorem dX10_town_21 : decode cX10_town 21 = .ok (.invokevirtual 63, 3) := by decide +kernel
theorem dX10_town_24 : decode cX10_town 24 = .ok (.aload_n 0, 1) := by decide +kernel
theorem dX10_town_25 : decode cX10_town 25 = .ok (.getfield 12, 3) := by decide +kernel
theorem dX10_town_28 : decode cX10_town 28 = .ok (.iconst 0, 1) := by decide +kernel
theorem dX10_town_29 : decode cX10_town 29 = .ok (.putfield 51, 3) := by decide +kernel
theorem dX10_town_32 : decode cX10_town 32 = .ok (.aload_n 0, 1) := by decide +kernel
theorem dX10_town_33 : decode cX10_town 33 = .ok (.getfield 30, 3) := by decide +kernel
theorem dX10_town_36 : decode cX10_town 36 = .ok (.invokevirtual 67, 3) := by decide +kernel
theorem dX10_town_39 : decode cX10_town 39 = .ok (.aload_n 0, 1) := by decide +kernel
theorem dX10_town_40 : decode cX10_town 40 = .ok (.iconst 0, 1) := by decide +kernel
theorem dX10_town_41 : decode cX10_town 41 = .ok (.putfield 70, 3) := by decide +kernel
theorem dX10_town_44 : decode cX10_town 44 = .ok (.aload_n 0, 1) := by decide +kernel
theorem dX10_town_45 : decode cX10_town 45 = .ok (.dup, 1) := by decide +kernel
theorem dX10_town_46 : decode cX10_town 46 = .ok (.getfield 74, 3) := by decide +kernel
theorem dX10_town_49 : decode cX10_town 49 = .ok (.iconst 1, 1) := by decide +kernel
theorem dX10_town_50 : decode cX10_town 50 = .ok (.iadd, 1) := by decide +kernel
theorem dX10_town_51 : decode cX10_town 51 = .ok (.putfield 74, 3) := by decide +kernel
theorem dX10_town_54 : decode cX10_town 54 = .ok (.aload_n 0, 1) := by decide +kernel
theorem dX10_town_55 : decode cX10_town 55 = .ok (.getfield 21, 3) := by decide +kernel
theorem dX10_town_58 : decode cX10_town 58 = .ok (.getfield 77, 3) := by decide +kernel
theorem dX10_town_61 : decode cX10_town 61 = .ok (.ireturn, 1) := by decide +kernel
set_option maxRecDepth 20000 in
theorem ggX10_about_X8_has : GoodIn wsX10_about wsX8_has := goodIn_r _ [6, 7, 62, 63, 64, 65] (by decide +kernel) (by decide +kernel)
set_option maxRecDepth 20000 in
theorem gX10_about_X8_has : GoodIn wsX10_about (wsV RX10 80 RX8 yX8_has wsX8_has) := goodIn_app (goodIn_of _ (by decide +kernel)) ggX10_about_X8_has
set_option maxRecDepth 20000 in
theorem ggX10_about_X10_toldOf : GoodIn wsX10_about wsX10_toldOf := goodIn_r _ [12, 1, 13, 14, 15, 16, 17, 18, 19, 20, 21, 22, 23, 5, 24, 25, 26, 27, 28, 29, 30, 31, 32, 33, 34, 35, 36, 37, 38, 39, 40, 41, 42, 43, 44, 45, 46, 47, 48, 49, 50, 51, 52, 53, 54, 55, 56, 57, 58, 59, 60, 61, 66, 67, 68, 69, 70, 71, 72, 73, 74, 75, 76, 77, 78, 79, 80, 81, 82, 83, 84, 85, 86, 87, 88, 89, 90, 62, 63, 64, 65] (by decide +kernel) (by decide +kernel)
set_option maxRecDepth 20000 in
theorem gX10_about_X10_toldOf : GoodIn wsX10_about (wsV RX10 83 RX10 yX10_toldOf wsX10_toldOf) := goodIn_app (goodIn_of _ (by decide +kernel)) ggX10_about_X10_toldOf
theorem dX10_about_0 : decode cX10_about 0 = .ok (.aload_n 0, 1) := by decide +kernel
theorem dX10_about_1 : decode cX10_about 1 = .ok (.getfield 21, 3) := by decide +kernel
theorem dX10_about_4 : decode cX10_about 4 = .ok (.iload_n 1, 1) := by decide +kernel
theorem dX10_about_5 : decode cX10_about 5 = .ok (.invokevirtual 80, 3) := by decide +kernel
theorem dX10_about_8 : decode cX10_about 8 = .ok (.ifCond .ne 6, 3) := by decide +kernel
theorem dX10_about_11 : decode cX10_about 11 = .ok (.bipush (-101), 2) := by decide +kernel
theorem dX10_about_13 : decode cX10_about 13 = .ok (.ireturn, 1) := by decide +kernel
theorem dX10_about_14 : decode cX10_about 14 = .ok (.iload_n 2, 1) := by decide +kernel
theorem dX10_about_15 : decode cX10_about 15 = .ok (.ifCond .lt 9, 3) := by decide +kernel
theorem dX10_about_18 : decode cX10_about 18 = .ok (.iload_n 2, 1) := by decide +kernel
theorem dX10_about_19 : decode cX10_about 19 = .ok (.bipush 7, 2) := by decide +kernel
theorem dX10_about_21 : decode cX10_about 21 = .ok (.if_icmp .le 6, 3) := by decide +kernel
theorem dX10_about_24 : decode cX10_about 24 = .ok (.bipush (-102), 2) := by decide +kernel
theorem dX10_about_26 : decode cX10_about 26 = .ok (.ireturn, 1) := by decide +kernel
theorem dX10_about_27 : decode cX10_about 27 = .ok (.aload_n 0, 1) := by decide +kernel
theorem dX10_about_28 : decode cX10_about 28 = .ok (.iload_n 1, 1) := by decide +kernel
theorem dX10_about_29 : decode cX10_about 29 = .ok (.iload_n 2, 1) := by decide +kernel
theorem dX10_about_30 : decode cX10_about 30 = .ok (.invokevirtual 83, 3) := by decide +kernel
theorem dX10_about_33 : decode cX10_about 33 = .ok (.ireturn, 1) := by decide +kernel
set_option maxRecDepth 20000 in
theorem ggX10_as_X8_has : GoodIn wsX10_as wsX8_has := goodIn_r _ [6, 7, 33, 34, 35, 36] (by decide +kernel) (by decide +kernel)
set_option maxRecDepth 20000 in
theorem gX10_as_X8_has : GoodIn wsX10_as (wsV RX10 80 RX8 yX8_has wsX8_has) := goodIn_app (goodIn_of _ (by decide +kernel)) ggX10_as_X8_has
set_option maxRecDepth 20000 in
theorem ggX10_as_X8_at : GoodIn wsX10_as wsX8_at := goodIn_r _ [11, 12, 13, 33, 34, 35, 36] (by decide +kernel) (by decide +kernel)
set_option maxRecDepth 20000 in
theorem gX10_as_X8_at : GoodIn wsX10_as (wsV RX10 87 RX8 yX8_at wsX8_at) := goodIn_app (goodIn_of _ (by decide +kernel)) ggX10_as_X8_at
set_option maxRecDepth 20000 in
theorem ggX10_as_X10_isSuch : GoodIn wsX10_as wsX10_isSuch := goodIn_r _ [17, 18, 19, 20, 21] (by decide +kernel) (by decide +kernel)
set_option maxRecDepth 20000 in
theorem gX10_as_X10_isSuch : GoodIn wsX10_as (va_wsS RX10 91 yX10_isSuch wsX10_isSuch) := goodIn_app (goodIn_of _ (by decide +kernel)) ggX10_as_X10_isSuch
theorem dX10_as_0 : decode cX10_as 0 = .ok (.aload_n 0, 1) := by decide +kernel
theorem dX10_as_1 : decode cX10_as 1 = .ok (.getfield 21, 3) := by decide +kernel
theorem dX10_as_4 : decode cX10_as 4 = .ok (.iload_n 1, 1) := by decide +kernel
theorem dX10_as_5 : decode cX10_as 5 = .ok (.invokevirtual 80, 3) := by decide +kernel
theorem dX10_as_8 : decode cX10_as 8 = .ok (.ifCond .ne 6, 3) := by decide +kernel
theorem dX10_as_11 : decode cX10_as 11 = .ok (.bipush (-101), 2) := by decide +kernel
theorem dX10_as_13 : decode cX10_as 13 = .ok (.ireturn, 1) := by decide +kernel
theorem dX10_as_14 : decode cX10_as 14 = .ok (.iload_n 2, 1) := by decide +kernel
theorem dX10_as_15 : decode cX10_as 15 = .ok (.ifCond .lt 8, 3) := by decide +kernel
theorem dX10_as_18 : decode cX10_as 18 = .ok (.iload_n 2, 1) := by decide +kernel
theorem dX10_as_19 : decode cX10_as 19 = .ok (.iconst 4, 1) := by decide +kernel
theorem dX10_as_20 : decode cX10_as 20 = .ok (.if_icmp .le 6, 3) := by decide +kernel
theorem dX10_as_23 : decode cX10_as 23 = .ok (.bipush (-102), 2) := by decide +kernel
theorem dX10_as_25 : decode cX10_as 25 = .ok (.ireturn, 1) := by decide +kernel
theorem dX10_as_26 : decode cX10_as 26 = .ok (.aload_n 0, 1) := by decide +kernel
theorem dX10_as_27 : decode cX10_as 27 = .ok (.getfield 21, 3) := by decide +kernel
theorem dX10_as_30 : decode cX10_as 30 = .ok (.iload_n 1, 1) := by decide +kernel
theorem dX10_as_31 : decode cX10_as 31 = .ok (.invokevirtual 87, 3) := by decide +kernel
theorem dX10_as_34 : decode cX10_as 34 = .ok (.iload_n 2, 1) := by decide +kernel
theorem dX10_as_35 : decode cX10_as 35 = .ok (.invokestatic 91, 3) := by decide +kernel
theorem dX10_as_38 : decode cX10_as 38 = .ok (.ifCond .eq 7, 3) := by decide +kernel
theorem dX10_as_41 : decode cX10_as 41 = .ok (.iload_n 1, 1) := by decide +kernel
theorem dX10_as_42 : decode cX10_as 42 = .ok (.goto 4, 3) := by decide +kernel
theorem dX10_as_45 : decode cX10_as 45 = .ok (.iconst (-1), 1) := by decide +kernel
theorem dX10_as_46 : decode cX10_as 46 = .ok (.ireturn, 1) := by decide +kernel
set_option maxRecDepth 20000 in
theorem ggX10_shut_X8_has : GoodIn wsX10_shut wsX8_has := goodIn_r _ [10, 11, 44, 45, 46, 47] (by decide +kernel) (by decide +kernel)
set_option maxRecDepth 20000 in
theorem gX10_shut_X8_has : GoodIn wsX10_shut (wsV RX10 80 RX8 yX8_has wsX8_has) := goodIn_app (goodIn_of _ (by decide +kernel)) ggX10_shut_X8_has
set_option maxRecDepth 20000 in
theorem ggX10_shut_X5_isOut : GoodIn wsX10_shut wsX5_isOut := goodIn_r _ [16, 17, 18, 19, 7, 8, 9, 10, 11, 31, 32, 33, 34, 35, 36, 37, 38, 39, 40, 44, 45, 46, 47] (by decide +kernel) (by decide +kernel)
set_option maxRecDepth 20000 in
theorem gX10_shut_X5_isOut : GoodIn wsX10_shut (wsV RX10 95 RX5 yX5_isOut wsX5_isOut) := goodIn_app (goodIn_of _ (by decide +kernel)) ggX10_shut_X5_isOut
theorem dX10_shut_0 : decode cX10_shut 0 = .ok (.aload_n 0, 1) := by decide +kernel
theorem dX10_shut_1 : decode cX10_shut 1 = .ok (.getfield 21, 3) := by decide +kernel
theorem dX10_shut_4 : decode cX10_shut 4 = .ok (.iload_n 1, 1) := by decide +kernel
theorem dX10_shut_5 : decode cX10_shut 5 = .ok (.invokevirtual 80, 3) := by decide +kernel
theorem dX10_shut_8 : decode cX10_shut 8 = .ok (.ifCond .ne 6, 3) := by decide +kernel
theorem dX10_shut_11 : decode cX10_shut 11 = .ok (.bipush (-101), 2) := by decide +kernel
theorem dX10_shut_13 : decode cX10_shut 13 = .ok (.ireturn, 1) := by decide +kernel
theorem dX10_shut_14 : decode cX10_shut 14 = .ok (.aload_n 0, 1) := by decide +kernel
theorem dX10_shut_15 : decode cX10_shut 15 = .ok (.getfield 30, 3) := by decide +kernel
theorem dX10_shut_18 : decode cX10_shut 18 = .ok (.iload_n 1, 1) := by decide +kernel
theorem dX10_shut_19 : decode cX10_shut 19 = .ok (.invokevirtual 95, 3) := by decide +kernel
theorem dX10_shut_22 : decode cX10_shut 22 = .ok (.istore_n 3, 1) := by decide +kernel
theorem dX10_shut_23 : decode cX10_shut 23 = .ok (.iload_n 2, 1) := by decide +kernel
theorem dX10_shut_24 : decode cX10_shut 24 = .ok (.ifCond .ne 16, 3) := by decide +kernel
theorem dX10_shut_27 : decode cX10_shut 27 = .ok (.aload_n 0, 1) := by decide +kernel
theorem dX10_shut_28 : decode cX10_shut 28 = .ok (.getfield 30, 3) := by decide +kernel
theorem dX10_shut_31 : decode cX10_shut 31 = .ok (.getfield 98, 3) := by decide +kernel
theorem dX10_shut_34 : decode cX10_shut 34 = .ok (.iload_n 1, 1) := by decide +kernel
theorem dX10_shut_35 : decode cX10_shut 35 = .ok (.iconst (-1), 1) := by decide +kernel
theorem dX10_shut_36 : decode cX10_shut 36 = .ok (.iastore, 1) := by decide +kernel
theorem dX10_shut_37 : decode cX10_shut 37 = .ok (.goto 26, 3) := by decide +kernel
theorem dX10_shut_40 : decode cX10_shut 40 = .ok (.iload_n 3, 1) := by decide +kernel
theorem dX10_shut_41 : decode cX10_shut 41 = .ok (.ifCond .ne 22, 3) := by decide +kernel
theorem dX10_shut_44 : decode cX10_shut 44 = .ok (.aload_n 0, 1) := by decide +kernel
theorem dX10_shut_45 : decode cX10_shut 45 = .ok (.getfield 30, 3) := by decide +kernel
theorem dX10_shut_48 : decode cX10_shut 48 = .ok (.getfield 98, 3) := by decide +kernel
theorem dX10_shut_51 : decode cX10_shut 51 = .ok (.iload_n 1, 1) := by decide +kernel
theorem dX10_shut_52 : decode cX10_shut 52 = .ok (.aload_n 0, 1) := by decide +kernel
theorem dX10_shut_53 : decode cX10_shut 53 = .ok (.getfield 30, 3) := by decide +kernel
theorem dX10_shut_56 : decode cX10_shut 56 = .ok (.getfield 102, 3) := by decide +kernel
theorem dX10_shut_59 : decode cX10_shut 59 = .ok (.getfield 106, 3) := by decide +kernel
theorem dX10_shut_62 : decode cX10_shut 62 = .ok (.iastore, 1) := by decide +kernel
theorem dX10_shut_63 : decode cX10_shut 63 = .ok (.iload_n 3, 1) := by decide +kernel
theorem dX10_shut_64 : decode cX10_shut 64 = .ok (.ifCond .eq 7, 3) := by decide +kernel
theorem dX10_shut_67 : decode cX10_shut 67 = .ok (.iconst 1, 1) := by decide +kernel
theorem dX10_shut_68 : decode cX10_shut 68 = .ok (.goto 4, 3) := by decide +kernel
theorem dX10_shut_71 : decode cX10_shut 71 = .ok (.iconst 0, 1) := by decide +kernel
theorem dX10_shut_72 : decode cX10_shut 72 = .ok (.ireturn, 1) := by decide +kernel
set_option maxRecDepth 20000 in
theorem ggX10_lay_X10_hasTown : GoodIn wsX10_lay wsX10_hasTown := goodIn_r _ [9, 10, 11, 20, 21, 22, 23, 24, 25, 26, 27, 28, 29, 30, 44, 45, 46, 47] (by decide +kernel) (by decide +kernel)
set_option maxRecDepth 20000 in
theorem gX10_lay_X10_hasTown : GoodIn wsX10_lay (wsV RX10 111 RX10 yX10_hasTown wsX10_hasTown) := goodIn_app (goodIn_of _ (by decide +kernel)) ggX10_lay_X10_hasTown
set_option maxRecDepth 20000 in
theorem ggX10_lay_X2_put : GoodIn wsX10_lay wsX2_put := goodIn_r _ [16, 17, 18, 19, 41, 42, 43] (by decide +kernel) (by decide +kernel)
set_option maxRecDepth 20000 in
theorem gX10_lay_X2_put : GoodIn wsX10_lay (wsV RX10 117 RX2 yX2_put wsX2_put) := goodIn_app (goodIn_of _ (by decide +kernel)) ggX10_lay_X2_put
theorem dX10_lay_0 : decode cX10_lay 0 = .ok (.iload_n 1, 1) := by decide +kernel
theorem dX10_lay_1 : decode cX10_lay 1 = .ok (.ifCond .lt 9, 3) := by decide +kernel
theorem dX10_lay_4 : decode cX10_lay 4 = .ok (.iload_n 1, 1) := by decide +kernel
theorem dX10_lay_5 : decode cX10_lay 5 = .ok (.bipush 10, 2) := by decide +kernel
theorem dX10_lay_7 : decode cX10_lay 7 = .ok (.if_icmp .lt 6, 3) := by decide +kernel
theorem dX10_lay_10 : decode cX10_lay 10 = .ok (.bipush (-102), 2) := by decide +kernel
theorem dX10_lay_12 : decode cX10_lay 12 = .ok (.ireturn, 1) := by decide +kernel
theorem dX10_lay_13 : decode cX10_lay 13 = .ok (.aload_n 0, 1) := by decide +kernel
theorem dX10_lay_14 : decode cX10_lay 14 = .ok (.invokevirtual 111, 3) := by decide +kernel
theorem dX10_lay_17 : decode cX10_lay 17 = .ok (.ifCond .ne 6, 3) := by decide +kernel
theorem dX10_lay_20 : decode cX10_lay 20 = .ok (.bipush (-103), 2) := by decide +kernel
theorem dX10_lay_22 : decode cX10_lay 22 = .ok (.ireturn, 1) := by decide +kernel
theorem dX10_lay_23 : decode cX10_lay 23 = .ok (.aload_n 0, 1) := by decide +kernel
theorem dX10_lay_24 : decode cX10_lay 24 = .ok (.getfield 30, 3) := by decide +kernel
theorem dX10_lay_27 : decode cX10_lay 27 = .ok (.getfield 102, 3) := by decide +kernel
theorem dX10_lay_30 : decode cX10_lay 30 = .ok (.getfield 114, 3) := by decide +kernel
theorem dX10_lay_33 : decode cX10_lay 33 = .ok (.istore_n 2, 1) := by decide +kernel
theorem dX10_lay_34 : decode cX10_lay 34 = .ok (.aload_n 0, 1) := by decide +kernel
theorem dX10_lay_35 : decode cX10_lay 35 = .ok (.getfield 30, 3) := by decide +kernel
theorem dX10_lay_38 : decode cX10_lay 38 = .ok (.getfield 102, 3) := by decide +kernel
theorem dX10_lay_41 : decode cX10_lay 41 = .ok (.iload_n 1, 1) := by decide +kernel
theorem dX10_lay_42 : decode cX10_lay 42 = .ok (.aload_n 0, 1) := by decide +kernel
theorem dX10_lay_43 : decode cX10_lay 43 = .ok (.getfield 30, 3) := by decide +kernel
theorem dX10_lay_46 : decode cX10_lay 46 = .ok (.getfield 102, 3) := by decide +kernel
theorem dX10_lay_49 : decode cX10_lay 49 = .ok (.getfield 106, 3) := by decide +kernel
theorem dX10_lay_52 : decode cX10_lay 52 = .ok (.iconst 0, 1) := by decide +kernel
theorem dX10_lay_53 : decode cX10_lay 53 = .ok (.invokevirtual 117, 3) := by decide +kernel
theorem dX10_lay_56 : decode cX10_lay 56 = .ok (.iload_n 2, 1) := by decide +kernel
theorem dX10_lay_57 : decode cX10_lay 57 = .ok (.ireturn, 1) := by decide +kernel
set_option maxRecDepth 20000 in
theorem ggX10_pass_X10_hasTown : GoodIn wsX10_pass wsX10_hasTown := goodIn_r _ [8, 9, 10, 11, 12, 13, 14, 15, 16, 17, 18, 19, 20, 21, 35, 36, 37, 38] (by decide +kernel) (by decide +kernel)
