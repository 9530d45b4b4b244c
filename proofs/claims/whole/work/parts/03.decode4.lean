theorem dX11_open_40 : decode cX11_open 40 = .ok (.imul, 1) := by decide +kernel
theorem dX11_open_41 : decode cX11_open 41 = .ok (.bipush 6, 2) := by decide +kernel
theorem dX11_open_43 : decode cX11_open 43 = .ok (.iadd, 1) := by decide +kernel
theorem dX11_open_44 : decode cX11_open 44 = .ok (.dup2, 1) := by decide +kernel
theorem dX11_open_45 : decode cX11_open 45 = .ok (.iaload, 1) := by decide +kernel
theorem dX11_open_46 : decode cX11_open 46 = .ok (.aload_n 0, 1) := by decide +kernel
theorem dX11_open_47 : decode cX11_open 47 = .ok (.iload_n 1, 1) := by decide +kernel
theorem dX11_open_48 : decode cX11_open 48 = .ok (.invokevirtual 124, 3) := by decide +kernel
theorem dX11_open_51 : decode cX11_open 51 = .ok (.iadd, 1) := by decide +kernel
theorem dX11_open_52 : decode cX11_open 52 = .ok (.iastore, 1) := by decide +kernel
theorem dX11_open_53 : decode cX11_open 53 = .ok (.aload_n 0, 1) := by decide +kernel
theorem dX11_open_54 : decode cX11_open 54 = .ok (.getfield 13, 3) := by decide +kernel
theorem dX11_open_57 : decode cX11_open 57 = .ok (.bipush 8, 2) := by decide +kernel
theorem dX11_open_59 : decode cX11_open 59 = .ok (.iload_n 1, 1) := by decide +kernel
theorem dX11_open_60 : decode cX11_open 60 = .ok (.imul, 1) := by decide +kernel
theorem dX11_open_61 : decode cX11_open 61 = .ok (.iconst 4, 1) := by decide +kernel
theorem dX11_open_62 : decode cX11_open 62 = .ok (.iadd, 1) := by decide +kernel
theorem dX11_open_63 : decode cX11_open 63 = .ok (.iconst (-1), 1) := by decide +kernel
theorem dX11_open_64 : decode cX11_open 64 = .ok (.iastore, 1) := by decide +kernel
theorem dX11_open_65 : decode cX11_open 65 = .ok (.aload_n 0, 1) := by decide +kernel
theorem dX11_open_66 : decode cX11_open 66 = .ok (.getfield 13, 3) := by decide +kernel
theorem dX11_open_69 : decode cX11_open 69 = .ok (.bipush 8, 2) := by decide +kernel
theorem dX11_open_71 : decode cX11_open 71 = .ok (.iload_n 1, 1) := by decide +kernel
theorem dX11_open_72 : decode cX11_open 72 = .ok (.imul, 1) := by decide +kernel
theorem dX11_open_73 : decode cX11_open 73 = .ok (.iconst 5, 1) := by decide +kernel
theorem dX11_open_74 : decode cX11_open 74 = .ok (.iadd, 1) := by decide +kernel
theorem dX11_open_75 : decode cX11_open 75 = .ok (.aload_n 0, 1) := by decide +kernel
theorem dX11_open_76 : decode cX11_open 76 = .ok (.getfield 105, 3) := by decide +kernel
theorem dX11_open_79 : decode cX11_open 79 = .ok (.iastore, 1) := by decide +kernel
theorem dX11_open_80 : decode cX11_open 80 = .ok (.aload_n 0, 1) := by decide +kernel
theorem dX11_open_81 : decode cX11_open 81 = .ok (.aload_n 0, 1) := by decide +kernel
theorem dX11_open_82 : decode cX11_open 82 = .ok (.getfield 102, 3) := by decide +kernel
theorem dX11_open_85 : decode cX11_open 85 = .ok (.putfield 70, 3) := by decide +kernel
theorem dX11_open_88 : decode cX11_open 88 = .ok (.aload_n 0, 1) := by decide +kernel
theorem dX11_open_89 : decode cX11_open 89 = .ok (.aload_n 0, 1) := by decide +kernel
theorem dX11_open_90 : decode cX11_open 90 = .ok (.getfield 108, 3) := by decide +kernel
theorem dX11_open_93 : decode cX11_open 93 = .ok (.putfield 73, 3) := by decide +kernel
theorem dX11_open_96 : decode cX11_open 96 = .ok (.aload_n 0, 1) := by decide +kernel
theorem dX11_open_97 : decode cX11_open 97 = .ok (.aload_n 0, 1) := by decide +kernel
theorem dX11_open_98 : decode cX11_open 98 = .ok (.getfield 105, 3) := by decide +kernel
theorem dX11_open_101 : decode cX11_open 101 = .ok (.putfield 76, 3) := by decide +kernel
theorem dX11_open_104 : decode cX11_open 104 = .ok (.aload_n 0, 1) := by decide +kernel
theorem dX11_open_105 : decode cX11_open 105 = .ok (.getfield 105, 3) := by decide +kernel
theorem dX11_open_108 : decode cX11_open 108 = .ok (.ireturn, 1) := by decide +kernel
set_option maxRecDepth 20000 in
theorem ggX11_night_X11_lacks : GoodIn wsX11_night wsX11_lacks := goodIn_r _ [9, 1, 14, 15, 16, 17, 18, 19, 20, 21, 22, 23, 24, 25, 26, 27, 28, 29, 30, 31, 32, 33, 34, 35, 36, 37, 38, 39, 40, 41, 42, 43, 44, 45] (by decide +kernel) (by decide +kernel)
set_option maxRecDepth 20000 in
theorem gX11_night_X11_lacks : GoodIn wsX11_night (wsV RX11 96 RX11 yX11_lacks wsX11_lacks) := goodIn_app (goodIn_of _ (by decide +kernel)) ggX11_night_X11_lacks
set_option maxRecDepth 20000 in
theorem ggX11_night_X11_isShut : GoodIn wsX11_night wsX11_isShut := goodIn_r _ [13, 2, 14, 15, 16, 17, 18, 19, 20, 21, 22, 23, 24, 25, 26, 27, 28, 29, 30, 31, 32, 33, 34, 35, 36, 37, 38, 39, 40, 41, 42, 43, 44, 45] (by decide +kernel) (by decide +kernel)
set_option maxRecDepth 20000 in
theorem gX11_night_X11_isShut : GoodIn wsX11_night (wsV RX11 93 RX11 yX11_isShut wsX11_isShut) := goodIn_app (goodIn_of _ (by decide +kernel)) ggX11_night_X11_isShut
theorem dX11_night_0 : decode cX11_night 0 = .ok (.aload_n 0, 1) := by decide +kernel
theorem dX11_night_1 : decode cX11_night 1 = .ok (.invokevirtual 96, 3) := by decide +kernel
theorem dX11_night_4 : decode cX11_night 4 = .ok (.ifCond .eq 6, 3) := by decide +kernel
theorem dX11_night_7 : decode cX11_night 7 = .ok (.bipush (-103), 2) := by decide +kernel
theorem dX11_night_9 : decode cX11_night 9 = .ok (.ireturn, 1) := by decide +kernel
theorem dX11_night_10 : decode cX11_night 10 = .ok (.iconst 0, 1) := by decide +kernel
theorem dX11_night_11 : decode cX11_night 11 = .ok (.istore_n 1, 1) := by decide +kernel
theorem dX11_night_12 : decode cX11_night 12 = .ok (.iconst 0, 1) := by decide +kernel
theorem dX11_night_13 : decode cX11_night 13 = .ok (.istore_n 2, 1) := by decide +kernel
theorem dX11_night_14 : decode cX11_night 14 = .ok (.iload_n 2, 1) := by decide +kernel
theorem dX11_night_15 : decode cX11_night 15 = .ok (.aload_n 0, 1) := by decide +kernel
theorem dX11_night_16 : decode cX11_night 16 = .ok (.getfield 67, 3) := by decide +kernel
theorem dX11_night_19 : decode cX11_night 19 = .ok (.if_icmp .ge 90, 3) := by decide +kernel
theorem dX11_night_22 : decode cX11_night 22 = .ok (.aload_n 0, 1) := by decide +kernel
theorem dX11_night_23 : decode cX11_night 23 = .ok (.iload_n 2, 1) := by decide +kernel
theorem dX11_night_24 : decode cX11_night 24 = .ok (.invokevirtual 93, 3) := by decide +kernel
theorem dX11_night_27 : decode cX11_night 27 = .ok (.ifCond .eq 30, 3) := by decide +kernel
theorem dX11_night_30 : decode cX11_night 30 = .ok (.aload_n 0, 1) := by decide +kernel
theorem dX11_night_31 : decode cX11_night 31 = .ok (.getfield 13, 3) := by decide +kernel
theorem dX11_night_34 : decode cX11_night 34 = .ok (.bipush 8, 2) := by decide +kernel
theorem dX11_night_36 : decode cX11_night 36 = .ok (.iload_n 2, 1) := by decide +kernel
theorem dX11_night_37 : decode cX11_night 37 = .ok (.imul, 1) := by decide +kernel
theorem dX11_night_38 : decode cX11_night 38 = .ok (.iaload, 1) := by decide +kernel
theorem dX11_night_39 : decode cX11_night 39 = .ok (.iconst 2, 1) := by decide +kernel
theorem dX11_night_40 : decode cX11_night 40 = .ok (.if_icmp .eq 17, 3) := by decide +kernel
theorem dX11_night_43 : decode cX11_night 43 = .ok (.aload_n 0, 1) := by decide +kernel
theorem dX11_night_44 : decode cX11_night 44 = .ok (.getfield 13, 3) := by decide +kernel
theorem dX11_night_47 : decode cX11_night 47 = .ok (.bipush 8, 2) := by decide +kernel
theorem dX11_night_49 : decode cX11_night 49 = .ok (.iload_n 2, 1) := by decide +kernel
theorem dX11_night_50 : decode cX11_night 50 = .ok (.imul, 1) := by decide +kernel
theorem dX11_night_51 : decode cX11_night 51 = .ok (.iconst 3, 1) := by decide +kernel
theorem dX11_night_52 : decode cX11_night 52 = .ok (.iadd, 1) := by decide +kernel
theorem dX11_night_53 : decode cX11_night 53 = .ok (.iaload, 1) := by decide +kernel
theorem dX11_night_54 : decode cX11_night 54 = .ok (.goto 4, 3) := by decide +kernel
theorem dX11_night_57 : decode cX11_night 57 = .ok (.iconst 0, 1) := by decide +kernel
theorem dX11_night_58 : decode cX11_night 58 = .ok (.istore_n 3, 1) := by decide +kernel
theorem dX11_night_59 : decode cX11_night 59 = .ok (.aload_n 0, 1) := by decide +kernel
theorem dX11_night_60 : decode cX11_night 60 = .ok (.getfield 13, 3) := by decide +kernel
theorem dX11_night_63 : decode cX11_night 63 = .ok (.bipush 8, 2) := by decide +kernel
theorem dX11_night_65 : decode cX11_night 65 = .ok (.iload_n 2, 1) := by decide +kernel
theorem dX11_night_66 : decode cX11_night 66 = .ok (.imul, 1) := by decide +kernel
theorem dX11_night_67 : decode cX11_night 67 = .ok (.bipush 7, 2) := by decide +kernel
theorem dX11_night_69 : decode cX11_night 69 = .ok (.iadd, 1) := by decide +kernel
theorem dX11_night_70 : decode cX11_night 70 = .ok (.dup2, 1) := by decide +kernel
theorem dX11_night_71 : decode cX11_night 71 = .ok (.iaload, 1) := by decide +kernel
theorem dX11_night_72 : decode cX11_night 72 = .ok (.iload_n 3, 1) := by decide +kernel
theorem dX11_night_73 : decode cX11_night 73 = .ok (.iadd, 1) := by decide +kernel
theorem dX11_night_74 : decode cX11_night 74 = .ok (.iastore, 1) := by decide +kernel
theorem dX11_night_75 : decode cX11_night 75 = .ok (.iload_n 1, 1) := by decide +kernel
theorem dX11_night_76 : decode cX11_night 76 = .ok (.iload_n 3, 1) := by decide +kernel
theorem dX11_night_77 : decode cX11_night 77 = .ok (.iadd, 1) := by decide +kernel
theorem dX11_night_78 : decode cX11_night 78 = .ok (.istore_n 1, 1) := by decide +kernel
theorem dX11_night_79 : decode cX11_night 79 = .ok (.aload_n 0, 1) := by decide +kernel
theorem dX11_night_80 : decode cX11_night 80 = .ok (.getfield 13, 3) := by decide +kernel
theorem dX11_night_83 : decode cX11_night 83 = .ok (.bipush 8, 2) := by decide +kernel
theorem dX11_night_85 : decode cX11_night 85 = .ok (.iload_n 2, 1) := by decide +kernel
theorem dX11_night_86 : decode cX11_night 86 = .ok (.imul, 1) := by decide +kernel
theorem dX11_night_87 : decode cX11_night 87 = .ok (.iconst 4, 1) := by decide +kernel
theorem dX11_night_88 : decode cX11_night 88 = .ok (.iadd, 1) := by decide +kernel
theorem dX11_night_89 : decode cX11_night 89 = .ok (.aload_n 0, 1) := by decide +kernel
theorem dX11_night_90 : decode cX11_night 90 = .ok (.iload_n 2, 1) := by decide +kernel
theorem dX11_night_91 : decode cX11_night 91 = .ok (.invokevirtual 93, 3) := by decide +kernel
theorem dX11_night_94 : decode cX11_night 94 = .ok (.ifCond .eq 7, 3) := by decide +kernel
theorem dX11_night_97 : decode cX11_night 97 = .ok (.iconst 0, 1) := by decide +kernel
theorem dX11_night_98 : decode cX11_night 98 = .ok (.goto 4, 3) := by decide +kernel
theorem dX11_night_101 : decode cX11_night 101 = .ok (.iconst (-1), 1) := by decide +kernel
theorem dX11_night_102 : decode cX11_night 102 = .ok (.iastore, 1) := by decide +kernel
theorem dX11_night_103 : decode cX11_night 103 = .ok (.iinc 2 1, 3) := by decide +kernel
theorem dX11_night_106 : decode cX11_night 106 = .ok (.goto (-92), 3) := by decide +kernel
theorem dX11_night_109 : decode cX11_night 109 = .ok (.aload_n 0, 1) := by decide +kernel
theorem dX11_night_110 : decode cX11_night 110 = .ok (.iconst 0, 1) := by decide +kernel
theorem dX11_night_111 : decode cX11_night 111 = .ok (.putfield 76, 3) := by decide +kernel
theorem dX11_night_114 : decode cX11_night 114 = .ok (.aload_n 0, 1) := by decide +kernel
theorem dX11_night_115 : decode cX11_night 115 = .ok (.iconst 0, 1) := by decide +kernel
theorem dX11_night_116 : decode cX11_night 116 = .ok (.putfield 73, 3) := by decide +kernel
theorem dX11_night_119 : decode cX11_night 119 = .ok (.iload_n 1, 1) := by decide +kernel
theorem dX11_night_120 : decode cX11_night 120 = .ok (.ireturn, 1) := by decide +kernel
set_option maxRecDepth 20000 in
theorem ggX11_nextOf_X11_mayOpen : GoodIn wsX11_nextOf wsX11_mayOpen := goodIn_r _ [6, 1, 7, 16, 17, 18, 19, 20, 21, 22, 23, 24, 25, 26, 27, 28, 29, 30, 31, 32, 33, 34, 35, 36, 37, 38, 39, 40, 41, 42, 43, 44, 45, 46, 47] (by decide +kernel) (by decide +kernel)
set_option maxRecDepth 20000 in
theorem gX11_nextOf_X11_mayOpen : GoodIn wsX11_nextOf (wsV RX11 118 RX11 yX11_mayOpen wsX11_mayOpen) := goodIn_app (goodIn_of _ (by decide +kernel)) ggX11_nextOf_X11_mayOpen
set_option maxRecDepth 20000 in
theorem ggX11_nextOf_X11_valueOf : GoodIn wsX11_nextOf wsX11_valueOf := goodIn_r _ [11, 7, 12, 13, 14, 5, 15, 16, 17, 18, 19, 20, 21, 22, 23, 24, 25, 26, 27, 28, 29, 30, 31, 32, 33, 34, 35, 36, 37, 38, 39, 40, 41, 42, 43, 44, 45, 46, 47] (by decide +kernel) (by decide +kernel)
set_option maxRecDepth 20000 in
theorem gX11_nextOf_X11_valueOf : GoodIn wsX11_nextOf (wsV RX11 127 RX11 yX11_valueOf wsX11_valueOf) := goodIn_app (goodIn_of _ (by decide +kernel)) ggX11_nextOf_X11_valueOf
theorem dX11_nextOf_0 : decode cX11_nextOf 0 = .ok (.aload_n 0, 1) := by decide +kernel
theorem dX11_nextOf_1 : decode cX11_nextOf 1 = .ok (.iload_n 1, 1) := by decide +kernel
theorem dX11_nextOf_2 : decode cX11_nextOf 2 = .ok (.invokevirtual 118, 3) := by decide +kernel
theorem dX11_nextOf_5 : decode cX11_nextOf 5 = .ok (.istore_n 3, 1) := by decide +kernel
theorem dX11_nextOf_6 : decode cX11_nextOf 6 = .ok (.iconst (-1), 1) := by decide +kernel
theorem dX11_nextOf_7 : decode cX11_nextOf 7 = .ok (.istore 4, 2) := by decide +kernel
theorem dX11_nextOf_9 : decode cX11_nextOf 9 = .ok (.iconst 0, 1) := by decide +kernel
theorem dX11_nextOf_10 : decode cX11_nextOf 10 = .ok (.istore 5, 2) := by decide +kernel
theorem dX11_nextOf_12 : decode cX11_nextOf 12 = .ok (.iconst 0, 1) := by decide +kernel
theorem dX11_nextOf_13 : decode cX11_nextOf 13 = .ok (.istore 6, 2) := by decide +kernel
theorem dX11_nextOf_15 : decode cX11_nextOf 15 = .ok (.iload 6, 2) := by decide +kernel
theorem dX11_nextOf_17 : decode cX11_nextOf 17 = .ok (.aload_n 0, 1) := by decide +kernel
theorem dX11_nextOf_18 : decode cX11_nextOf 18 = .ok (.getfield 67, 3) := by decide +kernel
theorem dX11_nextOf_21 : decode cX11_nextOf 21 = .ok (.if_icmp .ge 66, 3) := by decide +kernel
theorem dX11_nextOf_24 : decode cX11_nextOf 24 = .ok (.iload_n 3, 1) := by decide +kernel
theorem dX11_nextOf_25 : decode cX11_nextOf 25 = .ok (.iload 6, 2) := by decide +kernel
theorem dX11_nextOf_27 : decode cX11_nextOf 27 = .ok (.ishr, 1) := by decide +kernel
theorem dX11_nextOf_28 : decode cX11_nextOf 28 = .ok (.iconst 1, 1) := by decide +kernel
theorem dX11_nextOf_29 : decode cX11_nextOf 29 = .ok (.iand, 1) := by decide +kernel
theorem dX11_nextOf_30 : decode cX11_nextOf 30 = .ok (.iconst 1, 1) := by decide +kernel
theorem dX11_nextOf_31 : decode cX11_nextOf 31 = .ok (.if_icmp .ne 50, 3) := by decide +kernel
theorem dX11_nextOf_34 : decode cX11_nextOf 34 = .ok (.aload_n 0, 1) := by decide +kernel
theorem dX11_nextOf_35 : decode cX11_nextOf 35 = .ok (.iload 6, 2) := by decide +kernel
theorem dX11_nextOf_37 : decode cX11_nextOf 37 = .ok (.iload_n 2, 1) := by decide +kernel
theorem dX11_nextOf_38 : decode cX11_nextOf 38 = .ok (.invokevirtual 127, 3) := by decide +kernel
theorem dX11_nextOf_41 : decode cX11_nextOf 41 = .ok (.istore 7, 2) := by decide +kernel
theorem dX11_nextOf_43 : decode cX11_nextOf 43 = .ok (.iload 4, 2) := by decide +kernel
theorem dX11_nextOf_45 : decode cX11_nextOf 45 = .ok (.iconst (-1), 1) := by decide +kernel
theorem dX11_nextOf_46 : decode cX11_nextOf 46 = .ok (.if_icmp .eq 10, 3) := by decide +kernel
theorem dX11_nextOf_49 : decode cX11_nextOf 49 = .ok (.iload 7, 2) := by decide +kernel
theorem dX11_nextOf_51 : decode cX11_nextOf 51 = .ok (.iload 5, 2) := by decide +kernel
theorem dX11_nextOf_53 : decode cX11_nextOf 53 = .ok (.if_icmp .ge 8, 3) := by decide +kernel
theorem dX11_nextOf_56 : decode cX11_nextOf 56 = .ok (.iload 6, 2) := by decide +kernel
theorem dX11_nextOf_58 : decode cX11_nextOf 58 = .ok (.goto 5, 3) := by decide +kernel
theorem dX11_nextOf_61 : decode cX11_nextOf 61 = .ok (.iload 4, 2) := by decide +kernel
theorem dX11_nextOf_63 : decode cX11_nextOf 63 = .ok (.istore 4, 2) := by decide +kernel
theorem dX11_nextOf_65 : decode cX11_nextOf 65 = .ok (.iload 4, 2) := by decide +kernel
theorem dX11_nextOf_67 : decode cX11_nextOf 67 = .ok (.iload 6, 2) := by decide +kernel
theorem dX11_nextOf_69 : decode cX11_nextOf 69 = .ok (.if_icmp .ne 8, 3) := by decide +kernel
theorem dX11_nextOf_72 : decode cX11_nextOf 72 = .ok (.iload 7, 2) := by decide +kernel
theorem dX11_nextOf_74 : decode cX11_nextOf 74 = .ok (.goto 5, 3) := by decide +kernel
theorem dX11_nextOf_77 : decode cX11_nextOf 77 = .ok (.iload 5, 2) := by decide +kernel
theorem dX11_nextOf_79 : decode cX11_nextOf 79 = .ok (.istore 5, 2) := by decide +kernel
theorem dX11_nextOf_81 : decode cX11_nextOf 81 = .ok (.iinc 6 1, 3) := by decide +kernel
theorem dX11_nextOf_84 : decode cX11_nextOf 84 = .ok (.goto (-69), 3) := by decide +kernel
theorem dX11_nextOf_87 : decode cX11_nextOf 87 = .ok (.iload 4, 2) := by decide +kernel
theorem dX11_nextOf_89 : decode cX11_nextOf 89 = .ok (.ireturn, 1) := by decide +kernel
set_option maxRecDepth 20000 in
theorem ggX11_valueOf_X11_far : GoodIn wsX11_valueOf wsX11_far := goodIn_r _ [6] (by decide +kernel) (by decide +kernel)
set_option maxRecDepth 20000 in
theorem gX11_valueOf_X11_far : GoodIn wsX11_valueOf (va_wsS RX11 111 yX11_far wsX11_far) := goodIn_app (goodIn_of _ (by decide +kernel)) ggX11_valueOf_X11_far
theorem dX11_valueOf_0 : decode cX11_valueOf 0 = .ok (.iload_n 2, 1) := by decide +kernel
theorem dX11_valueOf_1 : decode cX11_valueOf 1 = .ok (.ifCond .ne 17, 3) := by decide +kernel
theorem dX11_valueOf_4 : decode cX11_valueOf 4 = .ok (.aload_n 0, 1) := by decide +kernel
theorem dX11_valueOf_5 : decode cX11_valueOf 5 = .ok (.getfield 13, 3) := by decide +kernel
theorem dX11_valueOf_8 : decode cX11_valueOf 8 = .ok (.bipush 8, 2) := by decide +kernel
theorem dX11_valueOf_10 : decode cX11_valueOf 10 = .ok (.iload_n 1, 1) := by decide +kernel
theorem dX11_valueOf_11 : decode cX11_valueOf 11 = .ok (.imul, 1) := by decide +kernel
theorem dX11_valueOf_12 : decode cX11_valueOf 12 = .ok (.iconst 4, 1) := by decide +kernel
theorem dX11_valueOf_13 : decode cX11_valueOf 13 = .ok (.iadd, 1) := by decide +kernel
theorem dX11_valueOf_14 : decode cX11_valueOf 14 = .ok (.iaload, 1) := by decide +kernel
theorem dX11_valueOf_15 : decode cX11_valueOf 15 = .ok (.goto 40, 3) := by decide +kernel
theorem dX11_valueOf_18 : decode cX11_valueOf 18 = .ok (.iload_n 2, 1) := by decide +kernel
theorem dX11_valueOf_19 : decode cX11_valueOf 19 = .ok (.iconst 1, 1) := by decide +kernel
theorem dX11_valueOf_20 : decode cX11_valueOf 20 = .ok (.if_icmp .ne 24, 3) := by decide +kernel
theorem dX11_valueOf_23 : decode cX11_valueOf 23 = .ok (.aload_n 0, 1) := by decide +kernel
theorem dX11_valueOf_24 : decode cX11_valueOf 24 = .ok (.getfield 102, 3) := by decide +kernel
theorem dX11_valueOf_27 : decode cX11_valueOf 27 = .ok (.aload_n 0, 1) := by decide +kernel
theorem dX11_valueOf_28 : decode cX11_valueOf 28 = .ok (.getfield 13, 3) := by decide +kernel
theorem dX11_valueOf_31 : decode cX11_valueOf 31 = .ok (.bipush 8, 2) := by decide +kernel
theorem dX11_valueOf_33 : decode cX11_valueOf 33 = .ok (.iload_n 1, 1) := by decide +kernel
theorem dX11_valueOf_34 : decode cX11_valueOf 34 = .ok (.imul, 1) := by decide +kernel
theorem dX11_valueOf_35 : decode cX11_valueOf 35 = .ok (.iconst 1, 1) := by decide +kernel
theorem dX11_valueOf_36 : decode cX11_valueOf 36 = .ok (.iadd, 1) := by decide +kernel
theorem dX11_valueOf_37 : decode cX11_valueOf 37 = .ok (.iaload, 1) := by decide +kernel
theorem dX11_valueOf_38 : decode cX11_valueOf 38 = .ok (.invokestatic 111, 3) := by decide +kernel
theorem dX11_valueOf_41 : decode cX11_valueOf 41 = .ok (.goto 14, 3) := by decide +kernel
theorem dX11_valueOf_44 : decode cX11_valueOf 44 = .ok (.aload_n 0, 1) := by decide +kernel
theorem dX11_valueOf_45 : decode cX11_valueOf 45 = .ok (.getfield 13, 3) := by decide +kernel
theorem dX11_valueOf_48 : decode cX11_valueOf 48 = .ok (.bipush 8, 2) := by decide +kernel
theorem dX11_valueOf_50 : decode cX11_valueOf 50 = .ok (.iload_n 1, 1) := by decide +kernel
theorem dX11_valueOf_51 : decode cX11_valueOf 51 = .ok (.imul, 1) := by decide +kernel
theorem dX11_valueOf_52 : decode cX11_valueOf 52 = .ok (.iconst 2, 1) := by decide +kernel
theorem dX11_valueOf_53 : decode cX11_valueOf 53 = .ok (.iadd, 1) := by decide +kernel
theorem dX11_valueOf_54 : decode cX11_valueOf 54 = .ok (.iaload, 1) := by decide +kernel
theorem dX11_valueOf_55 : decode cX11_valueOf 55 = .ok (.ireturn, 1) := by decide +kernel
set_option maxRecDepth 20000 in
theorem ggX11_next_X11_in : GoodIn wsX11_next wsX11_in := goodIn_r _ [5] (by decide +kernel) (by decide +kernel)
set_option maxRecDepth 20000 in
theorem gX11_next_X11_in : GoodIn wsX11_next (va_wsS RX11 46 yX11_in wsX11_in) := goodIn_app (goodIn_of _ (by decide +kernel)) ggX11_next_X11_in
set_option maxRecDepth 20000 in
theorem ggX11_next_X11_lacks : GoodIn wsX11_next wsX11_lacks := goodIn_r _ [9, 10, 45, 46, 47, 48, 49, 50, 51, 52, 53, 54, 55, 56, 57, 58, 59, 60, 61, 62, 63, 64, 65, 66, 67, 68, 69, 70, 71, 72, 73, 74, 75, 76] (by decide +kernel) (by decide +kernel)
set_option maxRecDepth 20000 in
theorem gX11_next_X11_lacks : GoodIn wsX11_next (wsV RX11 96 RX11 yX11_lacks wsX11_lacks) := goodIn_app (goodIn_of _ (by decide +kernel)) ggX11_next_X11_lacks
set_option maxRecDepth 20000 in
theorem ggX11_next_X11_asItIs : GoodIn wsX11_next wsX11_asItIs := goodIn_r _ [14, 15, 16, 17, 18, 19, 20, 45, 46, 47, 48, 49, 50, 51, 52, 53, 54, 55, 56, 57, 58, 59, 60, 61, 62, 63, 64, 65, 66, 67, 68, 69, 70, 71, 72, 73, 74, 75, 76] (by decide +kernel) (by decide +kernel)
set_option maxRecDepth 20000 in
theorem gX11_next_X11_asItIs : GoodIn wsX11_next (wsV RX11 121 RX11 yX11_asItIs wsX11_asItIs) := goodIn_app (goodIn_of _ (by decide +kernel)) ggX11_next_X11_asItIs
set_option maxRecDepth 20000 in
theorem ggX11_next_X11_shutBits : GoodIn wsX11_next wsX11_shutBits := goodIn_r _ [24, 10, 25, 26, 27, 4, 28, 29, 45, 46, 47, 48, 49, 50, 51, 52, 53, 54, 55, 56, 57, 58, 59, 60, 61, 62, 63, 64, 65, 66, 67, 68, 69, 70, 71, 72, 73, 74, 75, 76] (by decide +kernel) (by decide +kernel)
set_option maxRecDepth 20000 in
theorem gX11_next_X11_shutBits : GoodIn wsX11_next (wsV RX11 115 RX11 yX11_shutBits wsX11_shutBits) := goodIn_app (goodIn_of _ (by decide +kernel)) ggX11_next_X11_shutBits
set_option maxRecDepth 20000 in
theorem ggX11_next_X11_nextOf : GoodIn wsX11_next wsX11_nextOf := goodIn_r _ [33, 10, 34, 35, 36, 4, 37, 29, 38, 39, 40, 41, 16, 42, 43, 44, 45, 46, 47, 48, 49, 50, 51, 52, 53, 54, 55, 56, 57, 58, 59, 60, 61, 62, 63, 64, 65, 66, 67, 68, 69, 70, 71, 72, 73, 74, 75, 76] (by decide +kernel) (by decide +kernel)
set_option maxRecDepth 20000 in
theorem gX11_next_X11_nextOf : GoodIn wsX11_next (wsV RX11 132 RX11 yX11_nextOf wsX11_nextOf) := goodIn_app (goodIn_of _ (by decide +kernel)) ggX11_next_X11_nextOf
theorem dX11_next_0 : decode cX11_next 0 = .ok (.iload_n 1, 1) := by decide +kernel
theorem dX11_next_1 : decode cX11_next 1 = .ok (.i2l, 1) := by decide +kernel
theorem dX11_next_2 : decode cX11_next 2 = .ok (.lconst 0, 1) := by decide +kernel
theorem dX11_next_3 : decode cX11_next 3 = .ok (.ldc2_w 130, 3) := by decide +kernel
theorem dX11_next_6 : decode cX11_next 6 = .ok (.invokestatic 46, 3) := by decide +kernel
theorem dX11_next_9 : decode cX11_next 9 = .ok (.ifCond .ne 6, 3) := by decide +kernel
theorem dX11_next_12 : decode cX11_next 12 = .ok (.bipush (-102), 2) := by decide +kernel
theorem dX11_next_14 : decode cX11_next 14 = .ok (.ireturn, 1) := by decide +kernel
theorem dX11_next_15 : decode cX11_next 15 = .ok (.aload_n 0, 1) := by decide +kernel
theorem dX11_next_16 : decode cX11_next 16 = .ok (.invokevirtual 96, 3) := by decide +kernel
theorem dX11_next_19 : decode cX11_next 19 = .ok (.ifCond .eq 6, 3) := by decide +kernel
theorem dX11_next_22 : decode cX11_next 22 = .ok (.bipush (-103), 2) := by decide +kernel
theorem dX11_next_24 : decode cX11_next 24 = .ok (.ireturn, 1) := by decide +kernel
theorem dX11_next_25 : decode cX11_next 25 = .ok (.aload_n 0, 1) := by decide +kernel
theorem dX11_next_26 : decode cX11_next 26 = .ok (.invokevirtual 121, 3) := by decide +kernel
theorem dX11_next_29 : decode cX11_next 29 = .ok (.aload_n 0, 1) := by decide +kernel
theorem dX11_next_30 : decode cX11_next 30 = .ok (.aload_n 0, 1) := by decide +kernel
theorem dX11_next_31 : decode cX11_next 31 = .ok (.invokevirtual 115, 3) := by decide +kernel
theorem dX11_next_34 : decode cX11_next 34 = .ok (.iload_n 1, 1) := by decide +kernel
theorem dX11_next_35 : decode cX11_next 35 = .ok (.invokevirtual 132, 3) := by decide +kernel
theorem dX11_next_38 : decode cX11_next 38 = .ok (.ireturn, 1) := by decide +kernel
set_option maxRecDepth 20000 in
theorem ggX11_goesBy_X11_nextOf : GoodIn wsX11_goesBy wsX11_nextOf := goodIn_r _ [7, 8, 9, 10, 11, 6, 12, 13, 14, 15, 16, 17, 18, 19, 20, 21, 27, 28, 29, 30, 31, 32, 33, 34, 35, 36, 37, 38, 39, 40, 41, 42, 43, 44, 45, 46, 47, 48, 49, 50, 51, 52, 53, 54, 55, 56, 57, 58] (by decide +kernel) (by decide +kernel)
set_option maxRecDepth 20000 in
theorem gX11_goesBy_X11_nextOf : GoodIn wsX11_goesBy (wsV RX11 132 RX11 yX11_nextOf wsX11_nextOf) := goodIn_app (goodIn_of _ (by decide +kernel)) ggX11_goesBy_X11_nextOf
set_option maxRecDepth 20000 in
theorem ggX11_goesBy_X11_opens : GoodIn wsX11_goesBy wsX11_opens := goodIn_r _ [25, 13, 26, 2, 18, 19, 20, 6, 21, 27, 28, 29, 30, 31, 32, 33, 34, 35, 36, 37, 38, 39, 40, 41, 42, 43, 44, 45, 46, 47, 48, 49, 50, 51, 52, 53, 54, 55, 56, 57, 58] (by decide +kernel) (by decide +kernel)
set_option maxRecDepth 20000 in
theorem gX11_goesBy_X11_opens : GoodIn wsX11_goesBy (wsV RX11 124 RX11 yX11_opens wsX11_opens) := goodIn_app (goodIn_of _ (by decide +kernel)) ggX11_goesBy_X11_opens
theorem dX11_goesBy_0 : decode cX11_goesBy 0 = .ok (.iload_n 1, 1) := by decide +kernel
theorem dX11_goesBy_1 : decode cX11_goesBy 1 = .ok (.istore_n 3, 1) := by decide +kernel
theorem dX11_goesBy_2 : decode cX11_goesBy 2 = .ok (.iconst 0, 1) := by decide +kernel
theorem dX11_goesBy_3 : decode cX11_goesBy 3 = .ok (.istore 4, 2) := by decide +kernel
theorem dX11_goesBy_5 : decode cX11_goesBy 5 = .ok (.iconst 0, 1) := by decide +kernel
theorem dX11_goesBy_6 : decode cX11_goesBy 6 = .ok (.istore 5, 2) := by decide +kernel
theorem dX11_goesBy_8 : decode cX11_goesBy 8 = .ok (.iload 5, 2) := by decide +kernel
theorem dX11_goesBy_10 : decode cX11_goesBy 10 = .ok (.bipush 6, 2) := by decide +kernel
theorem dX11_goesBy_12 : decode cX11_goesBy 12 = .ok (.if_icmp .ge 17, 3) := by decide +kernel
theorem dX11_goesBy_15 : decode cX11_goesBy 15 = .ok (.aload_n 0, 1) := by decide +kernel
theorem dX11_goesBy_16 : decode cX11_goesBy 16 = .ok (.getfield 16, 3) := by decide +kernel
theorem dX11_goesBy_19 : decode cX11_goesBy 19 = .ok (.iload 5, 2) := by decide +kernel
theorem dX11_goesBy_21 : decode cX11_goesBy 21 = .ok (.iconst (-1), 1) := by decide +kernel
theorem dX11_goesBy_22 : decode cX11_goesBy 22 = .ok (.iastore, 1) := by decide +kernel
theorem dX11_goesBy_23 : decode cX11_goesBy 23 = .ok (.iinc 5 1, 3) := by decide +kernel
theorem dX11_goesBy_26 : decode cX11_goesBy 26 = .ok (.goto (-18), 3) := by decide +kernel
theorem dX11_goesBy_29 : decode cX11_goesBy 29 = .ok (.iload_n 3, 1) := by decide +kernel
theorem dX11_goesBy_30 : decode cX11_goesBy 30 = .ok (.ifCond .eq 45, 3) := by decide +kernel
theorem dX11_goesBy_33 : decode cX11_goesBy 33 = .ok (.aload_n 0, 1) := by decide +kernel
theorem dX11_goesBy_34 : decode cX11_goesBy 34 = .ok (.iload_n 3, 1) := by decide +kernel
theorem dX11_goesBy_35 : decode cX11_goesBy 35 = .ok (.iload_n 2, 1) := by decide +kernel
theorem dX11_goesBy_36 : decode cX11_goesBy 36 = .ok (.invokevirtual 132, 3) := by decide +kernel
theorem dX11_goesBy_39 : decode cX11_goesBy 39 = .ok (.istore 5, 2) := by decide +kernel
theorem dX11_goesBy_41 : decode cX11_goesBy 41 = .ok (.iload 4, 2) := by decide +kernel
theorem dX11_goesBy_43 : decode cX11_goesBy 43 = .ok (.aload_n 0, 1) := by decide +kernel
theorem dX11_goesBy_44 : decode cX11_goesBy 44 = .ok (.iload 5, 2) := by decide +kernel
theorem dX11_goesBy_46 : decode cX11_goesBy 46 = .ok (.invokevirtual 124, 3) := by decide +kernel
theorem dX11_goesBy_49 : decode cX11_goesBy 49 = .ok (.iadd, 1) := by decide +kernel
theorem dX11_goesBy_50 : decode cX11_goesBy 50 = .ok (.istore 4, 2) := by decide +kernel
theorem dX11_goesBy_52 : decode cX11_goesBy 52 = .ok (.aload_n 0, 1) := by decide +kernel
theorem dX11_goesBy_53 : decode cX11_goesBy 53 = .ok (.getfield 16, 3) := by decide +kernel
theorem dX11_goesBy_56 : decode cX11_goesBy 56 = .ok (.iload 5, 2) := by decide +kernel
theorem dX11_goesBy_58 : decode cX11_goesBy 58 = .ok (.aload_n 0, 1) := by decide +kernel
theorem dX11_goesBy_59 : decode cX11_goesBy 59 = .ok (.getfield 105, 3) := by decide +kernel
theorem dX11_goesBy_62 : decode cX11_goesBy 62 = .ok (.iastore, 1) := by decide +kernel
theorem dX11_goesBy_63 : decode cX11_goesBy 63 = .ok (.iload_n 3, 1) := by decide +kernel
theorem dX11_goesBy_64 : decode cX11_goesBy 64 = .ok (.iconst 1, 1) := by decide +kernel
theorem dX11_goesBy_65 : decode cX11_goesBy 65 = .ok (.iload 5, 2) := by decide +kernel
theorem dX11_goesBy_67 : decode cX11_goesBy 67 = .ok (.ishl, 1) := by decide +kernel
theorem dX11_goesBy_68 : decode cX11_goesBy 68 = .ok (.iconst (-1), 1) := by decide +kernel
theorem dX11_goesBy_69 : decode cX11_goesBy 69 = .ok (.ixor, 1) := by decide +kernel
theorem dX11_goesBy_70 : decode cX11_goesBy 70 = .ok (.iand, 1) := by decide +kernel
theorem dX11_goesBy_71 : decode cX11_goesBy 71 = .ok (.istore_n 3, 1) := by decide +kernel
theorem dX11_goesBy_72 : decode cX11_goesBy 72 = .ok (.goto (-43), 3) := by decide +kernel
theorem dX11_goesBy_75 : decode cX11_goesBy 75 = .ok (.iload 4, 2) := by decide +kernel
theorem dX11_goesBy_77 : decode cX11_goesBy 77 = .ok (.ireturn, 1) := by decide +kernel
set_option maxRecDepth 20000 in
theorem ggX11_byOf_X11_asItIs : GoodIn wsX11_byOf wsX11_asItIs := goodIn_r _ [7, 8, 2, 9, 1, 10, 11, 46, 47, 48, 49, 50, 51, 52, 53, 54, 55, 56, 57, 58, 59, 60, 61, 62, 63, 64, 65, 66, 67, 68, 69, 70, 71, 72, 73, 74, 75, 76, 77] (by decide +kernel) (by decide +kernel)
set_option maxRecDepth 20000 in
theorem gX11_byOf_X11_asItIs : GoodIn wsX11_byOf (wsV RX11 121 RX11 yX11_asItIs wsX11_asItIs) := goodIn_app (goodIn_of _ (by decide +kernel)) ggX11_byOf_X11_asItIs
set_option maxRecDepth 20000 in
theorem ggX11_byOf_X11_shutBits : GoodIn wsX11_byOf wsX11_shutBits := goodIn_r _ [15, 16, 17, 18, 19, 6, 20, 21, 46, 47, 48, 49, 50, 51, 52, 53, 54, 55, 56, 57, 58, 59, 60, 61, 62, 63, 64, 65, 66, 67, 68, 69, 70, 71, 72, 73, 74, 75, 76, 77] (by decide +kernel) (by decide +kernel)
set_option maxRecDepth 20000 in
theorem gX11_byOf_X11_shutBits : GoodIn wsX11_byOf (wsV RX11 115 RX11 yX11_shutBits wsX11_shutBits) := goodIn_app (goodIn_of _ (by decide +kernel)) ggX11_byOf_X11_shutBits
set_option maxRecDepth 20000 in
theorem ggX11_byOf_X11_goesBy : GoodIn wsX11_byOf wsX11_goesBy := goodIn_r _ [25, 26, 1, 27, 28, 29, 6, 30, 16, 31, 32, 33, 34, 21, 35, 36, 37, 38, 2, 39, 40, 41, 42, 43, 44, 45, 11, 46, 47, 48, 49, 50, 51, 52, 53, 54, 55, 56, 57, 58, 59, 60, 61, 62, 63, 64, 65, 66, 67, 68, 69, 70, 71, 72, 73, 74, 75, 76, 77] (by decide +kernel) (by decide +kernel)
set_option maxRecDepth 20000 in
theorem gX11_byOf_X11_goesBy : GoodIn wsX11_byOf (wsV RX11 135 RX11 yX11_goesBy wsX11_goesBy) := goodIn_app (goodIn_of _ (by decide +kernel)) ggX11_byOf_X11_goesBy
theorem dX11_byOf_0 : decode cX11_byOf 0 = .ok (.aload_n 0, 1) := by decide +kernel
theorem dX11_byOf_1 : decode cX11_byOf 1 = .ok (.invokevirtual 121, 3) := by decide +kernel
theorem dX11_byOf_4 : decode cX11_byOf 4 = .ok (.aload_n 0, 1) := by decide +kernel
theorem dX11_byOf_5 : decode cX11_byOf 5 = .ok (.aload_n 0, 1) := by decide +kernel
theorem dX11_byOf_6 : decode cX11_byOf 6 = .ok (.invokevirtual 115, 3) := by decide +kernel
theorem dX11_byOf_9 : decode cX11_byOf 9 = .ok (.iload_n 1, 1) := by decide +kernel
theorem dX11_byOf_10 : decode cX11_byOf 10 = .ok (.invokevirtual 135, 3) := by decide +kernel
theorem dX11_byOf_13 : decode cX11_byOf 13 = .ok (.istore_n 3, 1) := by decide +kernel
theorem dX11_byOf_14 : decode cX11_byOf 14 = .ok (.iload_n 2, 1) := by decide +kernel
theorem dX11_byOf_15 : decode cX11_byOf 15 = .ok (.ifCond .ne 7, 3) := by decide +kernel
theorem dX11_byOf_18 : decode cX11_byOf 18 = .ok (.iload_n 3, 1) := by decide +kernel
theorem dX11_byOf_19 : decode cX11_byOf 19 = .ok (.goto 19, 3) := by decide +kernel
theorem dX11_byOf_22 : decode cX11_byOf 22 = .ok (.iload_n 2, 1) := by decide +kernel
theorem dX11_byOf_23 : decode cX11_byOf 23 = .ok (.iconst 1, 1) := by decide +kernel
theorem dX11_byOf_24 : decode cX11_byOf 24 = .ok (.if_icmp .ne 10, 3) := by decide +kernel
theorem dX11_byOf_27 : decode cX11_byOf 27 = .ok (.aload_n 0, 1) := by decide +kernel
theorem dX11_byOf_28 : decode cX11_byOf 28 = .ok (.getfield 105, 3) := by decide +kernel
theorem dX11_byOf_31 : decode cX11_byOf 31 = .ok (.goto 7, 3) := by decide +kernel
theorem dX11_byOf_34 : decode cX11_byOf 34 = .ok (.aload_n 0, 1) := by decide +kernel
theorem dX11_byOf_35 : decode cX11_byOf 35 = .ok (.getfield 102, 3) := by decide +kernel
theorem dX11_byOf_38 : decode cX11_byOf 38 = .ok (.ireturn, 1) := by decide +kernel
set_option maxRecDepth 20000 in
theorem ggX11_by_X11_in : GoodIn wsX11_by wsX11_in := goodIn_r _ [5] (by decide +kernel) (by decide +kernel)
set_option maxRecDepth 20000 in
theorem gX11_by_X11_in : GoodIn wsX11_by (va_wsS RX11 46 yX11_in wsX11_in) := goodIn_app (goodIn_of _ (by decide +kernel)) ggX11_by_X11_in
set_option maxRecDepth 20000 in
theorem ggX11_by_X11_lacks : GoodIn wsX11_by wsX11_lacks := goodIn_r _ [9, 10, 58, 59, 60, 61, 62, 63, 64, 65, 66, 67, 68, 69, 70, 71, 72, 73, 74, 75, 76, 77, 78, 79, 80, 81, 82, 83, 84, 85, 86, 87, 88, 89] (by decide +kernel) (by decide +kernel)
set_option maxRecDepth 20000 in
theorem gX11_by_X11_lacks : GoodIn wsX11_by (wsV RX11 96 RX11 yX11_lacks wsX11_lacks) := goodIn_app (goodIn_of _ (by decide +kernel)) ggX11_by_X11_lacks
set_option maxRecDepth 20000 in
theorem ggX11_by_X11_byOf : GoodIn wsX11_by wsX11_byOf := goodIn_r _ [14, 15, 16, 17, 18, 19, 4, 20, 21, 22, 23, 24, 25, 26, 27, 28, 10, 29, 30, 31, 32, 33, 34, 35, 36, 37, 38, 39, 40, 41, 42, 43, 44, 45, 46, 47, 48, 49, 50, 51, 52, 53, 54, 55, 56, 57, 58, 59, 60, 61, 62, 63, 64, 65, 66, 67, 68, 69, 70, 71, 72, 73, 74, 75, 76, 77, 78, 79, 80, 81, 82, 83, 84, 85, 86, 87, 88, 89] (by decide +kernel) (by decide +kernel)
set_option maxRecDepth 20000 in
theorem gX11_by_X11_byOf : GoodIn wsX11_by (wsV RX11 138 RX11 yX11_byOf wsX11_byOf) := goodIn_app (goodIn_of _ (by decide +kernel)) ggX11_by_X11_byOf
theorem dX11_by_0 : decode cX11_by 0 = .ok (.iload_n 1, 1) := by decide +kernel
theorem dX11_by_1 : decode cX11_by 1 = .ok (.i2l, 1) := by decide +kernel
theorem dX11_by_2 : decode cX11_by 2 = .ok (.lconst 0, 1) := by decide +kernel
theorem dX11_by_3 : decode cX11_by 3 = .ok (.ldc2_w 130, 3) := by decide +kernel
theorem dX11_by_6 : decode cX11_by 6 = .ok (.invokestatic 46, 3) := by decide +kernel
theorem dX11_by_9 : decode cX11_by 9 = .ok (.ifCond .eq 15, 3) := by decide +kernel
theorem dX11_by_12 : decode cX11_by 12 = .ok (.iload_n 2, 1) := by decide +kernel
theorem dX11_by_13 : decode cX11_by 13 = .ok (.i2l, 1) := by decide +kernel
theorem dX11_by_14 : decode cX11_by 14 = .ok (.lconst 0, 1) := by decide +kernel
theorem dX11_by_15 : decode cX11_by 15 = .ok (.ldc2_w 130, 3) := by decide +kernel
theorem dX11_by_18 : decode cX11_by 18 = .ok (.invokestatic 46, 3) := by decide +kernel
theorem dX11_by_21 : decode cX11_by 21 = .ok (.ifCond .ne 6, 3) := by decide +kernel
theorem dX11_by_24 : decode cX11_by 24 = .ok (.bipush (-102), 2) := by decide +kernel
theorem dX11_by_26 : decode cX11_by 26 = .ok (.ireturn, 1) := by decide +kernel
theorem dX11_by_27 : decode cX11_by 27 = .ok (.aload_n 0, 1) := by decide +kernel
theorem dX11_by_28 : decode cX11_by 28 = .ok (.invokevirtual 96, 3) := by decide +kernel
theorem dX11_by_31 : decode cX11_by 31 = .ok (.ifCond .eq 8, 3) := by decide +kernel
theorem dX11_by_34 : decode cX11_by 34 = .ok (.bipush (-103), 2) := by decide +kernel
theorem dX11_by_36 : decode cX11_by 36 = .ok (.goto 9, 3) := by decide +kernel
theorem dX11_by_39 : decode cX11_by 39 = .ok (.aload_n 0, 1) := by decide +kernel
theorem dX11_by_40 : decode cX11_by 40 = .ok (.iload_n 1, 1) := by decide +kernel
theorem dX11_by_41 : decode cX11_by 41 = .ok (.iload_n 2, 1) := by decide +kernel
theorem dX11_by_42 : decode cX11_by 42 = .ok (.invokevirtual 138, 3) := by decide +kernel
theorem dX11_by_45 : decode cX11_by 45 = .ok (.ireturn, 1) := by decide +kernel
theorem dX11_layWho_0 : decode cX11_layWho 0 = .ok (.aload_n 0, 1) := by decide +kernel
theorem dX11_layWho_1 : decode cX11_layWho 1 = .ok (.iconst 0, 1) := by decide +kernel
theorem dX11_layWho_2 : decode cX11_layWho 2 = .ok (.putfield 141, 3) := by decide +kernel
theorem dX11_layWho_5 : decode cX11_layWho 5 = .ok (.iconst 0, 1) := by decide +kernel
theorem dX11_layWho_6 : decode cX11_layWho 6 = .ok (.istore_n 2, 1) := by decide +kernel
theorem dX11_layWho_7 : decode cX11_layWho 7 = .ok (.iload_n 2, 1) := by decide +kernel
theorem dX11_layWho_8 : decode cX11_layWho 8 = .ok (.aload_n 0, 1) := by decide +kernel
theorem dX11_layWho_9 : decode cX11_layWho 9 = .ok (.getfield 67, 3) := by decide +kernel
theorem dX11_layWho_12 : decode cX11_layWho 12 = .ok (.if_icmp .ge 38, 3) := by decide +kernel
theorem dX11_layWho_15 : decode cX11_layWho 15 = .ok (.iload_n 1, 1) := by decide +kernel
theorem dX11_layWho_16 : decode cX11_layWho 16 = .ok (.iload_n 2, 1) := by decide +kernel
theorem dX11_layWho_17 : decode cX11_layWho 17 = .ok (.ishr, 1) := by decide +kernel
theorem dX11_layWho_18 : decode cX11_layWho 18 = .ok (.iconst 1, 1) := by decide +kernel
theorem dX11_layWho_19 : decode cX11_layWho 19 = .ok (.iand, 1) := by decide +kernel
theorem dX11_layWho_20 : decode cX11_layWho 20 = .ok (.iconst 1, 1) := by decide +kernel
theorem dX11_layWho_21 : decode cX11_layWho 21 = .ok (.if_icmp .ne 23, 3) := by decide +kernel
theorem dX11_layWho_24 : decode cX11_layWho 24 = .ok (.aload_n 0, 1) := by decide +kernel
theorem dX11_layWho_25 : decode cX11_layWho 25 = .ok (.getfield 25, 3) := by decide +kernel
theorem dX11_layWho_28 : decode cX11_layWho 28 = .ok (.aload_n 0, 1) := by decide +kernel
theorem dX11_layWho_29 : decode cX11_layWho 29 = .ok (.getfield 141, 3) := by decide +kernel
theorem dX11_layWho_32 : decode cX11_layWho 32 = .ok (.iload_n 2, 1) := by decide +kernel
theorem dX11_layWho_33 : decode cX11_layWho 33 = .ok (.iastore, 1) := by decide +kernel
theorem dX11_layWho_34 : decode cX11_layWho 34 = .ok (.aload_n 0, 1) := by decide +kernel
theorem dX11_layWho_35 : decode cX11_layWho 35 = .ok (.dup, 1) := by decide +kernel
theorem dX11_layWho_36 : decode cX11_layWho 36 = .ok (.getfield 141, 3) := by decide +kernel
theorem dX11_layWho_39 : decode cX11_layWho 39 = .ok (.iconst 1, 1) := by decide +kernel
theorem dX11_layWho_40 : decode cX11_layWho 40 = .ok (.iadd, 1) := by decide +kernel
theorem dX11_layWho_41 : decode cX11_layWho 41 = .ok (.putfield 141, 3) := by decide +kernel
theorem dX11_layWho_44 : decode cX11_layWho 44 = .ok (.iinc 2 1, 3) := by decide +kernel
theorem dX11_layWho_47 : decode cX11_layWho 47 = .ok (.goto (-40), 3) := by decide +kernel
theorem dX11_layWho_50 : decode cX11_layWho 50 = .ok (.return_, 1) := by decide +kernel
theorem dX11_codes_0 : decode cX11_codes 0 = .ok (.iconst 1, 1) := by decide +kernel
theorem dX11_codes_1 : decode cX11_codes 1 = .ok (.istore_n 1, 1) := by decide +kernel
theorem dX11_codes_2 : decode cX11_codes 2 = .ok (.iconst 0, 1) := by decide +kernel
theorem dX11_codes_3 : decode cX11_codes 3 = .ok (.istore_n 2, 1) := by decide +kernel
theorem dX11_codes_4 : decode cX11_codes 4 = .ok (.iload_n 2, 1) := by decide +kernel
theorem dX11_codes_5 : decode cX11_codes 5 = .ok (.aload_n 0, 1) := by decide +kernel
theorem dX11_codes_6 : decode cX11_codes 6 = .ok (.getfield 141, 3) := by decide +kernel
theorem dX11_codes_9 : decode cX11_codes 9 = .ok (.if_icmp .ge 16, 3) := by decide +kernel
theorem dX11_codes_12 : decode cX11_codes 12 = .ok (.iload_n 1, 1) := by decide +kernel
theorem dX11_codes_13 : decode cX11_codes 13 = .ok (.aload_n 0, 1) := by decide +kernel
theorem dX11_codes_14 : decode cX11_codes 14 = .ok (.getfield 141, 3) := by decide +kernel
theorem dX11_codes_17 : decode cX11_codes 17 = .ok (.imul, 1) := by decide +kernel
theorem dX11_codes_18 : decode cX11_codes 18 = .ok (.istore_n 1, 1) := by decide +kernel
theorem dX11_codes_19 : decode cX11_codes 19 = .ok (.iinc 2 1, 3) := by decide +kernel
theorem dX11_codes_22 : decode cX11_codes 22 = .ok (.goto (-18), 3) := by decide +kernel
theorem dX11_codes_25 : decode cX11_codes 25 = .ok (.iload_n 1, 1) := by decide +kernel
theorem dX11_codes_26 : decode cX11_codes 26 = .ok (.ireturn, 1) := by decide +kernel
theorem dX11_isOrder_0 : decode cX11_isOrder 0 = .ok (.iload_n 1, 1) := by decide +kernel
theorem dX11_isOrder_1 : decode cX11_isOrder 1 = .ok (.istore_n 2, 1) := by decide +kernel
theorem dX11_isOrder_2 : decode cX11_isOrder 2 = .ok (.iconst 0, 1) := by decide +kernel
theorem dX11_isOrder_3 : decode cX11_isOrder 3 = .ok (.istore_n 3, 1) := by decide +kernel
theorem dX11_isOrder_4 : decode cX11_isOrder 4 = .ok (.aload_n 0, 1) := by decide +kernel
theorem dX11_isOrder_5 : decode cX11_isOrder 5 = .ok (.getfield 141, 3) := by decide +kernel
theorem dX11_isOrder_8 : decode cX11_isOrder 8 = .ok (.iconst 1, 1) := by decide +kernel
theorem dX11_isOrder_9 : decode cX11_isOrder 9 = .ok (.isub, 1) := by decide +kernel
theorem dX11_isOrder_10 : decode cX11_isOrder 10 = .ok (.istore 4, 2) := by decide +kernel
theorem dX11_isOrder_12 : decode cX11_isOrder 12 = .ok (.iload 4, 2) := by decide +kernel
theorem dX11_isOrder_14 : decode cX11_isOrder 14 = .ok (.ifCond .lt 45, 3) := by decide +kernel
theorem dX11_isOrder_17 : decode cX11_isOrder 17 = .ok (.aload_n 0, 1) := by decide +kernel
theorem dX11_isOrder_18 : decode cX11_isOrder 18 = .ok (.getfield 19, 3) := by decide +kernel
theorem dX11_isOrder_21 : decode cX11_isOrder 21 = .ok (.iload 4, 2) := by decide +kernel
theorem dX11_isOrder_23 : decode cX11_isOrder 23 = .ok (.aload_n 0, 1) := by decide +kernel
theorem dX11_isOrder_24 : decode cX11_isOrder 24 = .ok (.getfield 25, 3) := by decide +kernel
theorem dX11_isOrder_27 : decode cX11_isOrder 27 = .ok (.iload_n 2, 1) := by decide +kernel
theorem dX11_isOrder_28 : decode cX11_isOrder 28 = .ok (.aload_n 0, 1) := by decide +kernel
theorem dX11_isOrder_29 : decode cX11_isOrder 29 = .ok (.getfield 141, 3) := by decide +kernel
theorem dX11_isOrder_32 : decode cX11_isOrder 32 = .ok (.irem, 1) := by decide +kernel
theorem dX11_isOrder_33 : decode cX11_isOrder 33 = .ok (.iaload, 1) := by decide +kernel
theorem dX11_isOrder_34 : decode cX11_isOrder 34 = .ok (.iastore, 1) := by decide +kernel
theorem dX11_isOrder_35 : decode cX11_isOrder 35 = .ok (.iload_n 3, 1) := by decide +kernel
theorem dX11_isOrder_36 : decode cX11_isOrder 36 = .ok (.iconst 1, 1) := by decide +kernel
theorem dX11_isOrder_37 : decode cX11_isOrder 37 = .ok (.iload_n 2, 1) := by decide +kernel
theorem dX11_isOrder_38 : decode cX11_isOrder 38 = .ok (.aload_n 0, 1) := by decide +kernel
theorem dX11_isOrder_39 : decode cX11_isOrder 39 = .ok (.getfield 141, 3) := by decide +kernel
theorem dX11_isOrder_42 : decode cX11_isOrder 42 = .ok (.irem, 1) := by decide +kernel
theorem dX11_isOrder_43 : decode cX11_isOrder 43 = .ok (.ishl, 1) := by decide +kernel
theorem dX11_isOrder_44 : decode cX11_isOrder 44 = .ok (.ior, 1) := by decide +kernel
theorem dX11_isOrder_45 : decode cX11_isOrder 45 = .ok (.istore_n 3, 1) := by decide +kernel
theorem dX11_isOrder_46 : decode cX11_isOrder 46 = .ok (.iload_n 2, 1) := by decide +kernel
theorem dX11_isOrder_47 : decode cX11_isOrder 47 = .ok (.aload_n 0, 1) := by decide +kernel
theorem dX11_isOrder_48 : decode cX11_isOrder 48 = .ok (.getfield 141, 3) := by decide +kernel
theorem dX11_isOrder_51 : decode cX11_isOrder 51 = .ok (.idiv, 1) := by decide +kernel
theorem dX11_isOrder_52 : decode cX11_isOrder 52 = .ok (.istore_n 2, 1) := by decide +kernel
theorem dX11_isOrder_53 : decode cX11_isOrder 53 = .ok (.iinc 4 (-1), 3) := by decide +kernel
theorem dX11_isOrder_56 : decode cX11_isOrder 56 = .ok (.goto (-44), 3) := by decide +kernel
theorem dX11_isOrder_59 : decode cX11_isOrder 59 = .ok (.iload_n 3, 1) := by decide +kernel
theorem dX11_isOrder_60 : decode cX11_isOrder 60 = .ok (.iconst 1, 1) := by decide +kernel
theorem dX11_isOrder_61 : decode cX11_isOrder 61 = .ok (.aload_n 0, 1) := by decide +kernel
theorem dX11_isOrder_62 : decode cX11_isOrder 62 = .ok (.getfield 141, 3) := by decide +kernel
theorem dX11_isOrder_65 : decode cX11_isOrder 65 = .ok (.ishl, 1) := by decide +kernel
theorem dX11_isOrder_66 : decode cX11_isOrder 66 = .ok (.iconst 1, 1) := by decide +kernel
theorem dX11_isOrder_67 : decode cX11_isOrder 67 = .ok (.isub, 1) := by decide +kernel
theorem dX11_isOrder_68 : decode cX11_isOrder 68 = .ok (.if_icmp .ne 7, 3) := by decide +kernel
theorem dX11_isOrder_71 : decode cX11_isOrder 71 = .ok (.iconst 1, 1) := by decide +kernel
theorem dX11_isOrder_72 : decode cX11_isOrder 72 = .ok (.goto 4, 3) := by decide +kernel
theorem dX11_isOrder_75 : decode cX11_isOrder 75 = .ok (.iconst 0, 1) := by decide +kernel
theorem dX11_isOrder_76 : decode cX11_isOrder 76 = .ok (.ireturn, 1) := by decide +kernel
set_option maxRecDepth 20000 in
theorem ggX11_isAllowed_X11_mayOpen : GoodIn wsX11_isAllowed wsX11_mayOpen := goodIn_r _ [7, 8, 9, 10, 11, 12, 13, 14, 15, 16, 17, 18, 19, 20, 21, 22, 23, 24, 25, 26, 27, 28, 29, 30, 31, 32, 33, 34, 35, 36, 37, 38, 39, 40, 41] (by decide +kernel) (by decide +kernel)
set_option maxRecDepth 20000 in
theorem gX11_isAllowed_X11_mayOpen : GoodIn wsX11_isAllowed (wsV RX11 118 RX11 yX11_mayOpen wsX11_mayOpen) := goodIn_app (goodIn_of _ (by decide +kernel)) ggX11_isAllowed_X11_mayOpen
theorem dX11_isAllowed_0 : decode cX11_isAllowed 0 = .ok (.iload_n 1, 1) := by decide +kernel
theorem dX11_isAllowed_1 : decode cX11_isAllowed 1 = .ok (.istore_n 2, 1) := by decide +kernel
theorem dX11_isAllowed_2 : decode cX11_isAllowed 2 = .ok (.iconst 1, 1) := by decide +kernel
theorem dX11_isAllowed_3 : decode cX11_isAllowed 3 = .ok (.istore_n 3, 1) := by decide +kernel
theorem dX11_isAllowed_4 : decode cX11_isAllowed 4 = .ok (.iconst 0, 1) := by decide +kernel
theorem dX11_isAllowed_5 : decode cX11_isAllowed 5 = .ok (.istore 4, 2) := by decide +kernel
theorem dX11_isAllowed_7 : decode cX11_isAllowed 7 = .ok (.iload 4, 2) := by decide +kernel
theorem dX11_isAllowed_9 : decode cX11_isAllowed 9 = .ok (.aload_n 0, 1) := by decide +kernel
theorem dX11_isAllowed_10 : decode cX11_isAllowed 10 = .ok (.getfield 141, 3) := by decide +kernel
theorem dX11_isAllowed_13 : decode cX11_isAllowed 13 = .ok (.if_icmp .ge 52, 3) := by decide +kernel
theorem dX11_isAllowed_16 : decode cX11_isAllowed 16 = .ok (.iload_n 3, 1) := by decide +kernel
theorem dX11_isAllowed_17 : decode cX11_isAllowed 17 = .ok (.ifCond .eq 26, 3) := by decide +kernel
theorem dX11_isAllowed_20 : decode cX11_isAllowed 20 = .ok (.aload_n 0, 1) := by decide +kernel
theorem dX11_isAllowed_21 : decode cX11_isAllowed 21 = .ok (.iload_n 2, 1) := by decide +kernel
theorem dX11_isAllowed_22 : decode cX11_isAllowed 22 = .ok (.invokevirtual 118, 3) := by decide +kernel
theorem dX11_isAllowed_25 : decode cX11_isAllowed 25 = .ok (.aload_n 0, 1) := by decide +kernel
theorem dX11_isAllowed_26 : decode cX11_isAllowed 26 = .ok (.getfield 19, 3) := by decide +kernel
theorem dX11_isAllowed_29 : decode cX11_isAllowed 29 = .ok (.iload 4, 2) := by decide +kernel
theorem dX11_isAllowed_31 : decode cX11_isAllowed 31 = .ok (.iaload, 1) := by decide +kernel
theorem dX11_isAllowed_32 : decode cX11_isAllowed 32 = .ok (.ishr, 1) := by decide +kernel
theorem dX11_isAllowed_33 : decode cX11_isAllowed 33 = .ok (.iconst 1, 1) := by decide +kernel
theorem dX11_isAllowed_34 : decode cX11_isAllowed 34 = .ok (.iand, 1) := by decide +kernel
theorem dX11_isAllowed_35 : decode cX11_isAllowed 35 = .ok (.iconst 1, 1) := by decide +kernel
theorem dX11_isAllowed_36 : decode cX11_isAllowed 36 = .ok (.if_icmp .ne 7, 3) := by decide +kernel
theorem dX11_isAllowed_39 : decode cX11_isAllowed 39 = .ok (.iconst 1, 1) := by decide +kernel
theorem dX11_isAllowed_40 : decode cX11_isAllowed 40 = .ok (.goto 4, 3) := by decide +kernel
theorem dX11_isAllowed_43 : decode cX11_isAllowed 43 = .ok (.iconst 0, 1) := by decide +kernel
theorem dX11_isAllowed_44 : decode cX11_isAllowed 44 = .ok (.istore_n 3, 1) := by decide +kernel
theorem dX11_isAllowed_45 : decode cX11_isAllowed 45 = .ok (.iload_n 2, 1) := by decide +kernel
theorem dX11_isAllowed_46 : decode cX11_isAllowed 46 = .ok (.iconst 1, 1) := by decide +kernel
theorem dX11_isAllowed_47 : decode cX11_isAllowed 47 = .ok (.aload_n 0, 1) := by decide +kernel
theorem dX11_isAllowed_48 : decode cX11_isAllowed 48 = .ok (.getfield 19, 3) := by decide +kernel
theorem dX11_isAllowed_51 : decode cX11_isAllowed 51 = .ok (.iload 4, 2) := by decide +kernel
theorem dX11_isAllowed_53 : decode cX11_isAllowed 53 = .ok (.iaload, 1) := by decide +kernel
theorem dX11_isAllowed_54 : decode cX11_isAllowed 54 = .ok (.ishl, 1) := by decide +kernel
theorem dX11_isAllowed_55 : decode cX11_isAllowed 55 = .ok (.iconst (-1), 1) := by decide +kernel
theorem dX11_isAllowed_56 : decode cX11_isAllowed 56 = .ok (.ixor, 1) := by decide +kernel
theorem dX11_isAllowed_57 : decode cX11_isAllowed 57 = .ok (.iand, 1) := by decide +kernel
theorem dX11_isAllowed_58 : decode cX11_isAllowed 58 = .ok (.istore_n 2, 1) := by decide +kernel
theorem dX11_isAllowed_59 : decode cX11_isAllowed 59 = .ok (.iinc 4 1, 3) := by decide +kernel
theorem dX11_isAllowed_62 : decode cX11_isAllowed 62 = .ok (.goto (-55), 3) := by decide +kernel
theorem dX11_isAllowed_65 : decode cX11_isAllowed 65 = .ok (.iload_n 3, 1) := by decide +kernel
theorem dX11_isAllowed_66 : decode cX11_isAllowed 66 = .ok (.ireturn, 1) := by decide +kernel
set_option maxRecDepth 20000 in
theorem ggX11_layBest_X11_shutBits : GoodIn wsX11_layBest wsX11_shutBits := goodIn_r _ [15, 16, 17, 18, 19, 14, 20, 21, 53, 54, 55, 56, 57, 58, 59, 60, 61, 62, 63, 64, 65, 66, 67, 68, 69, 70, 71, 72, 73, 74, 75, 76, 77, 78, 79, 80, 81, 82, 83, 84] (by decide +kernel) (by decide +kernel)
set_option maxRecDepth 20000 in
theorem gX11_layBest_X11_shutBits : GoodIn wsX11_layBest (wsV RX11 115 RX11 yX11_shutBits wsX11_shutBits) := goodIn_app (goodIn_of _ (by decide +kernel)) ggX11_layBest_X11_shutBits
set_option maxRecDepth 20000 in
theorem ggX11_layBest_X11_layWho : GoodIn wsX11_layBest wsX11_layWho := goodIn_r _ [25, 8, 16, 26, 53, 54, 55, 56, 57, 58, 59, 60, 61, 62, 63, 64, 65, 66, 67, 68, 69, 70, 71, 72, 73, 74, 75, 76, 77, 78, 79, 80, 81, 82, 83, 84] (by decide +kernel) (by decide +kernel)
set_option maxRecDepth 20000 in
theorem gX11_layBest_X11_layWho : GoodIn wsX11_layBest (wsV RX11 144 RX11 yX11_layWho wsX11_layWho) := goodIn_app (goodIn_of _ (by decide +kernel)) ggX11_layBest_X11_layWho
set_option maxRecDepth 20000 in
theorem ggX11_layBest_X11_codes : GoodIn wsX11_layBest wsX11_codes := goodIn_r _ [30, 8, 53, 54, 55, 56, 57, 58, 59, 60, 61, 62, 63, 64, 65, 66, 67, 68, 69, 70, 71, 72, 73, 74, 75, 76, 77, 78, 79, 80, 81, 82, 83, 84] (by decide +kernel) (by decide +kernel)
set_option maxRecDepth 20000 in
theorem gX11_layBest_X11_codes : GoodIn wsX11_layBest (wsV RX11 157 RX11 yX11_codes wsX11_codes) := goodIn_app (goodIn_of _ (by decide +kernel)) ggX11_layBest_X11_codes
set_option maxRecDepth 20000 in
theorem ggX11_layBest_X11_isOrder : GoodIn wsX11_layBest wsX11_isOrder := goodIn_r _ [34, 8, 9, 26, 53, 54, 55, 56, 57, 58, 59, 60, 61, 62, 63, 64, 65, 66, 67, 68, 69, 70, 71, 72, 73, 74, 75, 76, 77, 78, 79, 80, 81, 82, 83, 84] (by decide +kernel) (by decide +kernel)
set_option maxRecDepth 20000 in
theorem gX11_layBest_X11_isOrder : GoodIn wsX11_layBest (wsV RX11 160 RX11 yX11_isOrder wsX11_isOrder) := goodIn_app (goodIn_of _ (by decide +kernel)) ggX11_layBest_X11_isOrder
set_option maxRecDepth 20000 in
theorem ggX11_layBest_X11_isAllowed : GoodIn wsX11_layBest wsX11_isAllowed := goodIn_r _ [38, 8, 9, 39, 40, 41, 14, 42, 16, 21, 53, 54, 55, 56, 57, 58, 59, 60, 61, 62, 63, 64, 65, 66, 67, 68, 69, 70, 71, 72, 73, 74, 75, 76, 77, 78, 79, 80, 81, 82, 83, 84] (by decide +kernel) (by decide +kernel)
set_option maxRecDepth 20000 in
theorem gX11_layBest_X11_isAllowed : GoodIn wsX11_layBest (wsV RX11 163 RX11 yX11_isAllowed wsX11_isAllowed) := goodIn_app (goodIn_of _ (by decide +kernel)) ggX11_layBest_X11_isAllowed
set_option maxRecDepth 20000 in
theorem ggX11_layBest_X11_opens : GoodIn wsX11_layBest wsX11_opens := goodIn_r _ [46, 21, 7, 6, 5, 47, 48, 14, 49, 53, 54, 55, 56, 57, 58, 59, 60, 61, 62, 63, 64, 65, 66, 67, 68, 69, 70, 71, 72, 73, 74, 75, 76, 77, 78, 79, 80, 81, 82, 83, 84] (by decide +kernel) (by decide +kernel)
set_option maxRecDepth 20000 in
theorem gX11_layBest_X11_opens : GoodIn wsX11_layBest (wsV RX11 124 RX11 yX11_opens wsX11_opens) := goodIn_app (goodIn_of _ (by decide +kernel)) ggX11_layBest_X11_opens
set_option maxRecDepth 20000 in
theorem ggX11_layBest_X11_copy : GoodIn wsX11_layBest wsX11_copy := goodIn_r _ [52] (by decide +kernel) (by decide +kernel)
set_option maxRecDepth 20000 in
theorem gX11_layBest_X11_copy : GoodIn wsX11_layBest (va_wsS RX11 166 yX11_copy wsX11_copy) := goodIn_app (goodIn_of _ (by decide +kernel)) ggX11_layBest_X11_copy
theorem dX11_layBest_0 : decode cX11_layBest 0 = .ok (.aload_n 0, 1) := by decide +kernel
theorem dX11_layBest_1 : decode cX11_layBest 1 = .ok (.invokevirtual 115, 3) := by decide +kernel
theorem dX11_layBest_4 : decode cX11_layBest 4 = .ok (.istore_n 3, 1) := by decide +kernel
theorem dX11_layBest_5 : decode cX11_layBest 5 = .ok (.aload_n 0, 1) := by decide +kernel
theorem dX11_layBest_6 : decode cX11_layBest 6 = .ok (.iload_n 3, 1) := by decide +kernel
theorem dX11_layBest_7 : decode cX11_layBest 7 = .ok (.invokevirtual 144, 3) := by decide +kernel
theorem dX11_layBest_10 : decode cX11_layBest 10 = .ok (.aload_n 0, 1) := by decide +kernel
theorem dX11_layBest_11 : decode cX11_layBest 11 = .ok (.iconst (-1), 1) := by decide +kernel
theorem dX11_layBest_12 : decode cX11_layBest 12 = .ok (.putfield 148, 3) := by decide +kernel
theorem dX11_layBest_15 : decode cX11_layBest 15 = .ok (.aload_n 0, 1) := by decide +kernel
theorem dX11_layBest_16 : decode cX11_layBest 16 = .ok (.aload_n 0, 1) := by decide +kernel
theorem dX11_layBest_17 : decode cX11_layBest 17 = .ok (.getfield 76, 3) := by decide +kernel
theorem dX11_layBest_20 : decode cX11_layBest 20 = .ok (.putfield 151, 3) := by decide +kernel
theorem dX11_layBest_23 : decode cX11_layBest 23 = .ok (.aload_n 0, 1) := by decide +kernel
theorem dX11_layBest_24 : decode cX11_layBest 24 = .ok (.iconst (-1), 1) := by decide +kernel
theorem dX11_layBest_25 : decode cX11_layBest 25 = .ok (.putfield 154, 3) := by decide +kernel
theorem dX11_layBest_28 : decode cX11_layBest 28 = .ok (.iconst 0, 1) := by decide +kernel
theorem dX11_layBest_29 : decode cX11_layBest 29 = .ok (.istore 4, 2) := by decide +kernel
theorem dX11_layBest_31 : decode cX11_layBest 31 = .ok (.iload 4, 2) := by decide +kernel
theorem dX11_layBest_33 : decode cX11_layBest 33 = .ok (.aload_n 0, 1) := by decide +kernel
theorem dX11_layBest_34 : decode cX11_layBest 34 = .ok (.invokevirtual 157, 3) := by decide +kernel
theorem dX11_layBest_37 : decode cX11_layBest 37 = .ok (.if_icmp .ge 177, 3) := by decide +kernel
theorem dX11_layBest_40 : decode cX11_layBest 40 = .ok (.aload_n 0, 1) := by decide +kernel
theorem dX11_layBest_41 : decode cX11_layBest 41 = .ok (.iload 4, 2) := by decide +kernel
theorem dX11_layBest_43 : decode cX11_layBest 43 = .ok (.invokevirtual 160, 3) := by decide +kernel
theorem dX11_layBest_46 : decode cX11_layBest 46 = .ok (.ifCond .eq 162, 3) := by decide +kernel
theorem dX11_layBest_49 : decode cX11_layBest 49 = .ok (.aload_n 0, 1) := by decide +kernel
theorem dX11_layBest_50 : decode cX11_layBest 50 = .ok (.iload_n 3, 1) := by decide +kernel
theorem dX11_layBest_51 : decode cX11_layBest 51 = .ok (.invokevirtual 163, 3) := by decide +kernel
theorem dX11_layBest_54 : decode cX11_layBest 54 = .ok (.ifCond .eq 154, 3) := by decide +kernel
theorem dX11_layBest_57 : decode cX11_layBest 57 = .ok (.aload_n 0, 1) := by decide +kernel
theorem dX11_layBest_58 : decode cX11_layBest 58 = .ok (.iload_n 1, 1) := by decide +kernel
theorem dX11_layBest_59 : decode cX11_layBest 59 = .ok (.putfield 102, 3) := by decide +kernel
theorem dX11_layBest_62 : decode cX11_layBest 62 = .ok (.aload_n 0, 1) := by decide +kernel
theorem dX11_layBest_63 : decode cX11_layBest 63 = .ok (.aload_n 0, 1) := by decide +kernel
theorem dX11_layBest_64 : decode cX11_layBest 64 = .ok (.getfield 76, 3) := by decide +kernel
theorem dX11_layBest_67 : decode cX11_layBest 67 = .ok (.putfield 105, 3) := by decide +kernel
theorem dX11_layBest_70 : decode cX11_layBest 70 = .ok (.aload_n 0, 1) := by decide +kernel
theorem dX11_layBest_71 : decode cX11_layBest 71 = .ok (.iload_n 2, 1) := by decide +kernel
theorem dX11_layBest_72 : decode cX11_layBest 72 = .ok (.putfield 108, 3) := by decide +kernel
theorem dX11_layBest_75 : decode cX11_layBest 75 = .ok (.iconst 0, 1) := by decide +kernel
theorem dX11_layBest_76 : decode cX11_layBest 76 = .ok (.istore 5, 2) := by decide +kernel
theorem dX11_layBest_78 : decode cX11_layBest 78 = .ok (.iconst 0, 1) := by decide +kernel
theorem dX11_layBest_79 : decode cX11_layBest 79 = .ok (.istore 6, 2) := by decide +kernel
theorem dX11_layBest_81 : decode cX11_layBest 81 = .ok (.iload 6, 2) := by decide +kernel
theorem dX11_layBest_83 : decode cX11_layBest 83 = .ok (.aload_n 0, 1) := by decide +kernel
theorem dX11_layBest_84 : decode cX11_layBest 84 = .ok (.getfield 141, 3) := by decide +kernel
theorem dX11_layBest_87 : decode cX11_layBest 87 = .ok (.if_icmp .ge 25, 3) := by decide +kernel
theorem dX11_layBest_90 : decode cX11_layBest 90 = .ok (.iload 5, 2) := by decide +kernel
theorem dX11_layBest_92 : decode cX11_layBest 92 = .ok (.aload_n 0, 1) := by decide +kernel
theorem dX11_layBest_93 : decode cX11_layBest 93 = .ok (.aload_n 0, 1) := by decide +kernel
theorem dX11_layBest_94 : decode cX11_layBest 94 = .ok (.getfield 19, 3) := by decide +kernel
theorem dX11_layBest_97 : decode cX11_layBest 97 = .ok (.iload 6, 2) := by decide +kernel
theorem dX11_layBest_99 : decode cX11_layBest 99 = .ok (.iaload, 1) := by decide +kernel
theorem dX11_layBest_100 : decode cX11_layBest 100 = .ok (.invokevirtual 124, 3) := by decide +kernel
theorem dX11_layBest_103 : decode cX11_layBest 103 = .ok (.iadd, 1) := by decide +kernel
theorem dX11_layBest_104 : decode cX11_layBest 104 = .ok (.istore 5, 2) := by decide +kernel
theorem dX11_layBest_106 : decode cX11_layBest 106 = .ok (.iinc 6 1, 3) := by decide +kernel
theorem dX11_layBest_109 : decode cX11_layBest 109 = .ok (.goto (-28), 3) := by decide +kernel
theorem dX11_layBest_112 : decode cX11_layBest 112 = .ok (.aload_n 0, 1) := by decide +kernel
theorem dX11_layBest_113 : decode cX11_layBest 113 = .ok (.aload_n 0, 1) := by decide +kernel
theorem dX11_layBest_114 : decode cX11_layBest 114 = .ok (.getfield 154, 3) := by decide +kernel
theorem dX11_layBest_117 : decode cX11_layBest 117 = .ok (.iconst (-1), 1) := by decide +kernel
theorem dX11_layBest_118 : decode cX11_layBest 118 = .ok (.if_icmp .eq 14, 3) := by decide +kernel
theorem dX11_layBest_121 : decode cX11_layBest 121 = .ok (.aload_n 0, 1) := by decide +kernel
theorem dX11_layBest_122 : decode cX11_layBest 122 = .ok (.getfield 105, 3) := by decide +kernel
theorem dX11_layBest_125 : decode cX11_layBest 125 = .ok (.aload_n 0, 1) := by decide +kernel
theorem dX11_layBest_126 : decode cX11_layBest 126 = .ok (.getfield 154, 3) := by decide +kernel
theorem dX11_layBest_129 : decode cX11_layBest 129 = .ok (.if_icmp .ge 10, 3) := by decide +kernel
theorem dX11_layBest_132 : decode cX11_layBest 132 = .ok (.aload_n 0, 1) := by decide +kernel
theorem dX11_layBest_133 : decode cX11_layBest 133 = .ok (.getfield 105, 3) := by decide +kernel
theorem dX11_layBest_136 : decode cX11_layBest 136 = .ok (.goto 7, 3) := by decide +kernel
theorem dX11_layBest_139 : decode cX11_layBest 139 = .ok (.aload_n 0, 1) := by decide +kernel
theorem dX11_layBest_140 : decode cX11_layBest 140 = .ok (.getfield 154, 3) := by decide +kernel
theorem dX11_layBest_143 : decode cX11_layBest 143 = .ok (.putfield 154, 3) := by decide +kernel
theorem dX11_layBest_146 : decode cX11_layBest 146 = .ok (.aload_n 0, 1) := by decide +kernel
theorem dX11_layBest_147 : decode cX11_layBest 147 = .ok (.getfield 148, 3) := by decide +kernel
theorem dX11_layBest_150 : decode cX11_layBest 150 = .ok (.iconst (-1), 1) := by decide +kernel
theorem dX11_layBest_151 : decode cX11_layBest 151 = .ok (.if_icmp .eq 32, 3) := by decide +kernel
theorem dX11_layBest_154 : decode cX11_layBest 154 = .ok (.iload 5, 2) := by decide +kernel
theorem dX11_layBest_156 : decode cX11_layBest 156 = .ok (.aload_n 0, 1) := by decide +kernel
theorem dX11_layBest_157 : decode cX11_layBest 157 = .ok (.getfield 148, 3) := by decide +kernel
theorem dX11_layBest_160 : decode cX11_layBest 160 = .ok (.if_icmp .lt 23, 3) := by decide +kernel
theorem dX11_layBest_163 : decode cX11_layBest 163 = .ok (.iload 5, 2) := by decide +kernel
theorem dX11_layBest_165 : decode cX11_layBest 165 = .ok (.aload_n 0, 1) := by decide +kernel
theorem dX11_layBest_166 : decode cX11_layBest 166 = .ok (.getfield 148, 3) := by decide +kernel
theorem dX11_layBest_169 : decode cX11_layBest 169 = .ok (.if_icmp .ne 39, 3) := by decide +kernel
theorem dX11_layBest_172 : decode cX11_layBest 172 = .ok (.aload_n 0, 1) := by decide +kernel
theorem dX11_layBest_173 : decode cX11_layBest 173 = .ok (.getfield 105, 3) := by decide +kernel
theorem dX11_layBest_176 : decode cX11_layBest 176 = .ok (.aload_n 0, 1) := by decide +kernel
theorem dX11_layBest_177 : decode cX11_layBest 177 = .ok (.getfield 151, 3) := by decide +kernel
theorem dX11_layBest_180 : decode cX11_layBest 180 = .ok (.if_icmp .ge 28, 3) := by decide +kernel
theorem dX11_layBest_183 : decode cX11_layBest 183 = .ok (.aload_n 0, 1) := by decide +kernel
theorem dX11_layBest_184 : decode cX11_layBest 184 = .ok (.iload 5, 2) := by decide +kernel
theorem dX11_layBest_186 : decode cX11_layBest 186 = .ok (.putfield 148, 3) := by decide +kernel
theorem dX11_layBest_189 : decode cX11_layBest 189 = .ok (.aload_n 0, 1) := by decide +kernel
theorem dX11_layBest_190 : decode cX11_layBest 190 = .ok (.aload_n 0, 1) := by decide +kernel
theorem dX11_layBest_191 : decode cX11_layBest 191 = .ok (.getfield 105, 3) := by decide +kernel
theorem dX11_layBest_194 : decode cX11_layBest 194 = .ok (.putfield 151, 3) := by decide +kernel
theorem dX11_layBest_197 : decode cX11_layBest 197 = .ok (.aload_n 0, 1) := by decide +kernel
theorem dX11_layBest_198 : decode cX11_layBest 198 = .ok (.getfield 19, 3) := by decide +kernel
theorem dX11_layBest_201 : decode cX11_layBest 201 = .ok (.aload_n 0, 1) := by decide +kernel
theorem dX11_layBest_202 : decode cX11_layBest 202 = .ok (.getfield 22, 3) := by decide +kernel
theorem dX11_layBest_205 : decode cX11_layBest 205 = .ok (.invokestatic 166, 3) := by decide +kernel
theorem dX11_layBest_208 : decode cX11_layBest 208 = .ok (.iinc 4 1, 3) := by decide +kernel
theorem dX11_layBest_211 : decode cX11_layBest 211 = .ok (.goto (-180), 3) := by decide +kernel
theorem dX11_layBest_214 : decode cX11_layBest 214 = .ok (.return_, 1) := by decide +kernel
set_option maxRecDepth 20000 in
theorem ggX11_tellBest_X11_layBest : GoodIn wsX11_tellBest wsX11_layBest := goodIn_r _ [11, 3, 12, 4, 13, 14, 15, 16, 5, 17, 6, 18, 19, 20, 10, 21, 22, 23, 24, 25, 26, 27, 28, 29, 30, 31, 32, 33, 34, 35, 36, 37, 38, 39, 40, 41, 42, 43, 44, 45, 46, 47, 48, 49, 50, 51, 52, 53, 54, 55, 56, 57, 58, 59, 60, 61, 62, 63, 64, 65, 66, 67, 68, 69, 70, 71, 72, 73, 74, 75, 76, 77, 78, 79, 80, 81, 82, 83, 84, 85, 86, 87, 88, 89, 90] (by decide +kernel) (by decide +kernel)
set_option maxRecDepth 20000 in
theorem gX11_tellBest_X11_layBest : GoodIn wsX11_tellBest (wsV RX11 170 RX11 yX11_layBest wsX11_layBest) := goodIn_app (goodIn_of _ (by decide +kernel)) ggX11_tellBest_X11_layBest
theorem dX11_tellBest_0 : decode cX11_tellBest 0 = .ok (.aload_n 0, 1) := by decide +kernel
theorem dX11_tellBest_1 : decode cX11_tellBest 1 = .ok (.aload_n 0, 1) := by decide +kernel
theorem dX11_tellBest_2 : decode cX11_tellBest 2 = .ok (.getfield 70, 3) := by decide +kernel
theorem dX11_tellBest_5 : decode cX11_tellBest 5 = .ok (.aload_n 0, 1) := by decide +kernel
theorem dX11_tellBest_6 : decode cX11_tellBest 6 = .ok (.getfield 73, 3) := by decide +kernel
theorem dX11_tellBest_9 : decode cX11_tellBest 9 = .ok (.invokevirtual 170, 3) := by decide +kernel
theorem dX11_tellBest_12 : decode cX11_tellBest 12 = .ok (.iload_n 1, 1) := by decide +kernel
theorem dX11_tellBest_13 : decode cX11_tellBest 13 = .ok (.ifCond .ne 10, 3) := by decide +kernel
theorem dX11_tellBest_16 : decode cX11_tellBest 16 = .ok (.aload_n 0, 1) := by decide +kernel
theorem dX11_tellBest_17 : decode cX11_tellBest 17 = .ok (.getfield 148, 3) := by decide +kernel
theorem dX11_tellBest_20 : decode cX11_tellBest 20 = .ok (.goto 39, 3) := by decide +kernel
theorem dX11_tellBest_23 : decode cX11_tellBest 23 = .ok (.iload_n 1, 1) := by decide +kernel
theorem dX11_tellBest_24 : decode cX11_tellBest 24 = .ok (.iconst 1, 1) := by decide +kernel
theorem dX11_tellBest_25 : decode cX11_tellBest 25 = .ok (.if_icmp .ne 10, 3) := by decide +kernel
theorem dX11_tellBest_28 : decode cX11_tellBest 28 = .ok (.aload_n 0, 1) := by decide +kernel
theorem dX11_tellBest_29 : decode cX11_tellBest 29 = .ok (.getfield 151, 3) := by decide +kernel
theorem dX11_tellBest_32 : decode cX11_tellBest 32 = .ok (.goto 27, 3) := by decide +kernel
theorem dX11_tellBest_35 : decode cX11_tellBest 35 = .ok (.iload_n 1, 1) := by decide +kernel
theorem dX11_tellBest_36 : decode cX11_tellBest 36 = .ok (.bipush 10, 2) := by decide +kernel
theorem dX11_tellBest_38 : decode cX11_tellBest 38 = .ok (.isub, 1) := by decide +kernel
theorem dX11_tellBest_39 : decode cX11_tellBest 39 = .ok (.aload_n 0, 1) := by decide +kernel
theorem dX11_tellBest_40 : decode cX11_tellBest 40 = .ok (.getfield 141, 3) := by decide +kernel
theorem dX11_tellBest_43 : decode cX11_tellBest 43 = .ok (.if_icmp .ge 15, 3) := by decide +kernel
theorem dX11_tellBest_46 : decode cX11_tellBest 46 = .ok (.aload_n 0, 1) := by decide +kernel
theorem dX11_tellBest_47 : decode cX11_tellBest 47 = .ok (.getfield 22, 3) := by decide +kernel
theorem dX11_tellBest_50 : decode cX11_tellBest 50 = .ok (.iload_n 1, 1) := by decide +kernel
theorem dX11_tellBest_51 : decode cX11_tellBest 51 = .ok (.bipush 10, 2) := by decide +kernel
theorem dX11_tellBest_53 : decode cX11_tellBest 53 = .ok (.isub, 1) := by decide +kernel
theorem dX11_tellBest_54 : decode cX11_tellBest 54 = .ok (.iaload, 1) := by decide +kernel
theorem dX11_tellBest_55 : decode cX11_tellBest 55 = .ok (.goto 4, 3) := by decide +kernel
theorem dX11_tellBest_58 : decode cX11_tellBest 58 = .ok (.iconst (-1), 1) := by decide +kernel
theorem dX11_tellBest_59 : decode cX11_tellBest 59 = .ok (.ireturn, 1) := by decide +kernel
set_option maxRecDepth 20000 in
theorem ggX11_best_X11_in : GoodIn wsX11_best wsX11_in := goodIn_r _ [6] (by decide +kernel) (by decide +kernel)
set_option maxRecDepth 20000 in
theorem gX11_best_X11_in : GoodIn wsX11_best (va_wsS RX11 46 yX11_in wsX11_in) := goodIn_app (goodIn_of _ (by decide +kernel)) ggX11_best_X11_in
set_option maxRecDepth 20000 in
theorem ggX11_best_X11_lacks : GoodIn wsX11_best wsX11_lacks := goodIn_r _ [10, 11, 72, 73, 74, 75, 76, 77, 78, 79, 80, 81, 82, 83, 84, 85, 86, 87, 88, 89, 90, 91, 92, 93, 94, 95, 96, 97, 98, 99, 100, 101, 102, 103] (by decide +kernel) (by decide +kernel)
set_option maxRecDepth 20000 in
theorem gX11_best_X11_lacks : GoodIn wsX11_best (wsV RX11 96 RX11 yX11_lacks wsX11_lacks) := goodIn_app (goodIn_of _ (by decide +kernel)) ggX11_best_X11_lacks
set_option maxRecDepth 20000 in
theorem ggX11_best_X11_tellBest : GoodIn wsX11_best wsX11_tellBest := goodIn_r _ [15, 16, 17, 18, 19, 20, 21, 22, 23, 24, 5, 25, 26, 27, 28, 29, 30, 31, 32, 33, 34, 35, 11, 36, 37, 38, 39, 40, 41, 42, 43, 44, 45, 46, 47, 48, 49, 50, 51, 52, 53, 54, 55, 56, 57, 58, 59, 60, 61, 62, 63, 64, 65, 66, 67, 68, 69, 70, 71, 72, 73, 74, 75, 76, 77, 78, 79, 80, 81, 82, 83, 84, 85, 86, 87, 88, 89, 90, 91, 92, 93, 94, 95, 96, 97, 98, 99, 100, 101, 102, 103] (by decide +kernel) (by decide +kernel)
set_option maxRecDepth 20000 in
theorem gX11_best_X11_tellBest : GoodIn wsX11_best (wsV RX11 178 RX11 yX11_tellBest wsX11_tellBest) := goodIn_app (goodIn_of _ (by decide +kernel)) ggX11_best_X11_tellBest
theorem dX11_best_0 : decode cX11_best 0 = .ok (.iload_n 1, 1) := by decide +kernel
theorem dX11_best_1 : decode cX11_best 1 = .ok (.i2l, 1) := by decide +kernel
theorem dX11_best_2 : decode cX11_best 2 = .ok (.lconst 0, 1) := by decide +kernel
theorem dX11_best_3 : decode cX11_best 3 = .ok (.lconst 1, 1) := by decide +kernel
theorem dX11_best_4 : decode cX11_best 4 = .ok (.invokestatic 46, 3) := by decide +kernel
theorem dX11_best_7 : decode cX11_best 7 = .ok (.ifCond .ne 20, 3) := by decide +kernel
theorem dX11_best_10 : decode cX11_best 10 = .ok (.iload_n 1, 1) := by decide +kernel
theorem dX11_best_11 : decode cX11_best 11 = .ok (.i2l, 1) := by decide +kernel
theorem dX11_best_12 : decode cX11_best 12 = .ok (.ldc2_w 174, 3) := by decide +kernel
theorem dX11_best_15 : decode cX11_best 15 = .ok (.ldc2_w 176, 3) := by decide +kernel
theorem dX11_best_18 : decode cX11_best 18 = .ok (.invokestatic 46, 3) := by decide +kernel
theorem dX11_best_21 : decode cX11_best 21 = .ok (.ifCond .ne 6, 3) := by decide +kernel
theorem dX11_best_24 : decode cX11_best 24 = .ok (.bipush (-102), 2) := by decide +kernel
theorem dX11_best_26 : decode cX11_best 26 = .ok (.ireturn, 1) := by decide +kernel
theorem dX11_best_27 : decode cX11_best 27 = .ok (.aload_n 0, 1) := by decide +kernel
theorem dX11_best_28 : decode cX11_best 28 = .ok (.invokevirtual 96, 3) := by decide +kernel
theorem dX11_best_31 : decode cX11_best 31 = .ok (.ifCond .eq 8, 3) := by decide +kernel
theorem dX11_best_34 : decode cX11_best 34 = .ok (.bipush (-103), 2) := by decide +kernel
theorem dX11_best_36 : decode cX11_best 36 = .ok (.goto 8, 3) := by decide +kernel
theorem dX11_best_39 : decode cX11_best 39 = .ok (.aload_n 0, 1) := by decide +kernel
theorem dX11_best_40 : decode cX11_best 40 = .ok (.iload_n 1, 1) := by decide +kernel
theorem dX11_best_41 : decode cX11_best 41 = .ok (.invokevirtual 178, 3) := by decide +kernel
theorem dX11_best_44 : decode cX11_best 44 = .ok (.ireturn, 1) := by decide +kernel
set_option maxRecDepth 20000 in
theorem ggX11_shortestOf_X11_layBest : GoodIn wsX11_shortestOf wsX11_layBest := goodIn_r _ [8, 9, 10, 11, 3, 12, 13, 14, 15, 16, 17, 18, 19, 20, 7, 21, 22, 23, 24, 25, 26, 27, 28, 29, 30, 31, 32, 33, 34, 35, 36, 37, 38, 39, 40, 41, 42, 43, 44, 45, 46, 47, 48, 49, 50, 51, 52, 53, 54, 55, 56, 57, 58, 59, 60, 61, 62, 63, 64, 65, 66, 67, 68, 69, 70, 71, 72, 73, 74, 75, 76, 77, 78, 79, 80, 81, 82, 83, 84, 85, 86, 87, 88, 89, 90] (by decide +kernel) (by decide +kernel)
set_option maxRecDepth 20000 in
theorem gX11_shortestOf_X11_layBest : GoodIn wsX11_shortestOf (wsV RX11 170 RX11 yX11_layBest wsX11_layBest) := goodIn_app (goodIn_of _ (by decide +kernel)) ggX11_shortestOf_X11_layBest
theorem dX11_shortestOf_0 : decode cX11_shortestOf 0 = .ok (.aload_n 0, 1) := by decide +kernel
theorem dX11_shortestOf_1 : decode cX11_shortestOf 1 = .ok (.aload_n 0, 1) := by decide +kernel
theorem dX11_shortestOf_2 : decode cX11_shortestOf 2 = .ok (.getfield 70, 3) := by decide +kernel
theorem dX11_shortestOf_5 : decode cX11_shortestOf 5 = .ok (.aload_n 0, 1) := by decide +kernel
theorem dX11_shortestOf_6 : decode cX11_shortestOf 6 = .ok (.getfield 73, 3) := by decide +kernel
theorem dX11_shortestOf_9 : decode cX11_shortestOf 9 = .ok (.invokevirtual 170, 3) := by decide +kernel
theorem dX11_shortestOf_12 : decode cX11_shortestOf 12 = .ok (.aload_n 0, 1) := by decide +kernel
theorem dX11_shortestOf_13 : decode cX11_shortestOf 13 = .ok (.getfield 154, 3) := by decide +kernel
theorem dX11_shortestOf_16 : decode cX11_shortestOf 16 = .ok (.ireturn, 1) := by decide +kernel
set_option maxRecDepth 20000 in
theorem ggX11_shortest_X11_lacks : GoodIn wsX11_shortest wsX11_lacks := goodIn_r _ [5, 6, 67, 68, 69, 70, 71, 72, 73, 74, 75, 76, 77, 78, 79, 80, 81, 82, 83, 84, 85, 86, 87, 88, 89, 90, 91, 92, 93, 94, 95, 96, 97, 98] (by decide +kernel) (by decide +kernel)
set_option maxRecDepth 20000 in
theorem gX11_shortest_X11_lacks : GoodIn wsX11_shortest (wsV RX11 96 RX11 yX11_lacks wsX11_lacks) := goodIn_app (goodIn_of _ (by decide +kernel)) ggX11_shortest_X11_lacks
set_option maxRecDepth 20000 in
theorem ggX11_shortest_X11_shortestOf : GoodIn wsX11_shortest wsX11_shortestOf := goodIn_r _ [10, 11, 12, 13, 14, 15, 16, 4, 17, 18, 19, 20, 21, 22, 23, 24, 25, 26, 27, 28, 29, 30, 6, 31, 32, 33, 34, 35, 36, 37, 38, 39, 40, 41, 42, 43, 44, 45, 46, 47, 48, 49, 50, 51, 52, 53, 54, 55, 56, 57, 58, 59, 60, 61, 62, 63, 64, 65, 66, 67, 68, 69, 70, 71, 72, 73, 74, 75, 76, 77, 78, 79, 80, 81, 82, 83, 84, 85, 86, 87, 88, 89, 90, 91, 92, 93, 94, 95, 96, 97, 98] (by decide +kernel) (by decide +kernel)
set_option maxRecDepth 20000 in
theorem gX11_shortest_X11_shortestOf : GoodIn wsX11_shortest (wsV RX11 181 RX11 yX11_shortestOf wsX11_shortestOf) := goodIn_app (goodIn_of _ (by decide +kernel)) ggX11_shortest_X11_shortestOf
theorem dX11_shortest_0 : decode cX11_shortest 0 = .ok (.aload_n 0, 1) := by decide +kernel
theorem dX11_shortest_1 : decode cX11_shortest 1 = .ok (.invokevirtual 96, 3) := by decide +kernel
theorem dX11_shortest_4 : decode cX11_shortest 4 = .ok (.ifCond .eq 8, 3) := by decide +kernel
theorem dX11_shortest_7 : decode cX11_shortest 7 = .ok (.bipush (-103), 2) := by decide +kernel
theorem dX11_shortest_9 : decode cX11_shortest 9 = .ok (.goto 7, 3) := by decide +kernel
theorem dX11_shortest_12 : decode cX11_shortest 12 = .ok (.aload_n 0, 1) := by decide +kernel
theorem dX11_shortest_13 : decode cX11_shortest 13 = .ok (.invokevirtual 181, 3) := by decide +kernel
theorem dX11_shortest_16 : decode cX11_shortest 16 = .ok (.ireturn, 1) := by decide +kernel
set_option maxRecDepth 20000 in
theorem ggX11_hang_X11_lacks : GoodIn wsX11_hang wsX11_lacks := goodIn_r _ [8, 9, 63, 64, 65, 66, 67, 68, 69, 70, 71, 72, 73, 74, 75, 76, 77, 78, 79, 80, 81, 82, 83, 84, 85, 86, 87, 88, 89, 90, 91, 92, 93, 94] (by decide +kernel) (by decide +kernel)
set_option maxRecDepth 20000 in
theorem gX11_hang_X11_lacks : GoodIn wsX11_hang (wsV RX11 96 RX11 yX11_lacks wsX11_lacks) := goodIn_app (goodIn_of _ (by decide +kernel)) ggX11_hang_X11_lacks
set_option maxRecDepth 20000 in
theorem ggX11_hang_X11_layBest : GoodIn wsX11_hang wsX11_layBest := goodIn_r _ [13, 3, 14, 15, 16, 17, 18, 19, 20, 21, 22, 23, 24, 25, 7, 26, 9, 27, 28, 29, 30, 31, 32, 33, 34, 35, 36, 37, 38, 39, 40, 41, 42, 43, 44, 45, 46, 47, 48, 49, 50, 51, 52, 53, 54, 55, 56, 57, 58, 59, 60, 61, 62, 63, 64, 65, 66, 67, 68, 69, 70, 71, 72, 73, 74, 75, 76, 77, 78, 79, 80, 81, 82, 83, 84, 85, 86, 87, 88, 89, 90, 91, 92, 93, 94] (by decide +kernel) (by decide +kernel)
set_option maxRecDepth 20000 in
theorem gX11_hang_X11_layBest : GoodIn wsX11_hang (wsV RX11 170 RX11 yX11_layBest wsX11_layBest) := goodIn_app (goodIn_of _ (by decide +kernel)) ggX11_hang_X11_layBest
theorem dX11_hang_0 : decode cX11_hang 0 = .ok (.aload_n 0, 1) := by decide +kernel
theorem dX11_hang_1 : decode cX11_hang 1 = .ok (.invokevirtual 96, 3) := by decide +kernel
theorem dX11_hang_4 : decode cX11_hang 4 = .ok (.ifCond .ne 12, 3) := by decide +kernel
theorem dX11_hang_7 : decode cX11_hang 7 = .ok (.aload_n 0, 1) := by decide +kernel
theorem dX11_hang_8 : decode cX11_hang 8 = .ok (.getfield 184, 3) := by decide +kernel
theorem dX11_hang_11 : decode cX11_hang 11 = .ok (.bipush 30, 2) := by decide +kernel
theorem dX11_hang_13 : decode cX11_hang 13 = .ok (.if_icmp .ne 6, 3) := by decide +kernel
theorem dX11_hang_16 : decode cX11_hang 16 = .ok (.bipush (-103), 2) := by decide +kernel
theorem dX11_hang_18 : decode cX11_hang 18 = .ok (.ireturn, 1) := by decide +kernel
theorem dX11_hang_19 : decode cX11_hang 19 = .ok (.aload_n 0, 1) := by decide +kernel
theorem dX11_hang_20 : decode cX11_hang 20 = .ok (.dup, 1) := by decide +kernel
theorem dX11_hang_21 : decode cX11_hang 21 = .ok (.getfield 184, 3) := by decide +kernel
theorem dX11_hang_24 : decode cX11_hang 24 = .ok (.iconst 1, 1) := by decide +kernel
theorem dX11_hang_25 : decode cX11_hang 25 = .ok (.iadd, 1) := by decide +kernel
theorem dX11_hang_26 : decode cX11_hang 26 = .ok (.putfield 184, 3) := by decide +kernel
theorem dX11_hang_29 : decode cX11_hang 29 = .ok (.iconst (-1), 1) := by decide +kernel
theorem dX11_hang_30 : decode cX11_hang 30 = .ok (.istore_n 1, 1) := by decide +kernel
theorem dX11_hang_31 : decode cX11_hang 31 = .ok (.iconst 0, 1) := by decide +kernel
theorem dX11_hang_32 : decode cX11_hang 32 = .ok (.istore_n 2, 1) := by decide +kernel
theorem dX11_hang_33 : decode cX11_hang 33 = .ok (.iconst 0, 1) := by decide +kernel
theorem dX11_hang_34 : decode cX11_hang 34 = .ok (.istore_n 3, 1) := by decide +kernel
theorem dX11_hang_35 : decode cX11_hang 35 = .ok (.iload_n 3, 1) := by decide +kernel
theorem dX11_hang_36 : decode cX11_hang 36 = .ok (.bipush 10, 2) := by decide +kernel
theorem dX11_hang_38 : decode cX11_hang 38 = .ok (.if_icmp .ge 63, 3) := by decide +kernel
theorem dX11_hang_41 : decode cX11_hang 41 = .ok (.aload_n 0, 1) := by decide +kernel
theorem dX11_hang_42 : decode cX11_hang 42 = .ok (.iload_n 3, 1) := by decide +kernel
theorem dX11_hang_43 : decode cX11_hang 43 = .ok (.aload_n 0, 1) := by decide +kernel
theorem dX11_hang_44 : decode cX11_hang 44 = .ok (.getfield 73, 3) := by decide +kernel
theorem dX11_hang_47 : decode cX11_hang 47 = .ok (.invokevirtual 170, 3) := by decide +kernel
theorem dX11_hang_50 : decode cX11_hang 50 = .ok (.iload_n 1, 1) := by decide +kernel
theorem dX11_hang_51 : decode cX11_hang 51 = .ok (.iconst (-1), 1) := by decide +kernel
theorem dX11_hang_52 : decode cX11_hang 52 = .ok (.if_icmp .eq 11, 3) := by decide +kernel
theorem dX11_hang_55 : decode cX11_hang 55 = .ok (.aload_n 0, 1) := by decide +kernel
theorem dX11_hang_56 : decode cX11_hang 56 = .ok (.getfield 148, 3) := by decide +kernel
theorem dX11_hang_59 : decode cX11_hang 59 = .ok (.iload_n 2, 1) := by decide +kernel
theorem dX11_hang_60 : decode cX11_hang 60 = .ok (.if_icmp .ge 7, 3) := by decide +kernel
theorem dX11_hang_63 : decode cX11_hang 63 = .ok (.iconst 1, 1) := by decide +kernel
theorem dX11_hang_64 : decode cX11_hang 64 = .ok (.goto 4, 3) := by decide +kernel
theorem dX11_hang_67 : decode cX11_hang 67 = .ok (.iconst 0, 1) := by decide +kernel
theorem dX11_hang_68 : decode cX11_hang 68 = .ok (.istore 4, 2) := by decide +kernel
theorem dX11_hang_70 : decode cX11_hang 70 = .ok (.iload 4, 2) := by decide +kernel
theorem dX11_hang_72 : decode cX11_hang 72 = .ok (.ifCond .eq 7, 3) := by decide +kernel
theorem dX11_hang_75 : decode cX11_hang 75 = .ok (.iload_n 3, 1) := by decide +kernel
theorem dX11_hang_76 : decode cX11_hang 76 = .ok (.goto 4, 3) := by decide +kernel
theorem dX11_hang_79 : decode cX11_hang 79 = .ok (.iload_n 1, 1) := by decide +kernel
theorem dX11_hang_80 : decode cX11_hang 80 = .ok (.istore_n 1, 1) := by decide +kernel
theorem dX11_hang_81 : decode cX11_hang 81 = .ok (.iload 4, 2) := by decide +kernel
theorem dX11_hang_83 : decode cX11_hang 83 = .ok (.ifCond .eq 10, 3) := by decide +kernel
theorem dX11_hang_86 : decode cX11_hang 86 = .ok (.aload_n 0, 1) := by decide +kernel
theorem dX11_hang_87 : decode cX11_hang 87 = .ok (.getfield 148, 3) := by decide +kernel
theorem dX11_hang_90 : decode cX11_hang 90 = .ok (.goto 4, 3) := by decide +kernel
theorem dX11_hang_93 : decode cX11_hang 93 = .ok (.iload_n 2, 1) := by decide +kernel
theorem dX11_hang_94 : decode cX11_hang 94 = .ok (.istore_n 2, 1) := by decide +kernel
theorem dX11_hang_95 : decode cX11_hang 95 = .ok (.iinc 3 1, 3) := by decide +kernel
theorem dX11_hang_98 : decode cX11_hang 98 = .ok (.goto (-63), 3) := by decide +kernel
theorem dX11_hang_101 : decode cX11_hang 101 = .ok (.iload_n 1, 1) := by decide +kernel
theorem dX11_hang_102 : decode cX11_hang 102 = .ok (.ireturn, 1) := by decide +kernel
set_option maxRecDepth 20000 in
theorem ggX11_earliest_X11_layWho : GoodIn wsX11_earliest wsX11_layWho := goodIn_r _ [8, 1, 9, 10, 36, 37, 38, 39, 40, 41, 42, 43, 44, 45, 46, 47, 48, 49, 50, 51, 52, 53, 54, 55, 56, 57, 58, 59, 60, 61, 62, 63, 64, 65, 66, 67] (by decide +kernel) (by decide +kernel)
set_option maxRecDepth 20000 in
theorem gX11_earliest_X11_layWho : GoodIn wsX11_earliest (wsV RX11 144 RX11 yX11_layWho wsX11_layWho) := goodIn_app (goodIn_of _ (by decide +kernel)) ggX11_earliest_X11_layWho
set_option maxRecDepth 20000 in
theorem ggX11_earliest_X11_codes : GoodIn wsX11_earliest wsX11_codes := goodIn_r _ [14, 1, 36, 37, 38, 39, 40, 41, 42, 43, 44, 45, 46, 47, 48, 49, 50, 51, 52, 53, 54, 55, 56, 57, 58, 59, 60, 61, 62, 63, 64, 65, 66, 67] (by decide +kernel) (by decide +kernel)
set_option maxRecDepth 20000 in
theorem gX11_earliest_X11_codes : GoodIn wsX11_earliest (wsV RX11 157 RX11 yX11_codes wsX11_codes) := goodIn_app (goodIn_of _ (by decide +kernel)) ggX11_earliest_X11_codes
set_option maxRecDepth 20000 in
theorem ggX11_earliest_X11_isOrder : GoodIn wsX11_earliest wsX11_isOrder := goodIn_r _ [18, 1, 2, 10, 36, 37, 38, 39, 40, 41, 42, 43, 44, 45, 46, 47, 48, 49, 50, 51, 52, 53, 54, 55, 56, 57, 58, 59, 60, 61, 62, 63, 64, 65, 66, 67] (by decide +kernel) (by decide +kernel)
set_option maxRecDepth 20000 in
theorem gX11_earliest_X11_isOrder : GoodIn wsX11_earliest (wsV RX11 160 RX11 yX11_isOrder wsX11_isOrder) := goodIn_app (goodIn_of _ (by decide +kernel)) ggX11_earliest_X11_isOrder
set_option maxRecDepth 20000 in
theorem ggX11_earliest_X11_asItIs : GoodIn wsX11_earliest wsX11_asItIs := goodIn_r _ [22, 23, 24, 25, 3, 26, 27, 36, 37, 38, 39, 40, 41, 42, 43, 44, 45, 46, 47, 48, 49, 50, 51, 52, 53, 54, 55, 56, 57, 58, 59, 60, 61, 62, 63, 64, 65, 66, 67] (by decide +kernel) (by decide +kernel)
set_option maxRecDepth 20000 in
theorem gX11_earliest_X11_asItIs : GoodIn wsX11_earliest (wsV RX11 121 RX11 yX11_asItIs wsX11_asItIs) := goodIn_app (goodIn_of _ (by decide +kernel)) ggX11_earliest_X11_asItIs
set_option maxRecDepth 20000 in
theorem ggX11_earliest_X11_opens : GoodIn wsX11_earliest wsX11_opens := goodIn_r _ [31, 32, 27, 3, 24, 33, 34, 7, 35, 36, 37, 38, 39, 40, 41, 42, 43, 44, 45, 46, 47, 48, 49, 50, 51, 52, 53, 54, 55, 56, 57, 58, 59, 60, 61, 62, 63, 64, 65, 66, 67] (by decide +kernel) (by decide +kernel)
set_option maxRecDepth 20000 in
theorem gX11_earliest_X11_opens : GoodIn wsX11_earliest (wsV RX11 124 RX11 yX11_opens wsX11_opens) := goodIn_app (goodIn_of _ (by decide +kernel)) ggX11_earliest_X11_opens
theorem dX11_earliest_0 : decode cX11_earliest 0 = .ok (.aload_n 0, 1) := by decide +kernel
theorem dX11_earliest_1 : decode cX11_earliest 1 = .ok (.iload_n 1, 1) := by decide +kernel
theorem dX11_earliest_2 : decode cX11_earliest 2 = .ok (.invokevirtual 144, 3) := by decide +kernel
theorem dX11_earliest_5 : decode cX11_earliest 5 = .ok (.iconst (-1), 1) := by decide +kernel
theorem dX11_earliest_6 : decode cX11_earliest 6 = .ok (.istore_n 2, 1) := by decide +kernel
theorem dX11_earliest_7 : decode cX11_earliest 7 = .ok (.iconst 0, 1) := by decide +kernel
theorem dX11_earliest_8 : decode cX11_earliest 8 = .ok (.istore_n 3, 1) := by decide +kernel
theorem dX11_earliest_9 : decode cX11_earliest 9 = .ok (.iload_n 3, 1) := by decide +kernel
theorem dX11_earliest_10 : decode cX11_earliest 10 = .ok (.aload_n 0, 1) := by decide +kernel
theorem dX11_earliest_11 : decode cX11_earliest 11 = .ok (.invokevirtual 157, 3) := by decide +kernel
theorem dX11_earliest_14 : decode cX11_earliest 14 = .ok (.if_icmp .ge 74, 3) := by decide +kernel
theorem dX11_earliest_17 : decode cX11_earliest 17 = .ok (.aload_n 0, 1) := by decide +kernel
theorem dX11_earliest_18 : decode cX11_earliest 18 = .ok (.iload_n 3, 1) := by decide +kernel
theorem dX11_earliest_19 : decode cX11_earliest 19 = .ok (.invokevirtual 160, 3) := by decide +kernel
theorem dX11_earliest_22 : decode cX11_earliest 22 = .ok (.ifCond .eq 60, 3) := by decide +kernel
theorem dX11_earliest_25 : decode cX11_earliest 25 = .ok (.aload_n 0, 1) := by decide +kernel
theorem dX11_earliest_26 : decode cX11_earliest 26 = .ok (.invokevirtual 121, 3) := by decide +kernel
theorem dX11_earliest_29 : decode cX11_earliest 29 = .ok (.iconst 0, 1) := by decide +kernel
theorem dX11_earliest_30 : decode cX11_earliest 30 = .ok (.istore 4, 2) := by decide +kernel
theorem dX11_earliest_32 : decode cX11_earliest 32 = .ok (.iload 4, 2) := by decide +kernel
theorem dX11_earliest_34 : decode cX11_earliest 34 = .ok (.aload_n 0, 1) := by decide +kernel
theorem dX11_earliest_35 : decode cX11_earliest 35 = .ok (.getfield 141, 3) := by decide +kernel
theorem dX11_earliest_38 : decode cX11_earliest 38 = .ok (.if_icmp .ge 22, 3) := by decide +kernel
theorem dX11_earliest_41 : decode cX11_earliest 41 = .ok (.aload_n 0, 1) := by decide +kernel
theorem dX11_earliest_42 : decode cX11_earliest 42 = .ok (.aload_n 0, 1) := by decide +kernel
theorem dX11_earliest_43 : decode cX11_earliest 43 = .ok (.getfield 19, 3) := by decide +kernel
theorem dX11_earliest_46 : decode cX11_earliest 46 = .ok (.iload 4, 2) := by decide +kernel
theorem dX11_earliest_48 : decode cX11_earliest 48 = .ok (.iaload, 1) := by decide +kernel
theorem dX11_earliest_49 : decode cX11_earliest 49 = .ok (.invokevirtual 124, 3) := by decide +kernel
theorem dX11_earliest_52 : decode cX11_earliest 52 = .ok (.istore 5, 2) := by decide +kernel
theorem dX11_earliest_54 : decode cX11_earliest 54 = .ok (.iinc 4 1, 3) := by decide +kernel
theorem dX11_earliest_57 : decode cX11_earliest 57 = .ok (.goto (-25), 3) := by decide +kernel
theorem dX11_earliest_60 : decode cX11_earliest 60 = .ok (.iload_n 2, 1) := by decide +kernel
theorem dX11_earliest_61 : decode cX11_earliest 61 = .ok (.iconst (-1), 1) := by decide +kernel
theorem dX11_earliest_62 : decode cX11_earliest 62 = .ok (.if_icmp .eq 11, 3) := by decide +kernel
theorem dX11_earliest_65 : decode cX11_earliest 65 = .ok (.aload_n 0, 1) := by decide +kernel
theorem dX11_earliest_66 : decode cX11_earliest 66 = .ok (.getfield 105, 3) := by decide +kernel
theorem dX11_earliest_69 : decode cX11_earliest 69 = .ok (.iload_n 2, 1) := by decide +kernel
theorem dX11_earliest_70 : decode cX11_earliest 70 = .ok (.if_icmp .ge 10, 3) := by decide +kernel
theorem dX11_earliest_73 : decode cX11_earliest 73 = .ok (.aload_n 0, 1) := by decide +kernel
theorem dX11_earliest_74 : decode cX11_earliest 74 = .ok (.getfield 105, 3) := by decide +kernel
theorem dX11_earliest_77 : decode cX11_earliest 77 = .ok (.goto 4, 3) := by decide +kernel
theorem dX11_earliest_80 : decode cX11_earliest 80 = .ok (.iload_n 2, 1) := by decide +kernel
theorem dX11_earliest_81 : decode cX11_earliest 81 = .ok (.istore_n 2, 1) := by decide +kernel
theorem dX11_earliest_82 : decode cX11_earliest 82 = .ok (.iinc 3 1, 3) := by decide +kernel
theorem dX11_earliest_85 : decode cX11_earliest 85 = .ok (.goto (-76), 3) := by decide +kernel
theorem dX11_earliest_88 : decode cX11_earliest 88 = .ok (.iload_n 2, 1) := by decide +kernel
theorem dX11_earliest_89 : decode cX11_earliest 89 = .ok (.ireturn, 1) := by decide +kernel
set_option maxRecDepth 20000 in
theorem ggX11_twoKeys_X11_lacks : GoodIn wsX11_twoKeys wsX11_lacks := goodIn_r _ [5, 6, 52, 53, 54, 55, 56, 57, 58, 59, 60, 61, 62, 63, 64, 65, 66, 67, 68, 69, 70, 71, 72, 73, 74, 75, 76, 77, 78, 79, 80, 81, 82, 83] (by decide +kernel) (by decide +kernel)
set_option maxRecDepth 20000 in
theorem gX11_twoKeys_X11_lacks : GoodIn wsX11_twoKeys (wsV RX11 96 RX11 yX11_lacks wsX11_lacks) := goodIn_app (goodIn_of _ (by decide +kernel)) ggX11_twoKeys_X11_lacks
set_option maxRecDepth 20000 in
theorem ggX11_twoKeys_X11_shutBits : GoodIn wsX11_twoKeys wsX11_shutBits := goodIn_r _ [10, 6, 11, 12, 13, 4, 14, 15, 52, 53, 54, 55, 56, 57, 58, 59, 60, 61, 62, 63, 64, 65, 66, 67, 68, 69, 70, 71, 72, 73, 74, 75, 76, 77, 78, 79, 80, 81, 82, 83] (by decide +kernel) (by decide +kernel)
set_option maxRecDepth 20000 in
theorem gX11_twoKeys_X11_shutBits : GoodIn wsX11_twoKeys (wsV RX11 115 RX11 yX11_shutBits wsX11_shutBits) := goodIn_app (goodIn_of _ (by decide +kernel)) ggX11_twoKeys_X11_shutBits
set_option maxRecDepth 20000 in
theorem ggX11_twoKeys_X11_earliest : GoodIn wsX11_twoKeys wsX11_earliest := goodIn_r _ [19, 20, 21, 22, 23, 24, 25, 4, 26, 6, 27, 28, 29, 30, 31, 32, 33, 34, 35, 36, 37, 38, 39, 40, 41, 42, 43, 44, 45, 46, 47, 48, 15, 49, 50, 51, 52, 53, 54, 55, 56, 57, 58, 59, 60, 61, 62, 63, 64, 65, 66, 67, 68, 69, 70, 71, 72, 73, 74, 75, 76, 77, 78, 79, 80, 81, 82, 83] (by decide +kernel) (by decide +kernel)
set_option maxRecDepth 20000 in
theorem gX11_twoKeys_X11_earliest : GoodIn wsX11_twoKeys (wsV RX11 187 RX11 yX11_earliest wsX11_earliest) := goodIn_app (goodIn_of _ (by decide +kernel)) ggX11_twoKeys_X11_earliest
theorem dX11_twoKeys_0 : decode cX11_twoKeys 0 = .ok (.aload_n 0, 1) := by decide +kernel
theorem dX11_twoKeys_1 : decode cX11_twoKeys 1 = .ok (.invokevirtual 96, 3) := by decide +kernel
theorem dX11_twoKeys_4 : decode cX11_twoKeys 4 = .ok (.ifCond .eq 6, 3) := by decide +kernel
theorem dX11_twoKeys_7 : decode cX11_twoKeys 7 = .ok (.bipush (-103), 2) := by decide +kernel
theorem dX11_twoKeys_9 : decode cX11_twoKeys 9 = .ok (.ireturn, 1) := by decide +kernel
theorem dX11_twoKeys_10 : decode cX11_twoKeys 10 = .ok (.aload_n 0, 1) := by decide +kernel
theorem dX11_twoKeys_11 : decode cX11_twoKeys 11 = .ok (.invokevirtual 115, 3) := by decide +kernel
theorem dX11_twoKeys_14 : decode cX11_twoKeys 14 = .ok (.istore_n 1, 1) := by decide +kernel
theorem dX11_twoKeys_15 : decode cX11_twoKeys 15 = .ok (.iconst (-1), 1) := by decide +kernel
theorem dX11_twoKeys_16 : decode cX11_twoKeys 16 = .ok (.istore_n 2, 1) := by decide +kernel
theorem dX11_twoKeys_17 : decode cX11_twoKeys 17 = .ok (.iconst 0, 1) := by decide +kernel
theorem dX11_twoKeys_18 : decode cX11_twoKeys 18 = .ok (.istore_n 3, 1) := by decide +kernel
theorem dX11_twoKeys_19 : decode cX11_twoKeys 19 = .ok (.iload_n 3, 1) := by decide +kernel
theorem dX11_twoKeys_20 : decode cX11_twoKeys 20 = .ok (.bipush 64, 2) := by decide +kernel
theorem dX11_twoKeys_22 : decode cX11_twoKeys 22 = .ok (.if_icmp .ge 69, 3) := by decide +kernel
theorem dX11_twoKeys_25 : decode cX11_twoKeys 25 = .ok (.iload_n 3, 1) := by decide +kernel
theorem dX11_twoKeys_26 : decode cX11_twoKeys 26 = .ok (.iload_n 1, 1) := by decide +kernel
theorem dX11_twoKeys_27 : decode cX11_twoKeys 27 = .ok (.iconst (-1), 1) := by decide +kernel
theorem dX11_twoKeys_28 : decode cX11_twoKeys 28 = .ok (.ixor, 1) := by decide +kernel
theorem dX11_twoKeys_29 : decode cX11_twoKeys 29 = .ok (.iand, 1) := by decide +kernel
theorem dX11_twoKeys_30 : decode cX11_twoKeys 30 = .ok (.ifCond .ne 55, 3) := by decide +kernel
theorem dX11_twoKeys_33 : decode cX11_twoKeys 33 = .ok (.aload_n 0, 1) := by decide +kernel
theorem dX11_twoKeys_34 : decode cX11_twoKeys 34 = .ok (.iload_n 3, 1) := by decide +kernel
theorem dX11_twoKeys_35 : decode cX11_twoKeys 35 = .ok (.invokevirtual 187, 3) := by decide +kernel
theorem dX11_twoKeys_38 : decode cX11_twoKeys 38 = .ok (.istore 4, 2) := by decide +kernel
theorem dX11_twoKeys_40 : decode cX11_twoKeys 40 = .ok (.aload_n 0, 1) := by decide +kernel
theorem dX11_twoKeys_41 : decode cX11_twoKeys 41 = .ok (.iload_n 1, 1) := by decide +kernel
theorem dX11_twoKeys_42 : decode cX11_twoKeys 42 = .ok (.iload_n 3, 1) := by decide +kernel
theorem dX11_twoKeys_43 : decode cX11_twoKeys 43 = .ok (.iconst (-1), 1) := by decide +kernel
theorem dX11_twoKeys_44 : decode cX11_twoKeys 44 = .ok (.ixor, 1) := by decide +kernel
theorem dX11_twoKeys_45 : decode cX11_twoKeys 45 = .ok (.iand, 1) := by decide +kernel
theorem dX11_twoKeys_46 : decode cX11_twoKeys 46 = .ok (.invokevirtual 187, 3) := by decide +kernel
theorem dX11_twoKeys_49 : decode cX11_twoKeys 49 = .ok (.istore 5, 2) := by decide +kernel
theorem dX11_twoKeys_51 : decode cX11_twoKeys 51 = .ok (.iload 4, 2) := by decide +kernel
theorem dX11_twoKeys_53 : decode cX11_twoKeys 53 = .ok (.iload 5, 2) := by decide +kernel
theorem dX11_twoKeys_55 : decode cX11_twoKeys 55 = .ok (.if_icmp .le 8, 3) := by decide +kernel
theorem dX11_twoKeys_58 : decode cX11_twoKeys 58 = .ok (.iload 4, 2) := by decide +kernel
theorem dX11_twoKeys_60 : decode cX11_twoKeys 60 = .ok (.goto 5, 3) := by decide +kernel
