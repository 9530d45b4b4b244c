theorem dX11_twoKeys_63 : decode cX11_twoKeys 63 = .ok (.iload 5, 2) := by decide +kernel
theorem dX11_twoKeys_65 : decode cX11_twoKeys 65 = .ok (.istore 6, 2) := by decide +kernel
theorem dX11_twoKeys_67 : decode cX11_twoKeys 67 = .ok (.iload_n 2, 1) := by decide +kernel
theorem dX11_twoKeys_68 : decode cX11_twoKeys 68 = .ok (.iconst (-1), 1) := by decide +kernel
theorem dX11_twoKeys_69 : decode cX11_twoKeys 69 = .ok (.if_icmp .eq 9, 3) := by decide +kernel
theorem dX11_twoKeys_72 : decode cX11_twoKeys 72 = .ok (.iload 6, 2) := by decide +kernel
theorem dX11_twoKeys_74 : decode cX11_twoKeys 74 = .ok (.iload_n 2, 1) := by decide +kernel
theorem dX11_twoKeys_75 : decode cX11_twoKeys 75 = .ok (.if_icmp .ge 8, 3) := by decide +kernel
theorem dX11_twoKeys_78 : decode cX11_twoKeys 78 = .ok (.iload 6, 2) := by decide +kernel
theorem dX11_twoKeys_80 : decode cX11_twoKeys 80 = .ok (.goto 4, 3) := by decide +kernel
theorem dX11_twoKeys_83 : decode cX11_twoKeys 83 = .ok (.iload_n 2, 1) := by decide +kernel
theorem dX11_twoKeys_84 : decode cX11_twoKeys 84 = .ok (.istore_n 2, 1) := by decide +kernel
theorem dX11_twoKeys_85 : decode cX11_twoKeys 85 = .ok (.iinc 3 1, 3) := by decide +kernel
theorem dX11_twoKeys_88 : decode cX11_twoKeys 88 = .ok (.goto (-69), 3) := by decide +kernel
theorem dX11_twoKeys_91 : decode cX11_twoKeys 91 = .ok (.iload_n 2, 1) := by decide +kernel
theorem dX11_twoKeys_92 : decode cX11_twoKeys 92 = .ok (.ireturn, 1) := by decide +kernel
set_option maxRecDepth 20000 in
theorem ggX11_see_X11_isHouse : GoodIn wsX11_see wsX11_isHouse := goodIn_r _ [8, 9, 10, 11, 7, 12, 13, 14, 15, 16, 17, 18, 19, 20, 21, 22, 23, 24, 25, 26, 27, 28, 29, 30, 31, 32, 33, 34, 35, 36, 37, 38, 39, 40, 41, 42, 43, 44] (by decide +kernel) (by decide +kernel)
set_option maxRecDepth 20000 in
theorem gX11_see_X11_isHouse : GoodIn wsX11_see (wsV RX11 85 RX11 yX11_isHouse wsX11_isHouse) := goodIn_app (goodIn_of _ (by decide +kernel)) ggX11_see_X11_isHouse
set_option maxRecDepth 20000 in
theorem ggX11_see_X11_in : GoodIn wsX11_see wsX11_in := goodIn_r _ [12] (by decide +kernel) (by decide +kernel)
set_option maxRecDepth 20000 in
theorem gX11_see_X11_in : GoodIn wsX11_see (va_wsS RX11 46 yX11_in wsX11_in) := goodIn_app (goodIn_of _ (by decide +kernel)) ggX11_see_X11_in
theorem dX11_see_0 : decode cX11_see 0 = .ok (.aload_n 0, 1) := by decide +kernel
theorem dX11_see_1 : decode cX11_see 1 = .ok (.iload_n 1, 1) := by decide +kernel
theorem dX11_see_2 : decode cX11_see 2 = .ok (.invokevirtual 85, 3) := by decide +kernel
theorem dX11_see_5 : decode cX11_see 5 = .ok (.ifCond .ne 6, 3) := by decide +kernel
theorem dX11_see_8 : decode cX11_see 8 = .ok (.bipush (-101), 2) := by decide +kernel
theorem dX11_see_10 : decode cX11_see 10 = .ok (.ireturn, 1) := by decide +kernel
theorem dX11_see_11 : decode cX11_see 11 = .ok (.iload_n 2, 1) := by decide +kernel
theorem dX11_see_12 : decode cX11_see 12 = .ok (.i2l, 1) := by decide +kernel
theorem dX11_see_13 : decode cX11_see 13 = .ok (.lconst 0, 1) := by decide +kernel
theorem dX11_see_14 : decode cX11_see 14 = .ok (.ldc2_w 190, 3) := by decide +kernel
theorem dX11_see_17 : decode cX11_see 17 = .ok (.invokestatic 46, 3) := by decide +kernel
theorem dX11_see_20 : decode cX11_see 20 = .ok (.ifCond .ne 6, 3) := by decide +kernel
theorem dX11_see_23 : decode cX11_see 23 = .ok (.bipush (-102), 2) := by decide +kernel
theorem dX11_see_25 : decode cX11_see 25 = .ok (.ireturn, 1) := by decide +kernel
theorem dX11_see_26 : decode cX11_see 26 = .ok (.aload_n 0, 1) := by decide +kernel
theorem dX11_see_27 : decode cX11_see 27 = .ok (.getfield 79, 3) := by decide +kernel
theorem dX11_see_30 : decode cX11_see 30 = .ok (.bipush 6, 2) := by decide +kernel
theorem dX11_see_32 : decode cX11_see 32 = .ok (.if_icmp .ne 6, 3) := by decide +kernel
theorem dX11_see_35 : decode cX11_see 35 = .ok (.bipush (-104), 2) := by decide +kernel
theorem dX11_see_37 : decode cX11_see 37 = .ok (.ireturn, 1) := by decide +kernel
theorem dX11_see_38 : decode cX11_see 38 = .ok (.aload_n 0, 1) := by decide +kernel
theorem dX11_see_39 : decode cX11_see 39 = .ok (.getfield 28, 3) := by decide +kernel
theorem dX11_see_42 : decode cX11_see 42 = .ok (.iconst 3, 1) := by decide +kernel
theorem dX11_see_43 : decode cX11_see 43 = .ok (.aload_n 0, 1) := by decide +kernel
theorem dX11_see_44 : decode cX11_see 44 = .ok (.getfield 79, 3) := by decide +kernel
theorem dX11_see_47 : decode cX11_see 47 = .ok (.imul, 1) := by decide +kernel
theorem dX11_see_48 : decode cX11_see 48 = .ok (.iload_n 1, 1) := by decide +kernel
theorem dX11_see_49 : decode cX11_see 49 = .ok (.iastore, 1) := by decide +kernel
theorem dX11_see_50 : decode cX11_see 50 = .ok (.aload_n 0, 1) := by decide +kernel
theorem dX11_see_51 : decode cX11_see 51 = .ok (.getfield 28, 3) := by decide +kernel
theorem dX11_see_54 : decode cX11_see 54 = .ok (.iconst 3, 1) := by decide +kernel
theorem dX11_see_55 : decode cX11_see 55 = .ok (.aload_n 0, 1) := by decide +kernel
theorem dX11_see_56 : decode cX11_see 56 = .ok (.getfield 79, 3) := by decide +kernel
theorem dX11_see_59 : decode cX11_see 59 = .ok (.imul, 1) := by decide +kernel
theorem dX11_see_60 : decode cX11_see 60 = .ok (.iconst 1, 1) := by decide +kernel
theorem dX11_see_61 : decode cX11_see 61 = .ok (.iadd, 1) := by decide +kernel
theorem dX11_see_62 : decode cX11_see 62 = .ok (.iload_n 2, 1) := by decide +kernel
theorem dX11_see_63 : decode cX11_see 63 = .ok (.iastore, 1) := by decide +kernel
theorem dX11_see_64 : decode cX11_see 64 = .ok (.aload_n 0, 1) := by decide +kernel
theorem dX11_see_65 : decode cX11_see 65 = .ok (.getfield 28, 3) := by decide +kernel
theorem dX11_see_68 : decode cX11_see 68 = .ok (.iconst 3, 1) := by decide +kernel
theorem dX11_see_69 : decode cX11_see 69 = .ok (.aload_n 0, 1) := by decide +kernel
theorem dX11_see_70 : decode cX11_see 70 = .ok (.getfield 79, 3) := by decide +kernel
theorem dX11_see_73 : decode cX11_see 73 = .ok (.imul, 1) := by decide +kernel
theorem dX11_see_74 : decode cX11_see 74 = .ok (.iconst 2, 1) := by decide +kernel
theorem dX11_see_75 : decode cX11_see 75 = .ok (.iadd, 1) := by decide +kernel
theorem dX11_see_76 : decode cX11_see 76 = .ok (.iload_n 3, 1) := by decide +kernel
theorem dX11_see_77 : decode cX11_see 77 = .ok (.ifCond .eq 7, 3) := by decide +kernel
theorem dX11_see_80 : decode cX11_see 80 = .ok (.iconst 1, 1) := by decide +kernel
theorem dX11_see_81 : decode cX11_see 81 = .ok (.goto 4, 3) := by decide +kernel
theorem dX11_see_84 : decode cX11_see 84 = .ok (.iconst 0, 1) := by decide +kernel
theorem dX11_see_85 : decode cX11_see 85 = .ok (.iastore, 1) := by decide +kernel
theorem dX11_see_86 : decode cX11_see 86 = .ok (.aload_n 0, 1) := by decide +kernel
theorem dX11_see_87 : decode cX11_see 87 = .ok (.dup, 1) := by decide +kernel
theorem dX11_see_88 : decode cX11_see 88 = .ok (.getfield 79, 3) := by decide +kernel
theorem dX11_see_91 : decode cX11_see 91 = .ok (.iconst 1, 1) := by decide +kernel
theorem dX11_see_92 : decode cX11_see 92 = .ok (.iadd, 1) := by decide +kernel
theorem dX11_see_93 : decode cX11_see 93 = .ok (.putfield 79, 3) := by decide +kernel
theorem dX11_see_96 : decode cX11_see 96 = .ok (.aload_n 0, 1) := by decide +kernel
theorem dX11_see_97 : decode cX11_see 97 = .ok (.getfield 79, 3) := by decide +kernel
theorem dX11_see_100 : decode cX11_see 100 = .ok (.ireturn, 1) := by decide +kernel
theorem dX11_forget_0 : decode cX11_forget 0 = .ok (.aload_n 0, 1) := by decide +kernel
theorem dX11_forget_1 : decode cX11_forget 1 = .ok (.getfield 79, 3) := by decide +kernel
theorem dX11_forget_4 : decode cX11_forget 4 = .ok (.istore_n 1, 1) := by decide +kernel
theorem dX11_forget_5 : decode cX11_forget 5 = .ok (.aload_n 0, 1) := by decide +kernel
theorem dX11_forget_6 : decode cX11_forget 6 = .ok (.iconst 0, 1) := by decide +kernel
theorem dX11_forget_7 : decode cX11_forget 7 = .ok (.putfield 79, 3) := by decide +kernel
theorem dX11_forget_10 : decode cX11_forget 10 = .ok (.iload_n 1, 1) := by decide +kernel
theorem dX11_forget_11 : decode cX11_forget 11 = .ok (.ireturn, 1) := by decide +kernel
set_option maxRecDepth 20000 in
theorem ggX11_guessOf_X11_shutBits : GoodIn wsX11_guessOf wsX11_shutBits := goodIn_r _ [11, 12, 13, 14, 15, 10, 16, 17, 41, 42, 43, 44, 45, 46, 47, 48, 49, 50, 51, 52, 53, 54, 55, 56, 57, 58, 59, 60, 61, 62, 63, 64, 65, 66, 67, 68, 69, 70, 71, 72] (by decide +kernel) (by decide +kernel)
set_option maxRecDepth 20000 in
theorem gX11_guessOf_X11_shutBits : GoodIn wsX11_guessOf (wsV RX11 115 RX11 yX11_shutBits wsX11_shutBits) := goodIn_app (goodIn_of _ (by decide +kernel)) ggX11_guessOf_X11_shutBits
set_option maxRecDepth 20000 in
theorem ggX11_guessOf_X11_goesBy : GoodIn wsX11_guessOf wsX11_goesBy := goodIn_r _ [21, 5, 2, 22, 23, 24, 10, 25, 12, 26, 27, 28, 29, 17, 30, 31, 32, 33, 1, 34, 35, 36, 37, 38, 39, 40, 3, 41, 42, 43, 44, 45, 46, 47, 48, 49, 50, 51, 52, 53, 54, 55, 56, 57, 58, 59, 60, 61, 62, 63, 64, 65, 66, 67, 68, 69, 70, 71, 72] (by decide +kernel) (by decide +kernel)
set_option maxRecDepth 20000 in
theorem gX11_guessOf_X11_goesBy : GoodIn wsX11_guessOf (wsV RX11 135 RX11 yX11_goesBy wsX11_goesBy) := goodIn_app (goodIn_of _ (by decide +kernel)) ggX11_guessOf_X11_goesBy
theorem dX11_guessOf_0 : decode cX11_guessOf 0 = .ok (.iconst 0, 1) := by decide +kernel
theorem dX11_guessOf_1 : decode cX11_guessOf 1 = .ok (.istore_n 2, 1) := by decide +kernel
theorem dX11_guessOf_2 : decode cX11_guessOf 2 = .ok (.iconst (-1), 1) := by decide +kernel
theorem dX11_guessOf_3 : decode cX11_guessOf 3 = .ok (.istore_n 3, 1) := by decide +kernel
theorem dX11_guessOf_4 : decode cX11_guessOf 4 = .ok (.bipush 29, 2) := by decide +kernel
theorem dX11_guessOf_6 : decode cX11_guessOf 6 = .ok (.istore 4, 2) := by decide +kernel
theorem dX11_guessOf_8 : decode cX11_guessOf 8 = .ok (.iload 4, 2) := by decide +kernel
theorem dX11_guessOf_10 : decode cX11_guessOf 10 = .ok (.ifCond .lt 169, 3) := by decide +kernel
theorem dX11_guessOf_13 : decode cX11_guessOf 13 = .ok (.aload_n 0, 1) := by decide +kernel
theorem dX11_guessOf_14 : decode cX11_guessOf 14 = .ok (.iload 4, 2) := by decide +kernel
theorem dX11_guessOf_16 : decode cX11_guessOf 16 = .ok (.iconst 3, 1) := by decide +kernel
theorem dX11_guessOf_17 : decode cX11_guessOf 17 = .ok (.idiv, 1) := by decide +kernel
theorem dX11_guessOf_18 : decode cX11_guessOf 18 = .ok (.putfield 102, 3) := by decide +kernel
theorem dX11_guessOf_21 : decode cX11_guessOf 21 = .ok (.aload_n 0, 1) := by decide +kernel
theorem dX11_guessOf_22 : decode cX11_guessOf 22 = .ok (.iconst 0, 1) := by decide +kernel
theorem dX11_guessOf_23 : decode cX11_guessOf 23 = .ok (.putfield 105, 3) := by decide +kernel
theorem dX11_guessOf_26 : decode cX11_guessOf 26 = .ok (.aload_n 0, 1) := by decide +kernel
theorem dX11_guessOf_27 : decode cX11_guessOf 27 = .ok (.iconst 0, 1) := by decide +kernel
theorem dX11_guessOf_28 : decode cX11_guessOf 28 = .ok (.putfield 108, 3) := by decide +kernel
theorem dX11_guessOf_31 : decode cX11_guessOf 31 = .ok (.aload_n 0, 1) := by decide +kernel
theorem dX11_guessOf_32 : decode cX11_guessOf 32 = .ok (.aload_n 0, 1) := by decide +kernel
theorem dX11_guessOf_33 : decode cX11_guessOf 33 = .ok (.invokevirtual 115, 3) := by decide +kernel
theorem dX11_guessOf_36 : decode cX11_guessOf 36 = .ok (.iload 4, 2) := by decide +kernel
theorem dX11_guessOf_38 : decode cX11_guessOf 38 = .ok (.iconst 3, 1) := by decide +kernel
theorem dX11_guessOf_39 : decode cX11_guessOf 39 = .ok (.irem, 1) := by decide +kernel
theorem dX11_guessOf_40 : decode cX11_guessOf 40 = .ok (.invokevirtual 135, 3) := by decide +kernel
theorem dX11_guessOf_43 : decode cX11_guessOf 43 = .ok (.istore 5, 2) := by decide +kernel
theorem dX11_guessOf_45 : decode cX11_guessOf 45 = .ok (.iconst 1, 1) := by decide +kernel
theorem dX11_guessOf_46 : decode cX11_guessOf 46 = .ok (.istore 6, 2) := by decide +kernel
theorem dX11_guessOf_48 : decode cX11_guessOf 48 = .ok (.iconst 0, 1) := by decide +kernel
theorem dX11_guessOf_49 : decode cX11_guessOf 49 = .ok (.istore 7, 2) := by decide +kernel
theorem dX11_guessOf_51 : decode cX11_guessOf 51 = .ok (.iload 7, 2) := by decide +kernel
theorem dX11_guessOf_53 : decode cX11_guessOf 53 = .ok (.aload_n 0, 1) := by decide +kernel
theorem dX11_guessOf_54 : decode cX11_guessOf 54 = .ok (.getfield 79, 3) := by decide +kernel
theorem dX11_guessOf_57 : decode cX11_guessOf 57 = .ok (.if_icmp .ge 91, 3) := by decide +kernel
theorem dX11_guessOf_60 : decode cX11_guessOf 60 = .ok (.aload_n 0, 1) := by decide +kernel
theorem dX11_guessOf_61 : decode cX11_guessOf 61 = .ok (.getfield 16, 3) := by decide +kernel
theorem dX11_guessOf_64 : decode cX11_guessOf 64 = .ok (.aload_n 0, 1) := by decide +kernel
theorem dX11_guessOf_65 : decode cX11_guessOf 65 = .ok (.getfield 28, 3) := by decide +kernel
theorem dX11_guessOf_68 : decode cX11_guessOf 68 = .ok (.iconst 3, 1) := by decide +kernel
theorem dX11_guessOf_69 : decode cX11_guessOf 69 = .ok (.iload 7, 2) := by decide +kernel
theorem dX11_guessOf_71 : decode cX11_guessOf 71 = .ok (.imul, 1) := by decide +kernel
theorem dX11_guessOf_72 : decode cX11_guessOf 72 = .ok (.iaload, 1) := by decide +kernel
theorem dX11_guessOf_73 : decode cX11_guessOf 73 = .ok (.iaload, 1) := by decide +kernel
theorem dX11_guessOf_74 : decode cX11_guessOf 74 = .ok (.istore 8, 2) := by decide +kernel
theorem dX11_guessOf_76 : decode cX11_guessOf 76 = .ok (.iload 8, 2) := by decide +kernel
theorem dX11_guessOf_78 : decode cX11_guessOf 78 = .ok (.iconst (-1), 1) := by decide +kernel
theorem dX11_guessOf_79 : decode cX11_guessOf 79 = .ok (.if_icmp .eq 23, 3) := by decide +kernel
theorem dX11_guessOf_82 : decode cX11_guessOf 82 = .ok (.iload 8, 2) := by decide +kernel
theorem dX11_guessOf_84 : decode cX11_guessOf 84 = .ok (.aload_n 0, 1) := by decide +kernel
theorem dX11_guessOf_85 : decode cX11_guessOf 85 = .ok (.getfield 28, 3) := by decide +kernel
theorem dX11_guessOf_88 : decode cX11_guessOf 88 = .ok (.iconst 3, 1) := by decide +kernel
theorem dX11_guessOf_89 : decode cX11_guessOf 89 = .ok (.iload 7, 2) := by decide +kernel
theorem dX11_guessOf_91 : decode cX11_guessOf 91 = .ok (.imul, 1) := by decide +kernel
theorem dX11_guessOf_92 : decode cX11_guessOf 92 = .ok (.iconst 1, 1) := by decide +kernel
theorem dX11_guessOf_93 : decode cX11_guessOf 93 = .ok (.iadd, 1) := by decide +kernel
theorem dX11_guessOf_94 : decode cX11_guessOf 94 = .ok (.iaload, 1) := by decide +kernel
theorem dX11_guessOf_95 : decode cX11_guessOf 95 = .ok (.if_icmp .gt 7, 3) := by decide +kernel
theorem dX11_guessOf_98 : decode cX11_guessOf 98 = .ok (.iconst 1, 1) := by decide +kernel
theorem dX11_guessOf_99 : decode cX11_guessOf 99 = .ok (.goto 4, 3) := by decide +kernel
theorem dX11_guessOf_102 : decode cX11_guessOf 102 = .ok (.iconst 0, 1) := by decide +kernel
theorem dX11_guessOf_103 : decode cX11_guessOf 103 = .ok (.istore 9, 2) := by decide +kernel
theorem dX11_guessOf_105 : decode cX11_guessOf 105 = .ok (.iload 6, 2) := by decide +kernel
theorem dX11_guessOf_107 : decode cX11_guessOf 107 = .ok (.ifCond .eq 32, 3) := by decide +kernel
theorem dX11_guessOf_110 : decode cX11_guessOf 110 = .ok (.iload 9, 2) := by decide +kernel
theorem dX11_guessOf_112 : decode cX11_guessOf 112 = .ok (.aload_n 0, 1) := by decide +kernel
theorem dX11_guessOf_113 : decode cX11_guessOf 113 = .ok (.getfield 28, 3) := by decide +kernel
theorem dX11_guessOf_116 : decode cX11_guessOf 116 = .ok (.iconst 3, 1) := by decide +kernel
theorem dX11_guessOf_117 : decode cX11_guessOf 117 = .ok (.iload 7, 2) := by decide +kernel
theorem dX11_guessOf_119 : decode cX11_guessOf 119 = .ok (.imul, 1) := by decide +kernel
theorem dX11_guessOf_120 : decode cX11_guessOf 120 = .ok (.iconst 2, 1) := by decide +kernel
theorem dX11_guessOf_121 : decode cX11_guessOf 121 = .ok (.iadd, 1) := by decide +kernel
theorem dX11_guessOf_122 : decode cX11_guessOf 122 = .ok (.iaload, 1) := by decide +kernel
theorem dX11_guessOf_123 : decode cX11_guessOf 123 = .ok (.iconst 1, 1) := by decide +kernel
theorem dX11_guessOf_124 : decode cX11_guessOf 124 = .ok (.if_icmp .ne 7, 3) := by decide +kernel
theorem dX11_guessOf_127 : decode cX11_guessOf 127 = .ok (.iconst 1, 1) := by decide +kernel
theorem dX11_guessOf_128 : decode cX11_guessOf 128 = .ok (.goto 4, 3) := by decide +kernel
theorem dX11_guessOf_131 : decode cX11_guessOf 131 = .ok (.iconst 0, 1) := by decide +kernel
theorem dX11_guessOf_132 : decode cX11_guessOf 132 = .ok (.if_icmp .ne 7, 3) := by decide +kernel
theorem dX11_guessOf_135 : decode cX11_guessOf 135 = .ok (.iconst 1, 1) := by decide +kernel
theorem dX11_guessOf_136 : decode cX11_guessOf 136 = .ok (.goto 4, 3) := by decide +kernel
theorem dX11_guessOf_139 : decode cX11_guessOf 139 = .ok (.iconst 0, 1) := by decide +kernel
theorem dX11_guessOf_140 : decode cX11_guessOf 140 = .ok (.istore 6, 2) := by decide +kernel
theorem dX11_guessOf_142 : decode cX11_guessOf 142 = .ok (.iinc 7 1, 3) := by decide +kernel
theorem dX11_guessOf_145 : decode cX11_guessOf 145 = .ok (.goto (-94), 3) := by decide +kernel
theorem dX11_guessOf_148 : decode cX11_guessOf 148 = .ok (.iload_n 2, 1) := by decide +kernel
theorem dX11_guessOf_149 : decode cX11_guessOf 149 = .ok (.iload 6, 2) := by decide +kernel
theorem dX11_guessOf_151 : decode cX11_guessOf 151 = .ok (.ifCond .eq 7, 3) := by decide +kernel
theorem dX11_guessOf_154 : decode cX11_guessOf 154 = .ok (.iconst 1, 1) := by decide +kernel
theorem dX11_guessOf_155 : decode cX11_guessOf 155 = .ok (.goto 4, 3) := by decide +kernel
theorem dX11_guessOf_158 : decode cX11_guessOf 158 = .ok (.iconst 0, 1) := by decide +kernel
theorem dX11_guessOf_159 : decode cX11_guessOf 159 = .ok (.iadd, 1) := by decide +kernel
theorem dX11_guessOf_160 : decode cX11_guessOf 160 = .ok (.istore_n 2, 1) := by decide +kernel
theorem dX11_guessOf_161 : decode cX11_guessOf 161 = .ok (.iload 6, 2) := by decide +kernel
theorem dX11_guessOf_163 : decode cX11_guessOf 163 = .ok (.ifCond .eq 8, 3) := by decide +kernel
theorem dX11_guessOf_166 : decode cX11_guessOf 166 = .ok (.iload 4, 2) := by decide +kernel
theorem dX11_guessOf_168 : decode cX11_guessOf 168 = .ok (.goto 4, 3) := by decide +kernel
theorem dX11_guessOf_171 : decode cX11_guessOf 171 = .ok (.iload_n 3, 1) := by decide +kernel
theorem dX11_guessOf_172 : decode cX11_guessOf 172 = .ok (.istore_n 3, 1) := by decide +kernel
theorem dX11_guessOf_173 : decode cX11_guessOf 173 = .ok (.iinc 4 (-1), 3) := by decide +kernel
theorem dX11_guessOf_176 : decode cX11_guessOf 176 = .ok (.goto (-168), 3) := by decide +kernel
theorem dX11_guessOf_179 : decode cX11_guessOf 179 = .ok (.iload_n 1, 1) := by decide +kernel
theorem dX11_guessOf_180 : decode cX11_guessOf 180 = .ok (.ifCond .ne 7, 3) := by decide +kernel
theorem dX11_guessOf_183 : decode cX11_guessOf 183 = .ok (.iload_n 2, 1) := by decide +kernel
theorem dX11_guessOf_184 : decode cX11_guessOf 184 = .ok (.goto 4, 3) := by decide +kernel
theorem dX11_guessOf_187 : decode cX11_guessOf 187 = .ok (.iload_n 3, 1) := by decide +kernel
theorem dX11_guessOf_188 : decode cX11_guessOf 188 = .ok (.ireturn, 1) := by decide +kernel
set_option maxRecDepth 20000 in
theorem ggX11_guess_X11_in : GoodIn wsX11_guess wsX11_in := goodIn_r _ [4] (by decide +kernel) (by decide +kernel)
set_option maxRecDepth 20000 in
theorem gX11_guess_X11_in : GoodIn wsX11_guess (va_wsS RX11 46 yX11_in wsX11_in) := goodIn_app (goodIn_of _ (by decide +kernel)) ggX11_guess_X11_in
set_option maxRecDepth 20000 in
theorem ggX11_guess_X11_lacks : GoodIn wsX11_guess wsX11_lacks := goodIn_r _ [8, 9, 52, 53, 54, 55, 56, 57, 58, 59, 60, 61, 62, 63, 64, 65, 66, 67, 68, 69, 70, 71, 72, 73, 74, 75, 76, 77, 78, 79, 80, 81, 82, 83] (by decide +kernel) (by decide +kernel)
set_option maxRecDepth 20000 in
theorem gX11_guess_X11_lacks : GoodIn wsX11_guess (wsV RX11 96 RX11 yX11_lacks wsX11_lacks) := goodIn_app (goodIn_of _ (by decide +kernel)) ggX11_guess_X11_lacks
set_option maxRecDepth 20000 in
theorem ggX11_guess_X11_guessOf : GoodIn wsX11_guess wsX11_guessOf := goodIn_r _ [13, 14, 15, 16, 17, 18, 19, 20, 21, 22, 3, 23, 9, 24, 25, 26, 27, 28, 29, 30, 31, 32, 33, 34, 35, 36, 37, 38, 39, 40, 41, 42, 43, 44, 45, 46, 47, 48, 49, 50, 51, 52, 53, 54, 55, 56, 57, 58, 59, 60, 61, 62, 63, 64, 65, 66, 67, 68, 69, 70, 71, 72, 73, 74, 75, 76, 77, 78, 79, 80, 81, 82, 83] (by decide +kernel) (by decide +kernel)
set_option maxRecDepth 20000 in
theorem gX11_guess_X11_guessOf : GoodIn wsX11_guess (wsV RX11 192 RX11 yX11_guessOf wsX11_guessOf) := goodIn_app (goodIn_of _ (by decide +kernel)) ggX11_guess_X11_guessOf
theorem dX11_guess_0 : decode cX11_guess 0 = .ok (.iload_n 1, 1) := by decide +kernel
theorem dX11_guess_1 : decode cX11_guess 1 = .ok (.i2l, 1) := by decide +kernel
theorem dX11_guess_2 : decode cX11_guess 2 = .ok (.lconst 0, 1) := by decide +kernel
theorem dX11_guess_3 : decode cX11_guess 3 = .ok (.lconst 1, 1) := by decide +kernel
theorem dX11_guess_4 : decode cX11_guess 4 = .ok (.invokestatic 46, 3) := by decide +kernel
theorem dX11_guess_7 : decode cX11_guess 7 = .ok (.ifCond .ne 6, 3) := by decide +kernel
theorem dX11_guess_10 : decode cX11_guess 10 = .ok (.bipush (-102), 2) := by decide +kernel
theorem dX11_guess_12 : decode cX11_guess 12 = .ok (.ireturn, 1) := by decide +kernel
theorem dX11_guess_13 : decode cX11_guess 13 = .ok (.aload_n 0, 1) := by decide +kernel
theorem dX11_guess_14 : decode cX11_guess 14 = .ok (.invokevirtual 96, 3) := by decide +kernel
theorem dX11_guess_17 : decode cX11_guess 17 = .ok (.ifCond .eq 8, 3) := by decide +kernel
theorem dX11_guess_20 : decode cX11_guess 20 = .ok (.bipush (-103), 2) := by decide +kernel
theorem dX11_guess_22 : decode cX11_guess 22 = .ok (.goto 8, 3) := by decide +kernel
theorem dX11_guess_25 : decode cX11_guess 25 = .ok (.aload_n 0, 1) := by decide +kernel
theorem dX11_guess_26 : decode cX11_guess 26 = .ok (.iload_n 1, 1) := by decide +kernel
theorem dX11_guess_27 : decode cX11_guess 27 = .ok (.invokevirtual 192, 3) := by decide +kernel
theorem dX11_guess_30 : decode cX11_guess 30 = .ok (.ireturn, 1) := by decide +kernel
theorem dX11_draw_0 : decode cX11_draw 0 = .ok (.aload_n 0, 1) := by decide +kernel
theorem dX11_draw_1 : decode cX11_draw 1 = .ok (.ldc2_w 195, 3) := by decide +kernel
theorem dX11_draw_4 : decode cX11_draw 4 = .ok (.aload_n 0, 1) := by decide +kernel
theorem dX11_draw_5 : decode cX11_draw 5 = .ok (.getfield 197, 3) := by decide +kernel
theorem dX11_draw_8 : decode cX11_draw 8 = .ok (.i2l, 1) := by decide +kernel
theorem dX11_draw_9 : decode cX11_draw 9 = .ok (.lmul, 1) := by decide +kernel
theorem dX11_draw_10 : decode cX11_draw 10 = .ok (.ldc2_w 200, 3) := by decide +kernel
theorem dX11_draw_13 : decode cX11_draw 13 = .ok (.ladd, 1) := by decide +kernel
theorem dX11_draw_14 : decode cX11_draw 14 = .ok (.ldc2_w 202, 3) := by decide +kernel
theorem dX11_draw_17 : decode cX11_draw 17 = .ok (.land, 1) := by decide +kernel
theorem dX11_draw_18 : decode cX11_draw 18 = .ok (.l2i, 1) := by decide +kernel
theorem dX11_draw_19 : decode cX11_draw 19 = .ok (.putfield 197, 3) := by decide +kernel
theorem dX11_draw_22 : decode cX11_draw 22 = .ok (.aload_n 0, 1) := by decide +kernel
theorem dX11_draw_23 : decode cX11_draw 23 = .ok (.getfield 197, 3) := by decide +kernel
theorem dX11_draw_26 : decode cX11_draw 26 = .ok (.ldc 204, 2) := by decide +kernel
theorem dX11_draw_28 : decode cX11_draw 28 = .ok (.idiv, 1) := by decide +kernel
theorem dX11_draw_29 : decode cX11_draw 29 = .ok (.iload_n 1, 1) := by decide +kernel
theorem dX11_draw_30 : decode cX11_draw 30 = .ok (.irem, 1) := by decide +kernel
theorem dX11_draw_31 : decode cX11_draw 31 = .ok (.ireturn, 1) := by decide +kernel
theorem dX11_copy_0 : decode cX11_copy 0 = .ok (.iconst 0, 1) := by decide +kernel
theorem dX11_copy_1 : decode cX11_copy 1 = .ok (.istore_n 2, 1) := by decide +kernel
theorem dX11_copy_2 : decode cX11_copy 2 = .ok (.iload_n 2, 1) := by decide +kernel
theorem dX11_copy_3 : decode cX11_copy 3 = .ok (.aload_n 0, 1) := by decide +kernel
theorem dX11_copy_4 : decode cX11_copy 4 = .ok (.arraylength, 1) := by decide +kernel
theorem dX11_copy_5 : decode cX11_copy 5 = .ok (.if_icmp .ge 15, 3) := by decide +kernel
theorem dX11_copy_8 : decode cX11_copy 8 = .ok (.aload_n 1, 1) := by decide +kernel
theorem dX11_copy_9 : decode cX11_copy 9 = .ok (.iload_n 2, 1) := by decide +kernel
theorem dX11_copy_10 : decode cX11_copy 10 = .ok (.aload_n 0, 1) := by decide +kernel
theorem dX11_copy_11 : decode cX11_copy 11 = .ok (.iload_n 2, 1) := by decide +kernel
theorem dX11_copy_12 : decode cX11_copy 12 = .ok (.iaload, 1) := by decide +kernel
theorem dX11_copy_13 : decode cX11_copy 13 = .ok (.iastore, 1) := by decide +kernel
theorem dX11_copy_14 : decode cX11_copy 14 = .ok (.iinc 2 1, 3) := by decide +kernel
theorem dX11_copy_17 : decode cX11_copy 17 = .ok (.goto (-15), 3) := by decide +kernel
theorem dX11_copy_20 : decode cX11_copy 20 = .ok (.return_, 1) := by decide +kernel
set_option maxRecDepth 20000 in
theorem ggX11_nights_X11_in : GoodIn wsX11_nights wsX11_in := goodIn_r _ [14] (by decide +kernel) (by decide +kernel)
set_option maxRecDepth 20000 in
theorem gX11_nights_X11_in : GoodIn wsX11_nights (va_wsS RX11 46 yX11_in wsX11_in) := goodIn_app (goodIn_of _ (by decide +kernel)) ggX11_nights_X11_in
set_option maxRecDepth 20000 in
theorem ggX11_nights_X11_lacks : GoodIn wsX11_nights wsX11_lacks := goodIn_r _ [18, 10, 62, 63, 64, 65, 66, 67, 68, 69, 70, 71, 72, 73, 74, 75, 76, 77, 78, 79, 80, 81, 82, 83, 84, 85, 86, 87, 88, 89, 90, 91, 92, 93] (by decide +kernel) (by decide +kernel)
set_option maxRecDepth 20000 in
theorem gX11_nights_X11_lacks : GoodIn wsX11_nights (wsV RX11 96 RX11 yX11_lacks wsX11_lacks) := goodIn_app (goodIn_of _ (by decide +kernel)) ggX11_nights_X11_lacks
set_option maxRecDepth 20000 in
theorem ggX11_nights_X11_copy : GoodIn wsX11_nights wsX11_copy := goodIn_r _ [21] (by decide +kernel) (by decide +kernel)
set_option maxRecDepth 20000 in
theorem gX11_nights_X11_copy : GoodIn wsX11_nights (va_wsS RX11 166 yX11_copy wsX11_copy) := goodIn_app (goodIn_of _ (by decide +kernel)) ggX11_nights_X11_copy
set_option maxRecDepth 20000 in
theorem ggX11_nights_X11_draw : GoodIn wsX11_nights wsX11_draw := goodIn_r _ [25, 26, 5, 27, 28, 29, 62, 63, 64, 65, 66, 67, 68, 69, 70, 71, 72, 73, 74, 75, 76, 77, 78, 79, 80, 81, 82, 83, 84, 85, 86, 87, 88, 89, 90, 91, 92, 93] (by decide +kernel) (by decide +kernel)
set_option maxRecDepth 20000 in
theorem gX11_nights_X11_draw : GoodIn wsX11_nights (wsV RX11 207 RX11 yX11_draw wsX11_draw) := goodIn_app (goodIn_of _ (by decide +kernel)) ggX11_nights_X11_draw
set_option maxRecDepth 20000 in
theorem ggX11_nights_X11_shutBits : GoodIn wsX11_nights wsX11_shutBits := goodIn_r _ [33, 10, 34, 35, 36, 13, 37, 3, 62, 63, 64, 65, 66, 67, 68, 69, 70, 71, 72, 73, 74, 75, 76, 77, 78, 79, 80, 81, 82, 83, 84, 85, 86, 87, 88, 89, 90, 91, 92, 93] (by decide +kernel) (by decide +kernel)
set_option maxRecDepth 20000 in
theorem gX11_nights_X11_shutBits : GoodIn wsX11_nights (wsV RX11 115 RX11 yX11_shutBits wsX11_shutBits) := goodIn_app (goodIn_of _ (by decide +kernel)) ggX11_nights_X11_shutBits
set_option maxRecDepth 20000 in
theorem ggX11_nights_X11_goesBy : GoodIn wsX11_nights wsX11_goesBy := goodIn_r _ [41, 42, 8, 43, 44, 45, 13, 46, 10, 47, 48, 49, 50, 3, 51, 52, 53, 54, 7, 55, 56, 57, 58, 59, 60, 61, 9, 62, 63, 64, 65, 66, 67, 68, 69, 70, 71, 72, 73, 74, 75, 76, 77, 78, 79, 80, 81, 82, 83, 84, 85, 86, 87, 88, 89, 90, 91, 92, 93] (by decide +kernel) (by decide +kernel)
set_option maxRecDepth 20000 in
theorem gX11_nights_X11_goesBy : GoodIn wsX11_nights (wsV RX11 135 RX11 yX11_goesBy wsX11_goesBy) := goodIn_app (goodIn_of _ (by decide +kernel)) ggX11_nights_X11_goesBy
theorem dX11_nights_0 : decode cX11_nights 0 = .ok (.iload_n 1, 1) := by decide +kernel
theorem dX11_nights_1 : decode cX11_nights 1 = .ok (.i2l, 1) := by decide +kernel
theorem dX11_nights_2 : decode cX11_nights 2 = .ok (.lconst 1, 1) := by decide +kernel
theorem dX11_nights_3 : decode cX11_nights 3 = .ok (.ldc2_w 205, 3) := by decide +kernel
theorem dX11_nights_6 : decode cX11_nights 6 = .ok (.invokestatic 46, 3) := by decide +kernel
theorem dX11_nights_9 : decode cX11_nights 9 = .ok (.ifCond .eq 19, 3) := by decide +kernel
theorem dX11_nights_12 : decode cX11_nights 12 = .ok (.iload_n 2, 1) := by decide +kernel
theorem dX11_nights_13 : decode cX11_nights 13 = .ok (.ifCond .lt 15, 3) := by decide +kernel
theorem dX11_nights_16 : decode cX11_nights 16 = .ok (.iload_n 3, 1) := by decide +kernel
theorem dX11_nights_17 : decode cX11_nights 17 = .ok (.i2l, 1) := by decide +kernel
theorem dX11_nights_18 : decode cX11_nights 18 = .ok (.lconst 0, 1) := by decide +kernel
theorem dX11_nights_19 : decode cX11_nights 19 = .ok (.ldc2_w 130, 3) := by decide +kernel
theorem dX11_nights_22 : decode cX11_nights 22 = .ok (.invokestatic 46, 3) := by decide +kernel
theorem dX11_nights_25 : decode cX11_nights 25 = .ok (.ifCond .ne 6, 3) := by decide +kernel
theorem dX11_nights_28 : decode cX11_nights 28 = .ok (.bipush (-102), 2) := by decide +kernel
theorem dX11_nights_30 : decode cX11_nights 30 = .ok (.ireturn, 1) := by decide +kernel
theorem dX11_nights_31 : decode cX11_nights 31 = .ok (.aload_n 0, 1) := by decide +kernel
theorem dX11_nights_32 : decode cX11_nights 32 = .ok (.invokevirtual 96, 3) := by decide +kernel
theorem dX11_nights_35 : decode cX11_nights 35 = .ok (.ifCond .eq 6, 3) := by decide +kernel
theorem dX11_nights_38 : decode cX11_nights 38 = .ok (.bipush (-103), 2) := by decide +kernel
theorem dX11_nights_40 : decode cX11_nights 40 = .ok (.ireturn, 1) := by decide +kernel
theorem dX11_nights_41 : decode cX11_nights 41 = .ok (.aload_n 0, 1) := by decide +kernel
theorem dX11_nights_42 : decode cX11_nights 42 = .ok (.getfield 13, 3) := by decide +kernel
theorem dX11_nights_45 : decode cX11_nights 45 = .ok (.aload_n 0, 1) := by decide +kernel
theorem dX11_nights_46 : decode cX11_nights 46 = .ok (.getfield 31, 3) := by decide +kernel
theorem dX11_nights_49 : decode cX11_nights 49 = .ok (.invokestatic 166, 3) := by decide +kernel
theorem dX11_nights_52 : decode cX11_nights 52 = .ok (.aload_n 0, 1) := by decide +kernel
theorem dX11_nights_53 : decode cX11_nights 53 = .ok (.iload_n 2, 1) := by decide +kernel
theorem dX11_nights_54 : decode cX11_nights 54 = .ok (.putfield 197, 3) := by decide +kernel
theorem dX11_nights_57 : decode cX11_nights 57 = .ok (.aload_n 0, 1) := by decide +kernel
theorem dX11_nights_58 : decode cX11_nights 58 = .ok (.aload_n 0, 1) := by decide +kernel
theorem dX11_nights_59 : decode cX11_nights 59 = .ok (.getfield 70, 3) := by decide +kernel
theorem dX11_nights_62 : decode cX11_nights 62 = .ok (.putfield 102, 3) := by decide +kernel
theorem dX11_nights_65 : decode cX11_nights 65 = .ok (.iconst 0, 1) := by decide +kernel
theorem dX11_nights_66 : decode cX11_nights 66 = .ok (.istore 4, 2) := by decide +kernel
theorem dX11_nights_68 : decode cX11_nights 68 = .ok (.iconst 0, 1) := by decide +kernel
theorem dX11_nights_69 : decode cX11_nights 69 = .ok (.istore 5, 2) := by decide +kernel
theorem dX11_nights_71 : decode cX11_nights 71 = .ok (.iload 5, 2) := by decide +kernel
theorem dX11_nights_73 : decode cX11_nights 73 = .ok (.iload_n 1, 1) := by decide +kernel
theorem dX11_nights_74 : decode cX11_nights 74 = .ok (.if_icmp .ge 85, 3) := by decide +kernel
theorem dX11_nights_77 : decode cX11_nights 77 = .ok (.aload_n 0, 1) := by decide +kernel
theorem dX11_nights_78 : decode cX11_nights 78 = .ok (.iconst 0, 1) := by decide +kernel
theorem dX11_nights_79 : decode cX11_nights 79 = .ok (.putfield 105, 3) := by decide +kernel
theorem dX11_nights_82 : decode cX11_nights 82 = .ok (.aload_n 0, 1) := by decide +kernel
theorem dX11_nights_83 : decode cX11_nights 83 = .ok (.iconst 0, 1) := by decide +kernel
theorem dX11_nights_84 : decode cX11_nights 84 = .ok (.putfield 108, 3) := by decide +kernel
theorem dX11_nights_87 : decode cX11_nights 87 = .ok (.iconst 0, 1) := by decide +kernel
theorem dX11_nights_88 : decode cX11_nights 88 = .ok (.istore 6, 2) := by decide +kernel
theorem dX11_nights_90 : decode cX11_nights 90 = .ok (.iload 6, 2) := by decide +kernel
theorem dX11_nights_92 : decode cX11_nights 92 = .ok (.aload_n 0, 1) := by decide +kernel
theorem dX11_nights_93 : decode cX11_nights 93 = .ok (.getfield 67, 3) := by decide +kernel
theorem dX11_nights_96 : decode cX11_nights 96 = .ok (.if_icmp .ge 35, 3) := by decide +kernel
theorem dX11_nights_99 : decode cX11_nights 99 = .ok (.aload_n 0, 1) := by decide +kernel
theorem dX11_nights_100 : decode cX11_nights 100 = .ok (.getfield 13, 3) := by decide +kernel
theorem dX11_nights_103 : decode cX11_nights 103 = .ok (.bipush 8, 2) := by decide +kernel
theorem dX11_nights_105 : decode cX11_nights 105 = .ok (.iload 6, 2) := by decide +kernel
theorem dX11_nights_107 : decode cX11_nights 107 = .ok (.imul, 1) := by decide +kernel
theorem dX11_nights_108 : decode cX11_nights 108 = .ok (.iconst 4, 1) := by decide +kernel
theorem dX11_nights_109 : decode cX11_nights 109 = .ok (.iadd, 1) := by decide +kernel
theorem dX11_nights_110 : decode cX11_nights 110 = .ok (.aload_n 0, 1) := by decide +kernel
theorem dX11_nights_111 : decode cX11_nights 111 = .ok (.iconst 2, 1) := by decide +kernel
theorem dX11_nights_112 : decode cX11_nights 112 = .ok (.invokevirtual 207, 3) := by decide +kernel
theorem dX11_nights_115 : decode cX11_nights 115 = .ok (.iconst 1, 1) := by decide +kernel
theorem dX11_nights_116 : decode cX11_nights 116 = .ok (.if_icmp .ne 7, 3) := by decide +kernel
theorem dX11_nights_119 : decode cX11_nights 119 = .ok (.iconst 0, 1) := by decide +kernel
theorem dX11_nights_120 : decode cX11_nights 120 = .ok (.goto 4, 3) := by decide +kernel
theorem dX11_nights_123 : decode cX11_nights 123 = .ok (.iconst (-1), 1) := by decide +kernel
theorem dX11_nights_124 : decode cX11_nights 124 = .ok (.iastore, 1) := by decide +kernel
theorem dX11_nights_125 : decode cX11_nights 125 = .ok (.iinc 6 1, 3) := by decide +kernel
theorem dX11_nights_128 : decode cX11_nights 128 = .ok (.goto (-38), 3) := by decide +kernel
theorem dX11_nights_131 : decode cX11_nights 131 = .ok (.aload_n 0, 1) := by decide +kernel
theorem dX11_nights_132 : decode cX11_nights 132 = .ok (.iconst 3, 1) := by decide +kernel
theorem dX11_nights_133 : decode cX11_nights 133 = .ok (.invokevirtual 207, 3) := by decide +kernel
theorem dX11_nights_136 : decode cX11_nights 136 = .ok (.istore 6, 2) := by decide +kernel
theorem dX11_nights_138 : decode cX11_nights 138 = .ok (.iload 4, 2) := by decide +kernel
theorem dX11_nights_140 : decode cX11_nights 140 = .ok (.aload_n 0, 1) := by decide +kernel
theorem dX11_nights_141 : decode cX11_nights 141 = .ok (.aload_n 0, 1) := by decide +kernel
theorem dX11_nights_142 : decode cX11_nights 142 = .ok (.invokevirtual 115, 3) := by decide +kernel
theorem dX11_nights_145 : decode cX11_nights 145 = .ok (.iload 6, 2) := by decide +kernel
theorem dX11_nights_147 : decode cX11_nights 147 = .ok (.invokevirtual 135, 3) := by decide +kernel
theorem dX11_nights_150 : decode cX11_nights 150 = .ok (.iadd, 1) := by decide +kernel
theorem dX11_nights_151 : decode cX11_nights 151 = .ok (.istore 4, 2) := by decide +kernel
theorem dX11_nights_153 : decode cX11_nights 153 = .ok (.iinc 5 1, 3) := by decide +kernel
theorem dX11_nights_156 : decode cX11_nights 156 = .ok (.goto (-85), 3) := by decide +kernel
theorem dX11_nights_159 : decode cX11_nights 159 = .ok (.aload_n 0, 1) := by decide +kernel
theorem dX11_nights_160 : decode cX11_nights 160 = .ok (.getfield 31, 3) := by decide +kernel
theorem dX11_nights_163 : decode cX11_nights 163 = .ok (.aload_n 0, 1) := by decide +kernel
theorem dX11_nights_164 : decode cX11_nights 164 = .ok (.getfield 13, 3) := by decide +kernel
theorem dX11_nights_167 : decode cX11_nights 167 = .ok (.invokestatic 166, 3) := by decide +kernel
theorem dX11_nights_170 : decode cX11_nights 170 = .ok (.iload_n 3, 1) := by decide +kernel
theorem dX11_nights_171 : decode cX11_nights 171 = .ok (.ifCond .ne 8, 3) := by decide +kernel
theorem dX11_nights_174 : decode cX11_nights 174 = .ok (.iload 4, 2) := by decide +kernel
theorem dX11_nights_176 : decode cX11_nights 176 = .ok (.goto 19, 3) := by decide +kernel
theorem dX11_nights_179 : decode cX11_nights 179 = .ok (.iload_n 3, 1) := by decide +kernel
theorem dX11_nights_180 : decode cX11_nights 180 = .ok (.iconst 1, 1) := by decide +kernel
theorem dX11_nights_181 : decode cX11_nights 181 = .ok (.if_icmp .ne 10, 3) := by decide +kernel
theorem dX11_nights_184 : decode cX11_nights 184 = .ok (.aload_n 0, 1) := by decide +kernel
theorem dX11_nights_185 : decode cX11_nights 185 = .ok (.getfield 102, 3) := by decide +kernel
theorem dX11_nights_188 : decode cX11_nights 188 = .ok (.goto 7, 3) := by decide +kernel
theorem dX11_nights_191 : decode cX11_nights 191 = .ok (.aload_n 0, 1) := by decide +kernel
theorem dX11_nights_192 : decode cX11_nights 192 = .ok (.getfield 197, 3) := by decide +kernel
theorem dX11_nights_195 : decode cX11_nights 195 = .ok (.ireturn, 1) := by decide +kernel
set_option maxRecDepth 20000 in
theorem ggX11_image_X11_lacks : GoodIn wsX11_image wsX11_lacks := goodIn_r _ [19, 20, 24, 25, 26, 27, 28, 29, 30, 31, 32, 33, 34, 35, 36, 37, 38, 39, 40, 41, 42, 43, 44, 45, 46, 47, 48, 49, 50, 51, 52, 53, 54, 55] (by decide +kernel) (by decide +kernel)
set_option maxRecDepth 20000 in
theorem gX11_image_X11_lacks : GoodIn wsX11_image (wsV RX11 96 RX11 yX11_lacks wsX11_lacks) := goodIn_app (goodIn_of _ (by decide +kernel)) ggX11_image_X11_lacks
set_option maxRecDepth 20000 in
theorem ggX11_image_X11_copy : GoodIn wsX11_image wsX11_copy := goodIn_r _ [23] (by decide +kernel) (by decide +kernel)
set_option maxRecDepth 20000 in
theorem gX11_image_X11_copy : GoodIn wsX11_image (va_wsS RX11 166 yX11_copy wsX11_copy) := goodIn_app (goodIn_of _ (by decide +kernel)) ggX11_image_X11_copy
theorem dX11_image_0 : decode cX11_image 0 = .ok (.aload_n 0, 1) := by decide +kernel
theorem dX11_image_1 : decode cX11_image 1 = .ok (.invokevirtual 96, 3) := by decide +kernel
theorem dX11_image_4 : decode cX11_image 4 = .ok (.ifCond .eq 6, 3) := by decide +kernel
theorem dX11_image_7 : decode cX11_image 7 = .ok (.bipush (-103), 2) := by decide +kernel
theorem dX11_image_9 : decode cX11_image 9 = .ok (.ireturn, 1) := by decide +kernel
theorem dX11_image_10 : decode cX11_image 10 = .ok (.aload_n 0, 1) := by decide +kernel
theorem dX11_image_11 : decode cX11_image 11 = .ok (.getfield 13, 3) := by decide +kernel
theorem dX11_image_14 : decode cX11_image 14 = .ok (.aload_n 0, 1) := by decide +kernel
theorem dX11_image_15 : decode cX11_image 15 = .ok (.getfield 34, 3) := by decide +kernel
theorem dX11_image_18 : decode cX11_image 18 = .ok (.invokestatic 166, 3) := by decide +kernel
theorem dX11_image_21 : decode cX11_image 21 = .ok (.aload_n 0, 1) := by decide +kernel
theorem dX11_image_22 : decode cX11_image 22 = .ok (.getfield 28, 3) := by decide +kernel
theorem dX11_image_25 : decode cX11_image 25 = .ok (.aload_n 0, 1) := by decide +kernel
theorem dX11_image_26 : decode cX11_image 26 = .ok (.getfield 37, 3) := by decide +kernel
theorem dX11_image_29 : decode cX11_image 29 = .ok (.invokestatic 166, 3) := by decide +kernel
theorem dX11_image_32 : decode cX11_image 32 = .ok (.aload_n 0, 1) := by decide +kernel
theorem dX11_image_33 : decode cX11_image 33 = .ok (.aload_n 0, 1) := by decide +kernel
theorem dX11_image_34 : decode cX11_image 34 = .ok (.getfield 70, 3) := by decide +kernel
theorem dX11_image_37 : decode cX11_image 37 = .ok (.putfield 210, 3) := by decide +kernel
theorem dX11_image_40 : decode cX11_image 40 = .ok (.aload_n 0, 1) := by decide +kernel
theorem dX11_image_41 : decode cX11_image 41 = .ok (.aload_n 0, 1) := by decide +kernel
theorem dX11_image_42 : decode cX11_image 42 = .ok (.getfield 73, 3) := by decide +kernel
theorem dX11_image_45 : decode cX11_image 45 = .ok (.putfield 213, 3) := by decide +kernel
theorem dX11_image_48 : decode cX11_image 48 = .ok (.aload_n 0, 1) := by decide +kernel
theorem dX11_image_49 : decode cX11_image 49 = .ok (.aload_n 0, 1) := by decide +kernel
theorem dX11_image_50 : decode cX11_image 50 = .ok (.getfield 76, 3) := by decide +kernel
theorem dX11_image_53 : decode cX11_image 53 = .ok (.putfield 216, 3) := by decide +kernel
theorem dX11_image_56 : decode cX11_image 56 = .ok (.aload_n 0, 1) := by decide +kernel
theorem dX11_image_57 : decode cX11_image 57 = .ok (.aload_n 0, 1) := by decide +kernel
theorem dX11_image_58 : decode cX11_image 58 = .ok (.getfield 79, 3) := by decide +kernel
theorem dX11_image_61 : decode cX11_image 61 = .ok (.putfield 219, 3) := by decide +kernel
theorem dX11_image_64 : decode cX11_image 64 = .ok (.aload_n 0, 1) := by decide +kernel
theorem dX11_image_65 : decode cX11_image 65 = .ok (.aload_n 0, 1) := by decide +kernel
theorem dX11_image_66 : decode cX11_image 66 = .ok (.getfield 82, 3) := by decide +kernel
theorem dX11_image_69 : decode cX11_image 69 = .ok (.putfield 40, 3) := by decide +kernel
theorem dX11_image_72 : decode cX11_image 72 = .ok (.aload_n 0, 1) := by decide +kernel
theorem dX11_image_73 : decode cX11_image 73 = .ok (.getfield 76, 3) := by decide +kernel
theorem dX11_image_76 : decode cX11_image 76 = .ok (.ireturn, 1) := by decide +kernel
set_option maxRecDepth 20000 in
theorem ggX11_restore_X11_copy : GoodIn wsX11_restore wsX11_copy := goodIn_r _ [18] (by decide +kernel) (by decide +kernel)
set_option maxRecDepth 20000 in
theorem gX11_restore_X11_copy : GoodIn wsX11_restore (va_wsS RX11 166 yX11_copy wsX11_copy) := goodIn_app (goodIn_of _ (by decide +kernel)) ggX11_restore_X11_copy
theorem dX11_restore_0 : decode cX11_restore 0 = .ok (.aload_n 0, 1) := by decide +kernel
theorem dX11_restore_1 : decode cX11_restore 1 = .ok (.getfield 40, 3) := by decide +kernel
theorem dX11_restore_4 : decode cX11_restore 4 = .ok (.aload_n 0, 1) := by decide +kernel
theorem dX11_restore_5 : decode cX11_restore 5 = .ok (.getfield 82, 3) := by decide +kernel
theorem dX11_restore_8 : decode cX11_restore 8 = .ok (.if_icmp .eq 6, 3) := by decide +kernel
theorem dX11_restore_11 : decode cX11_restore 11 = .ok (.bipush (-103), 2) := by decide +kernel
theorem dX11_restore_13 : decode cX11_restore 13 = .ok (.ireturn, 1) := by decide +kernel
theorem dX11_restore_14 : decode cX11_restore 14 = .ok (.aload_n 0, 1) := by decide +kernel
theorem dX11_restore_15 : decode cX11_restore 15 = .ok (.getfield 34, 3) := by decide +kernel
theorem dX11_restore_18 : decode cX11_restore 18 = .ok (.aload_n 0, 1) := by decide +kernel
theorem dX11_restore_19 : decode cX11_restore 19 = .ok (.getfield 13, 3) := by decide +kernel
theorem dX11_restore_22 : decode cX11_restore 22 = .ok (.invokestatic 166, 3) := by decide +kernel
theorem dX11_restore_25 : decode cX11_restore 25 = .ok (.aload_n 0, 1) := by decide +kernel
theorem dX11_restore_26 : decode cX11_restore 26 = .ok (.getfield 37, 3) := by decide +kernel
theorem dX11_restore_29 : decode cX11_restore 29 = .ok (.aload_n 0, 1) := by decide +kernel
theorem dX11_restore_30 : decode cX11_restore 30 = .ok (.getfield 28, 3) := by decide +kernel
theorem dX11_restore_33 : decode cX11_restore 33 = .ok (.invokestatic 166, 3) := by decide +kernel
theorem dX11_restore_36 : decode cX11_restore 36 = .ok (.aload_n 0, 1) := by decide +kernel
theorem dX11_restore_37 : decode cX11_restore 37 = .ok (.aload_n 0, 1) := by decide +kernel
theorem dX11_restore_38 : decode cX11_restore 38 = .ok (.getfield 210, 3) := by decide +kernel
theorem dX11_restore_41 : decode cX11_restore 41 = .ok (.putfield 70, 3) := by decide +kernel
theorem dX11_restore_44 : decode cX11_restore 44 = .ok (.aload_n 0, 1) := by decide +kernel
theorem dX11_restore_45 : decode cX11_restore 45 = .ok (.aload_n 0, 1) := by decide +kernel
theorem dX11_restore_46 : decode cX11_restore 46 = .ok (.getfield 213, 3) := by decide +kernel
theorem dX11_restore_49 : decode cX11_restore 49 = .ok (.putfield 73, 3) := by decide +kernel
theorem dX11_restore_52 : decode cX11_restore 52 = .ok (.aload_n 0, 1) := by decide +kernel
theorem dX11_restore_53 : decode cX11_restore 53 = .ok (.aload_n 0, 1) := by decide +kernel
theorem dX11_restore_54 : decode cX11_restore 54 = .ok (.getfield 216, 3) := by decide +kernel
theorem dX11_restore_57 : decode cX11_restore 57 = .ok (.putfield 76, 3) := by decide +kernel
theorem dX11_restore_60 : decode cX11_restore 60 = .ok (.aload_n 0, 1) := by decide +kernel
theorem dX11_restore_61 : decode cX11_restore 61 = .ok (.aload_n 0, 1) := by decide +kernel
theorem dX11_restore_62 : decode cX11_restore 62 = .ok (.getfield 219, 3) := by decide +kernel
theorem dX11_restore_65 : decode cX11_restore 65 = .ok (.putfield 79, 3) := by decide +kernel
theorem dX11_restore_68 : decode cX11_restore 68 = .ok (.aload_n 0, 1) := by decide +kernel
theorem dX11_restore_69 : decode cX11_restore 69 = .ok (.getfield 76, 3) := by decide +kernel
theorem dX11_restore_72 : decode cX11_restore 72 = .ok (.ireturn, 1) := by decide +kernel
set_option maxRecDepth 20000 in
theorem ggX11_sumOf_X11_isShut : GoodIn wsX11_sumOf wsX11_isShut := goodIn_r _ [7, 2, 8, 9, 10, 11, 12, 13, 14, 15, 16, 17, 18, 19, 20, 21, 22, 23, 24, 25, 26, 27, 28, 29, 30, 31, 32, 33, 34, 35, 36, 37, 38, 39] (by decide +kernel) (by decide +kernel)
set_option maxRecDepth 20000 in
theorem gX11_sumOf_X11_isShut : GoodIn wsX11_sumOf (wsV RX11 93 RX11 yX11_isShut wsX11_isShut) := goodIn_app (goodIn_of _ (by decide +kernel)) ggX11_sumOf_X11_isShut
theorem dX11_sumOf_0 : decode cX11_sumOf 0 = .ok (.iconst 0, 1) := by decide +kernel
theorem dX11_sumOf_1 : decode cX11_sumOf 1 = .ok (.istore_n 2, 1) := by decide +kernel
theorem dX11_sumOf_2 : decode cX11_sumOf 2 = .ok (.iconst 0, 1) := by decide +kernel
theorem dX11_sumOf_3 : decode cX11_sumOf 3 = .ok (.istore_n 3, 1) := by decide +kernel
theorem dX11_sumOf_4 : decode cX11_sumOf 4 = .ok (.iload_n 3, 1) := by decide +kernel
theorem dX11_sumOf_5 : decode cX11_sumOf 5 = .ok (.aload_n 0, 1) := by decide +kernel
theorem dX11_sumOf_6 : decode cX11_sumOf 6 = .ok (.getfield 67, 3) := by decide +kernel
theorem dX11_sumOf_9 : decode cX11_sumOf 9 = .ok (.if_icmp .ge 44, 3) := by decide +kernel
theorem dX11_sumOf_12 : decode cX11_sumOf 12 = .ok (.iload_n 2, 1) := by decide +kernel
theorem dX11_sumOf_13 : decode cX11_sumOf 13 = .ok (.iload_n 1, 1) := by decide +kernel
theorem dX11_sumOf_14 : decode cX11_sumOf 14 = .ok (.iconst 4, 1) := by decide +kernel
theorem dX11_sumOf_15 : decode cX11_sumOf 15 = .ok (.if_icmp .ne 19, 3) := by decide +kernel
theorem dX11_sumOf_18 : decode cX11_sumOf 18 = .ok (.aload_n 0, 1) := by decide +kernel
theorem dX11_sumOf_19 : decode cX11_sumOf 19 = .ok (.iload_n 3, 1) := by decide +kernel
theorem dX11_sumOf_20 : decode cX11_sumOf 20 = .ok (.invokevirtual 93, 3) := by decide +kernel
theorem dX11_sumOf_23 : decode cX11_sumOf 23 = .ok (.ifCond .eq 7, 3) := by decide +kernel
theorem dX11_sumOf_26 : decode cX11_sumOf 26 = .ok (.iconst 1, 1) := by decide +kernel
theorem dX11_sumOf_27 : decode cX11_sumOf 27 = .ok (.goto 18, 3) := by decide +kernel
theorem dX11_sumOf_30 : decode cX11_sumOf 30 = .ok (.iconst 0, 1) := by decide +kernel
theorem dX11_sumOf_31 : decode cX11_sumOf 31 = .ok (.goto 14, 3) := by decide +kernel
theorem dX11_sumOf_34 : decode cX11_sumOf 34 = .ok (.aload_n 0, 1) := by decide +kernel
theorem dX11_sumOf_35 : decode cX11_sumOf 35 = .ok (.getfield 13, 3) := by decide +kernel
theorem dX11_sumOf_38 : decode cX11_sumOf 38 = .ok (.bipush 8, 2) := by decide +kernel
theorem dX11_sumOf_40 : decode cX11_sumOf 40 = .ok (.iload_n 3, 1) := by decide +kernel
theorem dX11_sumOf_41 : decode cX11_sumOf 41 = .ok (.imul, 1) := by decide +kernel
theorem dX11_sumOf_42 : decode cX11_sumOf 42 = .ok (.iload_n 1, 1) := by decide +kernel
theorem dX11_sumOf_43 : decode cX11_sumOf 43 = .ok (.iadd, 1) := by decide +kernel
theorem dX11_sumOf_44 : decode cX11_sumOf 44 = .ok (.iaload, 1) := by decide +kernel
theorem dX11_sumOf_45 : decode cX11_sumOf 45 = .ok (.iadd, 1) := by decide +kernel
theorem dX11_sumOf_46 : decode cX11_sumOf 46 = .ok (.istore_n 2, 1) := by decide +kernel
theorem dX11_sumOf_47 : decode cX11_sumOf 47 = .ok (.iinc 3 1, 3) := by decide +kernel
theorem dX11_sumOf_50 : decode cX11_sumOf 50 = .ok (.goto (-46), 3) := by decide +kernel
theorem dX11_sumOf_53 : decode cX11_sumOf 53 = .ok (.iload_n 2, 1) := by decide +kernel
theorem dX11_sumOf_54 : decode cX11_sumOf 54 = .ok (.ireturn, 1) := by decide +kernel
set_option maxRecDepth 20000 in
theorem ggX11_countOf_X11_sumOf : GoodIn wsX11_countOf wsX11_sumOf := goodIn_r _ [13, 1, 14, 15, 16, 17, 12, 18, 19, 20, 21, 22, 23, 24, 25, 26, 27, 28, 29, 30, 31, 32, 33, 34, 35, 36, 37, 38, 39, 40, 41, 42, 43, 44, 45, 46, 47, 48, 49, 50] (by decide +kernel) (by decide +kernel)
set_option maxRecDepth 20000 in
theorem gX11_countOf_X11_sumOf : GoodIn wsX11_countOf (wsV RX11 222 RX11 yX11_sumOf wsX11_sumOf) := goodIn_app (goodIn_of _ (by decide +kernel)) ggX11_countOf_X11_sumOf
theorem dX11_countOf_0 : decode cX11_countOf 0 = .ok (.iload_n 1, 1) := by decide +kernel
theorem dX11_countOf_1 : decode cX11_countOf 1 = .ok (.tableswitch 119 0 10 #[59, 64, 70, 75, 80, 85, 92, 99, 104, 109, 114], 59) := by decide +kernel
theorem dX11_countOf_60 : decode cX11_countOf 60 = .ok (.aload_n 0, 1) := by decide +kernel
theorem dX11_countOf_61 : decode cX11_countOf 61 = .ok (.getfield 67, 3) := by decide +kernel
theorem dX11_countOf_64 : decode cX11_countOf 64 = .ok (.ireturn, 1) := by decide +kernel
theorem dX11_countOf_65 : decode cX11_countOf 65 = .ok (.aload_n 0, 1) := by decide +kernel
theorem dX11_countOf_66 : decode cX11_countOf 66 = .ok (.iconst 4, 1) := by decide +kernel
theorem dX11_countOf_67 : decode cX11_countOf 67 = .ok (.invokevirtual 222, 3) := by decide +kernel
theorem dX11_countOf_70 : decode cX11_countOf 70 = .ok (.ireturn, 1) := by decide +kernel
theorem dX11_countOf_71 : decode cX11_countOf 71 = .ok (.aload_n 0, 1) := by decide +kernel
theorem dX11_countOf_72 : decode cX11_countOf 72 = .ok (.getfield 70, 3) := by decide +kernel
theorem dX11_countOf_75 : decode cX11_countOf 75 = .ok (.ireturn, 1) := by decide +kernel
theorem dX11_countOf_76 : decode cX11_countOf 76 = .ok (.aload_n 0, 1) := by decide +kernel
theorem dX11_countOf_77 : decode cX11_countOf 77 = .ok (.getfield 76, 3) := by decide +kernel
theorem dX11_countOf_80 : decode cX11_countOf 80 = .ok (.ireturn, 1) := by decide +kernel
theorem dX11_countOf_81 : decode cX11_countOf 81 = .ok (.aload_n 0, 1) := by decide +kernel
theorem dX11_countOf_82 : decode cX11_countOf 82 = .ok (.getfield 73, 3) := by decide +kernel
theorem dX11_countOf_85 : decode cX11_countOf 85 = .ok (.ireturn, 1) := by decide +kernel
theorem dX11_countOf_86 : decode cX11_countOf 86 = .ok (.aload_n 0, 1) := by decide +kernel
theorem dX11_countOf_87 : decode cX11_countOf 87 = .ok (.bipush 6, 2) := by decide +kernel
theorem dX11_countOf_89 : decode cX11_countOf 89 = .ok (.invokevirtual 222, 3) := by decide +kernel
theorem dX11_countOf_92 : decode cX11_countOf 92 = .ok (.ireturn, 1) := by decide +kernel
theorem dX11_countOf_93 : decode cX11_countOf 93 = .ok (.aload_n 0, 1) := by decide +kernel
theorem dX11_countOf_94 : decode cX11_countOf 94 = .ok (.bipush 7, 2) := by decide +kernel
theorem dX11_countOf_96 : decode cX11_countOf 96 = .ok (.invokevirtual 222, 3) := by decide +kernel
theorem dX11_countOf_99 : decode cX11_countOf 99 = .ok (.ireturn, 1) := by decide +kernel
theorem dX11_countOf_100 : decode cX11_countOf 100 = .ok (.aload_n 0, 1) := by decide +kernel
theorem dX11_countOf_101 : decode cX11_countOf 101 = .ok (.getfield 79, 3) := by decide +kernel
theorem dX11_countOf_104 : decode cX11_countOf 104 = .ok (.ireturn, 1) := by decide +kernel
theorem dX11_countOf_105 : decode cX11_countOf 105 = .ok (.aload_n 0, 1) := by decide +kernel
theorem dX11_countOf_106 : decode cX11_countOf 106 = .ok (.getfield 50, 3) := by decide +kernel
theorem dX11_countOf_109 : decode cX11_countOf 109 = .ok (.ireturn, 1) := by decide +kernel
theorem dX11_countOf_110 : decode cX11_countOf 110 = .ok (.aload_n 0, 1) := by decide +kernel
theorem dX11_countOf_111 : decode cX11_countOf 111 = .ok (.getfield 82, 3) := by decide +kernel
theorem dX11_countOf_114 : decode cX11_countOf 114 = .ok (.ireturn, 1) := by decide +kernel
theorem dX11_countOf_115 : decode cX11_countOf 115 = .ok (.aload_n 0, 1) := by decide +kernel
theorem dX11_countOf_116 : decode cX11_countOf 116 = .ok (.getfield 184, 3) := by decide +kernel
theorem dX11_countOf_119 : decode cX11_countOf 119 = .ok (.ireturn, 1) := by decide +kernel
theorem dX11_countOf_120 : decode cX11_countOf 120 = .ok (.bipush (-102), 2) := by decide +kernel
theorem dX11_countOf_122 : decode cX11_countOf 122 = .ok (.ireturn, 1) := by decide +kernel
set_option maxRecDepth 20000 in
theorem ggX11_count_X11_countOf : GoodIn wsX11_count wsX11_countOf := goodIn_r _ [5, 6, 7, 8, 9, 10, 11, 12, 13, 14, 15, 16, 4, 17, 18, 19, 20, 21, 22, 23, 24, 25, 26, 27, 28, 29, 30, 31, 32, 33, 34, 35, 36, 37, 38, 39, 40, 41, 42, 43, 44, 45, 46, 47, 48, 49, 50, 51, 52, 53, 54] (by decide +kernel) (by decide +kernel)
set_option maxRecDepth 20000 in
theorem gX11_count_X11_countOf : GoodIn wsX11_count (wsV RX11 225 RX11 yX11_countOf wsX11_countOf) := goodIn_app (goodIn_of _ (by decide +kernel)) ggX11_count_X11_countOf
theorem dX11_count_0 : decode cX11_count 0 = .ok (.aload_n 0, 1) := by decide +kernel
theorem dX11_count_1 : decode cX11_count 1 = .ok (.iload_n 1, 1) := by decide +kernel
theorem dX11_count_2 : decode cX11_count 2 = .ok (.invokevirtual 225, 3) := by decide +kernel
theorem dX11_count_5 : decode cX11_count 5 = .ok (.ireturn, 1) := by decide +kernel
theorem dX11_say_0 : decode cX11_say 0 = .ok (.aload_n 0, 1) := by decide +kernel
theorem dX11_say_1 : decode cX11_say 1 = .ok (.ldc2_w 228, 3) := by decide +kernel
theorem dX11_say_4 : decode cX11_say 4 = .ok (.aload_n 0, 1) := by decide +kernel
theorem dX11_say_5 : decode cX11_say 5 = .ok (.getfield 230, 3) := by decide +kernel
theorem dX11_say_8 : decode cX11_say 8 = .ok (.lmul, 1) := by decide +kernel
theorem dX11_say_9 : decode cX11_say 9 = .ok (.lload_n 1, 1) := by decide +kernel
theorem dX11_say_10 : decode cX11_say 10 = .ok (.ladd, 1) := by decide +kernel
theorem dX11_say_11 : decode cX11_say 11 = .ok (.putfield 230, 3) := by decide +kernel
theorem dX11_say_14 : decode cX11_say 14 = .ok (.return_, 1) := by decide +kernel
set_option maxRecDepth 20000 in
theorem ggX11_sayTown_X11_asItIs : GoodIn wsX11_sayTown wsX11_asItIs := goodIn_r _ [13, 1, 14, 15, 16, 2, 17, 93, 94, 95, 96, 97, 98, 99, 100, 101, 102, 103, 104, 105, 106, 107, 108, 109, 110, 111, 112, 113, 114, 115, 116, 117, 118, 119, 120, 121, 122, 123, 124] (by decide +kernel) (by decide +kernel)
set_option maxRecDepth 20000 in
theorem gX11_sayTown_X11_asItIs : GoodIn wsX11_sayTown (wsV RX11 121 RX11 yX11_asItIs wsX11_asItIs) := goodIn_app (goodIn_of _ (by decide +kernel)) ggX11_sayTown_X11_asItIs
set_option maxRecDepth 20000 in
theorem ggX11_sayTown_X11_shutBits : GoodIn wsX11_sayTown wsX11_shutBits := goodIn_r _ [21, 22, 23, 24, 25, 12, 26, 27, 93, 94, 95, 96, 97, 98, 99, 100, 101, 102, 103, 104, 105, 106, 107, 108, 109, 110, 111, 112, 113, 114, 115, 116, 117, 118, 119, 120, 121, 122, 123, 124] (by decide +kernel) (by decide +kernel)
set_option maxRecDepth 20000 in
theorem gX11_sayTown_X11_shutBits : GoodIn wsX11_sayTown (wsV RX11 115 RX11 yX11_shutBits wsX11_shutBits) := goodIn_app (goodIn_of _ (by decide +kernel)) ggX11_sayTown_X11_shutBits
set_option maxRecDepth 20000 in
theorem ggX11_sayTown_X11_nextOf : GoodIn wsX11_sayTown wsX11_nextOf := goodIn_r _ [31, 22, 32, 33, 34, 12, 35, 27, 36, 37, 38, 39, 14, 40, 41, 42, 93, 94, 95, 96, 97, 98, 99, 100, 101, 102, 103, 104, 105, 106, 107, 108, 109, 110, 111, 112, 113, 114, 115, 116, 117, 118, 119, 120, 121, 122, 123, 124] (by decide +kernel) (by decide +kernel)
set_option maxRecDepth 20000 in
theorem gX11_sayTown_X11_nextOf : GoodIn wsX11_sayTown (wsV RX11 132 RX11 yX11_nextOf wsX11_nextOf) := goodIn_app (goodIn_of _ (by decide +kernel)) ggX11_sayTown_X11_nextOf
set_option maxRecDepth 20000 in
theorem ggX11_sayTown_X11_say : GoodIn wsX11_sayTown wsX11_say := goodIn_r _ [46, 47, 48, 93, 94, 95, 96, 97, 98, 99, 100, 101, 102, 103, 104, 105, 106, 107, 108, 109, 110, 111, 112, 113, 114, 115, 116, 117, 118, 119, 120, 121, 122, 123, 124] (by decide +kernel) (by decide +kernel)
set_option maxRecDepth 20000 in
theorem gX11_sayTown_X11_say : GoodIn wsX11_sayTown (wsV RX11 234 RX11 yX11_say wsX11_say) := goodIn_app (goodIn_of _ (by decide +kernel)) ggX11_sayTown_X11_say
set_option maxRecDepth 20000 in
theorem ggX11_sayTown_X11_byOf : GoodIn wsX11_sayTown wsX11_byOf := goodIn_r _ [52, 16, 14, 9, 10, 11, 12, 13, 1, 15, 2, 17, 18, 19, 20, 21, 22, 23, 24, 25, 26, 27, 53, 54, 55, 56, 57, 28, 29, 30, 31, 32, 33, 34, 35, 36, 37, 38, 39, 40, 41, 42, 58, 59, 60, 61, 93, 94, 95, 96, 97, 98, 99, 100, 101, 102, 103, 104, 105, 106, 107, 108, 109, 110, 111, 112, 113, 114, 115, 116, 117, 118, 119, 120, 121, 122, 123, 124] (by decide +kernel) (by decide +kernel)
set_option maxRecDepth 20000 in
theorem gX11_sayTown_X11_byOf : GoodIn wsX11_sayTown (wsV RX11 138 RX11 yX11_byOf wsX11_byOf) := goodIn_app (goodIn_of _ (by decide +kernel)) ggX11_sayTown_X11_byOf
set_option maxRecDepth 20000 in
theorem ggX11_sayTown_X11_layBest : GoodIn wsX11_sayTown wsX11_layBest := goodIn_r _ [65, 3, 15, 4, 8, 14, 16, 17, 5, 66, 6, 18, 19, 20, 12, 21, 22, 23, 24, 25, 26, 27, 67, 68, 69, 70, 71, 72, 73, 74, 75, 76, 77, 78, 79, 80, 81, 82, 83, 32, 33, 34, 35, 58, 59, 60, 61, 40, 41, 42, 84, 85, 86, 93, 94, 95, 96, 97, 98, 99, 100, 101, 102, 103, 104, 105, 106, 107, 108, 109, 110, 111, 112, 113, 114, 115, 116, 117, 118, 119, 120, 121, 122, 123, 124] (by decide +kernel) (by decide +kernel)
set_option maxRecDepth 20000 in
theorem gX11_sayTown_X11_layBest : GoodIn wsX11_sayTown (wsV RX11 170 RX11 yX11_layBest wsX11_layBest) := goodIn_app (goodIn_of _ (by decide +kernel)) ggX11_sayTown_X11_layBest
set_option maxRecDepth 20000 in
theorem ggX11_sayTown_X11_guessOf : GoodIn wsX11_sayTown wsX11_guessOf := goodIn_r _ [90, 14, 16, 17, 91, 57, 92, 18, 19, 20, 12, 21, 22, 23, 24, 25, 26, 27, 53, 54, 55, 56, 28, 29, 30, 31, 32, 33, 34, 35, 36, 37, 38, 39, 40, 41, 42, 58, 59, 60, 61, 93, 94, 95, 96, 97, 98, 99, 100, 101, 102, 103, 104, 105, 106, 107, 108, 109, 110, 111, 112, 113, 114, 115, 116, 117, 118, 119, 120, 121, 122, 123, 124] (by decide +kernel) (by decide +kernel)
set_option maxRecDepth 20000 in
theorem gX11_sayTown_X11_guessOf : GoodIn wsX11_sayTown (wsV RX11 192 RX11 yX11_guessOf wsX11_guessOf) := goodIn_app (goodIn_of _ (by decide +kernel)) ggX11_sayTown_X11_guessOf
theorem dX11_sayTown_0 : decode cX11_sayTown 0 = .ok (.iconst 0, 1) := by decide +kernel
theorem dX11_sayTown_1 : decode cX11_sayTown 1 = .ok (.istore_n 1, 1) := by decide +kernel
theorem dX11_sayTown_2 : decode cX11_sayTown 2 = .ok (.iload_n 1, 1) := by decide +kernel
theorem dX11_sayTown_3 : decode cX11_sayTown 3 = .ok (.iconst 3, 1) := by decide +kernel
theorem dX11_sayTown_4 : decode cX11_sayTown 4 = .ok (.if_icmp .ge 51, 3) := by decide +kernel
theorem dX11_sayTown_7 : decode cX11_sayTown 7 = .ok (.aload_n 0, 1) := by decide +kernel
theorem dX11_sayTown_8 : decode cX11_sayTown 8 = .ok (.invokevirtual 121, 3) := by decide +kernel
theorem dX11_sayTown_11 : decode cX11_sayTown 11 = .ok (.aload_n 0, 1) := by decide +kernel
theorem dX11_sayTown_12 : decode cX11_sayTown 12 = .ok (.aload_n 0, 1) := by decide +kernel
theorem dX11_sayTown_13 : decode cX11_sayTown 13 = .ok (.aload_n 0, 1) := by decide +kernel
theorem dX11_sayTown_14 : decode cX11_sayTown 14 = .ok (.invokevirtual 115, 3) := by decide +kernel
theorem dX11_sayTown_17 : decode cX11_sayTown 17 = .ok (.iload_n 1, 1) := by decide +kernel
theorem dX11_sayTown_18 : decode cX11_sayTown 18 = .ok (.invokevirtual 132, 3) := by decide +kernel
theorem dX11_sayTown_21 : decode cX11_sayTown 21 = .ok (.i2l, 1) := by decide +kernel
theorem dX11_sayTown_22 : decode cX11_sayTown 22 = .ok (.invokevirtual 234, 3) := by decide +kernel
theorem dX11_sayTown_25 : decode cX11_sayTown 25 = .ok (.iconst 0, 1) := by decide +kernel
theorem dX11_sayTown_26 : decode cX11_sayTown 26 = .ok (.istore_n 2, 1) := by decide +kernel
theorem dX11_sayTown_27 : decode cX11_sayTown 27 = .ok (.iload_n 2, 1) := by decide +kernel
theorem dX11_sayTown_28 : decode cX11_sayTown 28 = .ok (.iconst 3, 1) := by decide +kernel
theorem dX11_sayTown_29 : decode cX11_sayTown 29 = .ok (.if_icmp .ge 20, 3) := by decide +kernel
theorem dX11_sayTown_32 : decode cX11_sayTown 32 = .ok (.aload_n 0, 1) := by decide +kernel
theorem dX11_sayTown_33 : decode cX11_sayTown 33 = .ok (.aload_n 0, 1) := by decide +kernel
theorem dX11_sayTown_34 : decode cX11_sayTown 34 = .ok (.iload_n 1, 1) := by decide +kernel
theorem dX11_sayTown_35 : decode cX11_sayTown 35 = .ok (.iload_n 2, 1) := by decide +kernel
theorem dX11_sayTown_36 : decode cX11_sayTown 36 = .ok (.invokevirtual 138, 3) := by decide +kernel
theorem dX11_sayTown_39 : decode cX11_sayTown 39 = .ok (.i2l, 1) := by decide +kernel
theorem dX11_sayTown_40 : decode cX11_sayTown 40 = .ok (.invokevirtual 234, 3) := by decide +kernel
theorem dX11_sayTown_43 : decode cX11_sayTown 43 = .ok (.iinc 2 1, 3) := by decide +kernel
theorem dX11_sayTown_46 : decode cX11_sayTown 46 = .ok (.goto (-19), 3) := by decide +kernel
theorem dX11_sayTown_49 : decode cX11_sayTown 49 = .ok (.iinc 1 1, 3) := by decide +kernel
theorem dX11_sayTown_52 : decode cX11_sayTown 52 = .ok (.goto (-50), 3) := by decide +kernel
theorem dX11_sayTown_55 : decode cX11_sayTown 55 = .ok (.aload_n 0, 1) := by decide +kernel
theorem dX11_sayTown_56 : decode cX11_sayTown 56 = .ok (.aload_n 0, 1) := by decide +kernel
theorem dX11_sayTown_57 : decode cX11_sayTown 57 = .ok (.getfield 70, 3) := by decide +kernel
theorem dX11_sayTown_60 : decode cX11_sayTown 60 = .ok (.aload_n 0, 1) := by decide +kernel
theorem dX11_sayTown_61 : decode cX11_sayTown 61 = .ok (.getfield 73, 3) := by decide +kernel
theorem dX11_sayTown_64 : decode cX11_sayTown 64 = .ok (.invokevirtual 170, 3) := by decide +kernel
theorem dX11_sayTown_67 : decode cX11_sayTown 67 = .ok (.aload_n 0, 1) := by decide +kernel
theorem dX11_sayTown_68 : decode cX11_sayTown 68 = .ok (.aload_n 0, 1) := by decide +kernel
theorem dX11_sayTown_69 : decode cX11_sayTown 69 = .ok (.getfield 148, 3) := by decide +kernel
theorem dX11_sayTown_72 : decode cX11_sayTown 72 = .ok (.i2l, 1) := by decide +kernel
theorem dX11_sayTown_73 : decode cX11_sayTown 73 = .ok (.invokevirtual 234, 3) := by decide +kernel
theorem dX11_sayTown_76 : decode cX11_sayTown 76 = .ok (.aload_n 0, 1) := by decide +kernel
theorem dX11_sayTown_77 : decode cX11_sayTown 77 = .ok (.aload_n 0, 1) := by decide +kernel
theorem dX11_sayTown_78 : decode cX11_sayTown 78 = .ok (.getfield 151, 3) := by decide +kernel
theorem dX11_sayTown_81 : decode cX11_sayTown 81 = .ok (.i2l, 1) := by decide +kernel
theorem dX11_sayTown_82 : decode cX11_sayTown 82 = .ok (.invokevirtual 234, 3) := by decide +kernel
theorem dX11_sayTown_85 : decode cX11_sayTown 85 = .ok (.aload_n 0, 1) := by decide +kernel
theorem dX11_sayTown_86 : decode cX11_sayTown 86 = .ok (.aload_n 0, 1) := by decide +kernel
theorem dX11_sayTown_87 : decode cX11_sayTown 87 = .ok (.getfield 141, 3) := by decide +kernel
theorem dX11_sayTown_90 : decode cX11_sayTown 90 = .ok (.ifCond .le 13, 3) := by decide +kernel
theorem dX11_sayTown_93 : decode cX11_sayTown 93 = .ok (.aload_n 0, 1) := by decide +kernel
theorem dX11_sayTown_94 : decode cX11_sayTown 94 = .ok (.getfield 22, 3) := by decide +kernel
theorem dX11_sayTown_97 : decode cX11_sayTown 97 = .ok (.iconst 0, 1) := by decide +kernel
theorem dX11_sayTown_98 : decode cX11_sayTown 98 = .ok (.iaload, 1) := by decide +kernel
theorem dX11_sayTown_99 : decode cX11_sayTown 99 = .ok (.i2l, 1) := by decide +kernel
theorem dX11_sayTown_100 : decode cX11_sayTown 100 = .ok (.goto 6, 3) := by decide +kernel
theorem dX11_sayTown_103 : decode cX11_sayTown 103 = .ok (.ldc2_w 238, 3) := by decide +kernel
theorem dX11_sayTown_106 : decode cX11_sayTown 106 = .ok (.invokevirtual 234, 3) := by decide +kernel
theorem dX11_sayTown_109 : decode cX11_sayTown 109 = .ok (.aload_n 0, 1) := by decide +kernel
theorem dX11_sayTown_110 : decode cX11_sayTown 110 = .ok (.aload_n 0, 1) := by decide +kernel
theorem dX11_sayTown_111 : decode cX11_sayTown 111 = .ok (.getfield 154, 3) := by decide +kernel
theorem dX11_sayTown_114 : decode cX11_sayTown 114 = .ok (.i2l, 1) := by decide +kernel
theorem dX11_sayTown_115 : decode cX11_sayTown 115 = .ok (.invokevirtual 234, 3) := by decide +kernel
theorem dX11_sayTown_118 : decode cX11_sayTown 118 = .ok (.aload_n 0, 1) := by decide +kernel
theorem dX11_sayTown_119 : decode cX11_sayTown 119 = .ok (.aload_n 0, 1) := by decide +kernel
theorem dX11_sayTown_120 : decode cX11_sayTown 120 = .ok (.iconst 0, 1) := by decide +kernel
theorem dX11_sayTown_121 : decode cX11_sayTown 121 = .ok (.invokevirtual 192, 3) := by decide +kernel
theorem dX11_sayTown_124 : decode cX11_sayTown 124 = .ok (.i2l, 1) := by decide +kernel
theorem dX11_sayTown_125 : decode cX11_sayTown 125 = .ok (.invokevirtual 234, 3) := by decide +kernel
theorem dX11_sayTown_128 : decode cX11_sayTown 128 = .ok (.aload_n 0, 1) := by decide +kernel
theorem dX11_sayTown_129 : decode cX11_sayTown 129 = .ok (.aload_n 0, 1) := by decide +kernel
theorem dX11_sayTown_130 : decode cX11_sayTown 130 = .ok (.iconst 1, 1) := by decide +kernel
theorem dX11_sayTown_131 : decode cX11_sayTown 131 = .ok (.invokevirtual 192, 3) := by decide +kernel
theorem dX11_sayTown_134 : decode cX11_sayTown 134 = .ok (.i2l, 1) := by decide +kernel
theorem dX11_sayTown_135 : decode cX11_sayTown 135 = .ok (.invokevirtual 234, 3) := by decide +kernel
theorem dX11_sayTown_138 : decode cX11_sayTown 138 = .ok (.return_, 1) := by decide +kernel
set_option maxRecDepth 20000 in
theorem ggX11_digest_X11_say : GoodIn wsX11_digest wsX11_say := goodIn_r _ [11, 12, 2, 114, 115, 116, 117, 118, 119, 120, 121, 122, 123, 124, 125, 126, 127, 128, 129, 130, 131, 132, 133, 134, 135, 136, 137, 138, 139, 140, 141, 142, 143, 144, 145] (by decide +kernel) (by decide +kernel)
set_option maxRecDepth 20000 in
theorem gX11_digest_X11_say : GoodIn wsX11_digest (wsV RX11 234 RX11 yX11_say wsX11_say) := goodIn_app (goodIn_of _ (by decide +kernel)) ggX11_digest_X11_say
set_option maxRecDepth 20000 in
theorem ggX11_digest_X11_lacks : GoodIn wsX11_digest wsX11_lacks := goodIn_r _ [16, 3, 114, 115, 116, 117, 118, 119, 120, 121, 122, 123, 124, 125, 126, 127, 128, 129, 130, 131, 132, 133, 134, 135, 136, 137, 138, 139, 140, 141, 142, 143, 144, 145] (by decide +kernel) (by decide +kernel)
set_option maxRecDepth 20000 in
theorem gX11_digest_X11_lacks : GoodIn wsX11_digest (wsV RX11 96 RX11 yX11_lacks wsX11_lacks) := goodIn_app (goodIn_of _ (by decide +kernel)) ggX11_digest_X11_lacks
set_option maxRecDepth 20000 in
theorem ggX11_digest_X11_sayTown : GoodIn wsX11_digest wsX11_sayTown := goodIn_r _ [20, 21, 22, 23, 24, 25, 26, 27, 28, 29, 30, 31, 10, 32, 33, 34, 35, 36, 37, 38, 39, 40, 3, 41, 42, 43, 44, 4, 45, 46, 47, 48, 49, 50, 51, 52, 53, 54, 55, 56, 57, 58, 59, 7, 8, 9, 11, 12, 2, 60, 61, 62, 63, 64, 65, 66, 67, 68, 69, 70, 71, 72, 73, 74, 75, 76, 77, 78, 79, 80, 81, 82, 83, 84, 85, 86, 87, 88, 89, 90, 91, 92, 93, 94, 95, 96, 97, 98, 99, 100, 101, 102, 103, 114, 115, 116, 117, 118, 119, 120, 121, 122, 123, 124, 125, 126, 127, 128, 129, 130, 131, 132, 133, 134, 135, 136, 137, 138, 139, 140, 141, 142, 143, 144, 145] (by decide +kernel) (by decide +kernel)
set_option maxRecDepth 20000 in
theorem gX11_digest_X11_sayTown : GoodIn wsX11_digest (wsV RX11 242 RX11 yX11_sayTown wsX11_sayTown) := goodIn_app (goodIn_of _ (by decide +kernel)) ggX11_digest_X11_sayTown
set_option maxRecDepth 20000 in
theorem ggX11_digest_X11_countOf : GoodIn wsX11_digest wsX11_countOf := goodIn_r _ [107, 3, 21, 34, 22, 102, 5, 108, 109, 110, 111, 112, 10, 113, 4, 41, 42, 43, 44, 114, 115, 116, 117, 118, 119, 120, 121, 122, 123, 124, 125, 126, 127, 128, 129, 130, 131, 132, 133, 134, 135, 136, 137, 138, 139, 140, 141, 142, 143, 144, 145] (by decide +kernel) (by decide +kernel)
set_option maxRecDepth 20000 in
theorem gX11_digest_X11_countOf : GoodIn wsX11_digest (wsV RX11 225 RX11 yX11_countOf wsX11_countOf) := goodIn_app (goodIn_of _ (by decide +kernel)) ggX11_digest_X11_countOf
theorem dX11_digest_0 : decode cX11_digest 0 = .ok (.aload_n 0, 1) := by decide +kernel
theorem dX11_digest_1 : decode cX11_digest 1 = .ok (.ldc2_w 240, 3) := by decide +kernel
theorem dX11_digest_4 : decode cX11_digest 4 = .ok (.putfield 230, 3) := by decide +kernel
theorem dX11_digest_7 : decode cX11_digest 7 = .ok (.iconst 0, 1) := by decide +kernel
theorem dX11_digest_8 : decode cX11_digest 8 = .ok (.istore_n 1, 1) := by decide +kernel
theorem dX11_digest_9 : decode cX11_digest 9 = .ok (.iload_n 1, 1) := by decide +kernel
theorem dX11_digest_10 : decode cX11_digest 10 = .ok (.aload_n 0, 1) := by decide +kernel
theorem dX11_digest_11 : decode cX11_digest 11 = .ok (.getfield 67, 3) := by decide +kernel
theorem dX11_digest_14 : decode cX11_digest 14 = .ok (.if_icmp .ge 39, 3) := by decide +kernel
theorem dX11_digest_17 : decode cX11_digest 17 = .ok (.iconst 0, 1) := by decide +kernel
theorem dX11_digest_18 : decode cX11_digest 18 = .ok (.istore_n 2, 1) := by decide +kernel
theorem dX11_digest_19 : decode cX11_digest 19 = .ok (.iload_n 2, 1) := by decide +kernel
theorem dX11_digest_20 : decode cX11_digest 20 = .ok (.bipush 8, 2) := by decide +kernel
theorem dX11_digest_22 : decode cX11_digest 22 = .ok (.if_icmp .ge 25, 3) := by decide +kernel
theorem dX11_digest_25 : decode cX11_digest 25 = .ok (.aload_n 0, 1) := by decide +kernel
theorem dX11_digest_26 : decode cX11_digest 26 = .ok (.aload_n 0, 1) := by decide +kernel
theorem dX11_digest_27 : decode cX11_digest 27 = .ok (.getfield 13, 3) := by decide +kernel
theorem dX11_digest_30 : decode cX11_digest 30 = .ok (.bipush 8, 2) := by decide +kernel
theorem dX11_digest_32 : decode cX11_digest 32 = .ok (.iload_n 1, 1) := by decide +kernel
theorem dX11_digest_33 : decode cX11_digest 33 = .ok (.imul, 1) := by decide +kernel
theorem dX11_digest_34 : decode cX11_digest 34 = .ok (.iload_n 2, 1) := by decide +kernel
theorem dX11_digest_35 : decode cX11_digest 35 = .ok (.iadd, 1) := by decide +kernel
theorem dX11_digest_36 : decode cX11_digest 36 = .ok (.iaload, 1) := by decide +kernel
theorem dX11_digest_37 : decode cX11_digest 37 = .ok (.i2l, 1) := by decide +kernel
theorem dX11_digest_38 : decode cX11_digest 38 = .ok (.invokevirtual 234, 3) := by decide +kernel
theorem dX11_digest_41 : decode cX11_digest 41 = .ok (.iinc 2 1, 3) := by decide +kernel
theorem dX11_digest_44 : decode cX11_digest 44 = .ok (.goto (-25), 3) := by decide +kernel
theorem dX11_digest_47 : decode cX11_digest 47 = .ok (.iinc 1 1, 3) := by decide +kernel
theorem dX11_digest_50 : decode cX11_digest 50 = .ok (.goto (-41), 3) := by decide +kernel
theorem dX11_digest_53 : decode cX11_digest 53 = .ok (.aload_n 0, 1) := by decide +kernel
theorem dX11_digest_54 : decode cX11_digest 54 = .ok (.invokevirtual 96, 3) := by decide +kernel
theorem dX11_digest_57 : decode cX11_digest 57 = .ok (.ifCond .ne 7, 3) := by decide +kernel
theorem dX11_digest_60 : decode cX11_digest 60 = .ok (.aload_n 0, 1) := by decide +kernel
theorem dX11_digest_61 : decode cX11_digest 61 = .ok (.invokevirtual 242, 3) := by decide +kernel
theorem dX11_digest_64 : decode cX11_digest 64 = .ok (.iconst 0, 1) := by decide +kernel
theorem dX11_digest_65 : decode cX11_digest 65 = .ok (.istore_n 1, 1) := by decide +kernel
theorem dX11_digest_66 : decode cX11_digest 66 = .ok (.iload_n 1, 1) := by decide +kernel
theorem dX11_digest_67 : decode cX11_digest 67 = .ok (.aload_n 0, 1) := by decide +kernel
theorem dX11_digest_68 : decode cX11_digest 68 = .ok (.getfield 50, 3) := by decide +kernel
theorem dX11_digest_71 : decode cX11_digest 71 = .ok (.if_icmp .ge 20, 3) := by decide +kernel
theorem dX11_digest_74 : decode cX11_digest 74 = .ok (.aload_n 0, 1) := by decide +kernel
theorem dX11_digest_75 : decode cX11_digest 75 = .ok (.aload_n 0, 1) := by decide +kernel
theorem dX11_digest_76 : decode cX11_digest 76 = .ok (.getfield 7, 3) := by decide +kernel
theorem dX11_digest_79 : decode cX11_digest 79 = .ok (.iload_n 1, 1) := by decide +kernel
theorem dX11_digest_80 : decode cX11_digest 80 = .ok (.iaload, 1) := by decide +kernel
theorem dX11_digest_81 : decode cX11_digest 81 = .ok (.i2l, 1) := by decide +kernel
theorem dX11_digest_82 : decode cX11_digest 82 = .ok (.invokevirtual 234, 3) := by decide +kernel
theorem dX11_digest_85 : decode cX11_digest 85 = .ok (.iinc 1 1, 3) := by decide +kernel
theorem dX11_digest_88 : decode cX11_digest 88 = .ok (.goto (-22), 3) := by decide +kernel
theorem dX11_digest_91 : decode cX11_digest 91 = .ok (.iconst 0, 1) := by decide +kernel
theorem dX11_digest_92 : decode cX11_digest 92 = .ok (.istore_n 1, 1) := by decide +kernel
theorem dX11_digest_93 : decode cX11_digest 93 = .ok (.iload_n 1, 1) := by decide +kernel
theorem dX11_digest_94 : decode cX11_digest 94 = .ok (.bipush 11, 2) := by decide +kernel
theorem dX11_digest_96 : decode cX11_digest 96 = .ok (.if_icmp .ge 19, 3) := by decide +kernel
theorem dX11_digest_99 : decode cX11_digest 99 = .ok (.aload_n 0, 1) := by decide +kernel
theorem dX11_digest_100 : decode cX11_digest 100 = .ok (.aload_n 0, 1) := by decide +kernel
theorem dX11_digest_101 : decode cX11_digest 101 = .ok (.iload_n 1, 1) := by decide +kernel
theorem dX11_digest_102 : decode cX11_digest 102 = .ok (.invokevirtual 225, 3) := by decide +kernel
theorem dX11_digest_105 : decode cX11_digest 105 = .ok (.i2l, 1) := by decide +kernel
theorem dX11_digest_106 : decode cX11_digest 106 = .ok (.invokevirtual 234, 3) := by decide +kernel
theorem dX11_digest_109 : decode cX11_digest 109 = .ok (.iinc 1 1, 3) := by decide +kernel
theorem dX11_digest_112 : decode cX11_digest 112 = .ok (.goto (-19), 3) := by decide +kernel
theorem dX11_digest_115 : decode cX11_digest 115 = .ok (.aload_n 0, 1) := by decide +kernel
theorem dX11_digest_116 : decode cX11_digest 116 = .ok (.getfield 230, 3) := by decide +kernel
theorem dX11_digest_119 : decode cX11_digest 119 = .ok (.lreturn, 1) := by decide +kernel
theorem dJ11_isValidCodePoint_9a6ad_0 : decode cJ11_isValidCodePoint_9a6ad 0 = .ok (.iload_n 0, 1) := by decide +kernel
theorem dJ11_isValidCodePoint_9a6ad_1 : decode cJ11_isValidCodePoint_9a6ad 1 = .ok (.bipush 16, 2) := by decide +kernel
theorem dJ11_isValidCodePoint_9a6ad_3 : decode cJ11_isValidCodePoint_9a6ad 3 = .ok (.iushr, 1) := by decide +kernel
theorem dJ11_isValidCodePoint_9a6ad_4 : decode cJ11_isValidCodePoint_9a6ad 4 = .ok (.istore_n 1, 1) := by decide +kernel
theorem dJ11_isValidCodePoint_9a6ad_5 : decode cJ11_isValidCodePoint_9a6ad 5 = .ok (.iload_n 1, 1) := by decide +kernel
theorem dJ11_isValidCodePoint_9a6ad_6 : decode cJ11_isValidCodePoint_9a6ad 6 = .ok (.bipush 17, 2) := by decide +kernel
theorem dJ11_isValidCodePoint_9a6ad_8 : decode cJ11_isValidCodePoint_9a6ad 8 = .ok (.if_icmp .ge 7, 3) := by decide +kernel
theorem dJ11_isValidCodePoint_9a6ad_11 : decode cJ11_isValidCodePoint_9a6ad 11 = .ok (.iconst 1, 1) := by decide +kernel
theorem dJ11_isValidCodePoint_9a6ad_12 : decode cJ11_isValidCodePoint_9a6ad 12 = .ok (.goto 4, 3) := by decide +kernel
theorem dJ11_isValidCodePoint_9a6ad_15 : decode cJ11_isValidCodePoint_9a6ad 15 = .ok (.iconst 0, 1) := by decide +kernel
theorem dJ11_isValidCodePoint_9a6ad_16 : decode cJ11_isValidCodePoint_9a6ad 16 = .ok (.ireturn, 1) := by decide +kernel
theorem dJ11_highSurrogate_5068e_0 : decode cJ11_highSurrogate_5068e 0 = .ok (.iload_n 0, 1) := by decide +kernel
theorem dJ11_highSurrogate_5068e_1 : decode cJ11_highSurrogate_5068e 1 = .ok (.bipush 10, 2) := by decide +kernel
theorem dJ11_highSurrogate_5068e_3 : decode cJ11_highSurrogate_5068e 3 = .ok (.iushr, 1) := by decide +kernel
theorem dJ11_highSurrogate_5068e_4 : decode cJ11_highSurrogate_5068e 4 = .ok (.ldc 110, 2) := by decide +kernel
theorem dJ11_highSurrogate_5068e_6 : decode cJ11_highSurrogate_5068e 6 = .ok (.iadd, 1) := by decide +kernel
theorem dJ11_highSurrogate_5068e_7 : decode cJ11_highSurrogate_5068e 7 = .ok (.i2c, 1) := by decide +kernel
theorem dJ11_highSurrogate_5068e_8 : decode cJ11_highSurrogate_5068e 8 = .ok (.ireturn, 1) := by decide +kernel
theorem dJ11_lowSurrogate_5068e_0 : decode cJ11_lowSurrogate_5068e 0 = .ok (.iload_n 0, 1) := by decide +kernel
theorem dJ11_lowSurrogate_5068e_1 : decode cJ11_lowSurrogate_5068e 1 = .ok (.sipush 1023, 3) := by decide +kernel
theorem dJ11_lowSurrogate_5068e_4 : decode cJ11_lowSurrogate_5068e 4 = .ok (.iand, 1) := by decide +kernel
theorem dJ11_lowSurrogate_5068e_5 : decode cJ11_lowSurrogate_5068e 5 = .ok (.ldc 76, 2) := by decide +kernel
theorem dJ11_lowSurrogate_5068e_7 : decode cJ11_lowSurrogate_5068e 7 = .ok (.iadd, 1) := by decide +kernel
theorem dJ11_lowSurrogate_5068e_8 : decode cJ11_lowSurrogate_5068e 8 = .ok (.i2c, 1) := by decide +kernel
theorem dJ11_lowSurrogate_5068e_9 : decode cJ11_lowSurrogate_5068e 9 = .ok (.ireturn, 1) := by decide +kernel
theorem dJ6_bitCount_0f7a4_0 : decode cJ6_bitCount_0f7a4 0 = .ok (.iload_n 0, 1) := by decide +kernel
theorem dJ6_bitCount_0f7a4_1 : decode cJ6_bitCount_0f7a4 1 = .ok (.iload_n 0, 1) := by decide +kernel
theorem dJ6_bitCount_0f7a4_2 : decode cJ6_bitCount_0f7a4 2 = .ok (.iconst 1, 1) := by decide +kernel
theorem dJ6_bitCount_0f7a4_3 : decode cJ6_bitCount_0f7a4 3 = .ok (.iushr, 1) := by decide +kernel
theorem dJ6_bitCount_0f7a4_4 : decode cJ6_bitCount_0f7a4 4 = .ok (.ldc_w 265, 3) := by decide +kernel
theorem dJ6_bitCount_0f7a4_7 : decode cJ6_bitCount_0f7a4 7 = .ok (.iand, 1) := by decide +kernel
theorem dJ6_bitCount_0f7a4_8 : decode cJ6_bitCount_0f7a4 8 = .ok (.isub, 1) := by decide +kernel
theorem dJ6_bitCount_0f7a4_9 : decode cJ6_bitCount_0f7a4 9 = .ok (.istore_n 0, 1) := by decide +kernel
theorem dJ6_bitCount_0f7a4_10 : decode cJ6_bitCount_0f7a4 10 = .ok (.iload_n 0, 1) := by decide +kernel
theorem dJ6_bitCount_0f7a4_11 : decode cJ6_bitCount_0f7a4 11 = .ok (.ldc_w 266, 3) := by decide +kernel
theorem dJ6_bitCount_0f7a4_14 : decode cJ6_bitCount_0f7a4 14 = .ok (.iand, 1) := by decide +kernel
theorem dJ6_bitCount_0f7a4_15 : decode cJ6_bitCount_0f7a4 15 = .ok (.iload_n 0, 1) := by decide +kernel
theorem dJ6_bitCount_0f7a4_16 : decode cJ6_bitCount_0f7a4 16 = .ok (.iconst 2, 1) := by decide +kernel
theorem dJ6_bitCount_0f7a4_17 : decode cJ6_bitCount_0f7a4 17 = .ok (.iushr, 1) := by decide +kernel
theorem dJ6_bitCount_0f7a4_18 : decode cJ6_bitCount_0f7a4 18 = .ok (.ldc_w 266, 3) := by decide +kernel
theorem dJ6_bitCount_0f7a4_21 : decode cJ6_bitCount_0f7a4 21 = .ok (.iand, 1) := by decide +kernel
theorem dJ6_bitCount_0f7a4_22 : decode cJ6_bitCount_0f7a4 22 = .ok (.iadd, 1) := by decide +kernel
theorem dJ6_bitCount_0f7a4_23 : decode cJ6_bitCount_0f7a4 23 = .ok (.istore_n 0, 1) := by decide +kernel
theorem dJ6_bitCount_0f7a4_24 : decode cJ6_bitCount_0f7a4 24 = .ok (.iload_n 0, 1) := by decide +kernel
theorem dJ6_bitCount_0f7a4_25 : decode cJ6_bitCount_0f7a4 25 = .ok (.iload_n 0, 1) := by decide +kernel
theorem dJ6_bitCount_0f7a4_26 : decode cJ6_bitCount_0f7a4 26 = .ok (.iconst 4, 1) := by decide +kernel
theorem dJ6_bitCount_0f7a4_27 : decode cJ6_bitCount_0f7a4 27 = .ok (.iushr, 1) := by decide +kernel
theorem dJ6_bitCount_0f7a4_28 : decode cJ6_bitCount_0f7a4 28 = .ok (.iadd, 1) := by decide +kernel
theorem dJ6_bitCount_0f7a4_29 : decode cJ6_bitCount_0f7a4 29 = .ok (.ldc_w 267, 3) := by decide +kernel
theorem dJ6_bitCount_0f7a4_32 : decode cJ6_bitCount_0f7a4 32 = .ok (.iand, 1) := by decide +kernel
theorem dJ6_bitCount_0f7a4_33 : decode cJ6_bitCount_0f7a4 33 = .ok (.istore_n 0, 1) := by decide +kernel
theorem dJ6_bitCount_0f7a4_34 : decode cJ6_bitCount_0f7a4 34 = .ok (.iload_n 0, 1) := by decide +kernel
theorem dJ6_bitCount_0f7a4_35 : decode cJ6_bitCount_0f7a4 35 = .ok (.iload_n 0, 1) := by decide +kernel
theorem dJ6_bitCount_0f7a4_36 : decode cJ6_bitCount_0f7a4 36 = .ok (.bipush 8, 2) := by decide +kernel
theorem dJ6_bitCount_0f7a4_38 : decode cJ6_bitCount_0f7a4 38 = .ok (.iushr, 1) := by decide +kernel
theorem dJ6_bitCount_0f7a4_39 : decode cJ6_bitCount_0f7a4 39 = .ok (.iadd, 1) := by decide +kernel
theorem dJ6_bitCount_0f7a4_40 : decode cJ6_bitCount_0f7a4 40 = .ok (.istore_n 0, 1) := by decide +kernel
theorem dJ6_bitCount_0f7a4_41 : decode cJ6_bitCount_0f7a4 41 = .ok (.iload_n 0, 1) := by decide +kernel
theorem dJ6_bitCount_0f7a4_42 : decode cJ6_bitCount_0f7a4 42 = .ok (.iload_n 0, 1) := by decide +kernel
theorem dJ6_bitCount_0f7a4_43 : decode cJ6_bitCount_0f7a4 43 = .ok (.bipush 16, 2) := by decide +kernel
theorem dJ6_bitCount_0f7a4_45 : decode cJ6_bitCount_0f7a4 45 = .ok (.iushr, 1) := by decide +kernel
theorem dJ6_bitCount_0f7a4_46 : decode cJ6_bitCount_0f7a4 46 = .ok (.iadd, 1) := by decide +kernel
theorem dJ6_bitCount_0f7a4_47 : decode cJ6_bitCount_0f7a4 47 = .ok (.istore_n 0, 1) := by decide +kernel
theorem dJ6_bitCount_0f7a4_48 : decode cJ6_bitCount_0f7a4 48 = .ok (.iload_n 0, 1) := by decide +kernel
theorem dJ6_bitCount_0f7a4_49 : decode cJ6_bitCount_0f7a4 49 = .ok (.bipush 63, 2) := by decide +kernel
theorem dJ6_bitCount_0f7a4_51 : decode cJ6_bitCount_0f7a4 51 = .ok (.iand, 1) := by decide +kernel
theorem dJ6_bitCount_0f7a4_52 : decode cJ6_bitCount_0f7a4 52 = .ok (.ireturn, 1) := by decide +kernel
theorem dJ9_abs_0f7a4_0 : decode cJ9_abs_0f7a4 0 = .ok (.iload_n 0, 1) := by decide +kernel
theorem dJ9_abs_0f7a4_1 : decode cJ9_abs_0f7a4 1 = .ok (.ifCond .ge 8, 3) := by decide +kernel
theorem dJ9_abs_0f7a4_4 : decode cJ9_abs_0f7a4 4 = .ok (.iload_n 0, 1) := by decide +kernel
theorem dJ9_abs_0f7a4_5 : decode cJ9_abs_0f7a4 5 = .ok (.ineg, 1) := by decide +kernel
theorem dJ9_abs_0f7a4_6 : decode cJ9_abs_0f7a4 6 = .ok (.goto 4, 3) := by decide +kernel
theorem dJ9_abs_0f7a4_9 : decode cJ9_abs_0f7a4 9 = .ok (.iload_n 0, 1) := by decide +kernel
theorem dJ9_abs_0f7a4_10 : decode cJ9_abs_0f7a4 10 = .ok (.ireturn, 1) := by decide +kernel
theorem dJ9_max_7cf53_0 : decode cJ9_max_7cf53 0 = .ok (.iload_n 0, 1) := by decide +kernel
theorem dJ9_max_7cf53_1 : decode cJ9_max_7cf53 1 = .ok (.iload_n 1, 1) := by decide +kernel
theorem dJ9_max_7cf53_2 : decode cJ9_max_7cf53 2 = .ok (.if_icmp .lt 7, 3) := by decide +kernel
theorem dJ9_max_7cf53_5 : decode cJ9_max_7cf53 5 = .ok (.iload_n 0, 1) := by decide +kernel
theorem dJ9_max_7cf53_6 : decode cJ9_max_7cf53 6 = .ok (.goto 4, 3) := by decide +kernel
theorem dJ9_max_7cf53_9 : decode cJ9_max_7cf53 9 = .ok (.iload_n 1, 1) := by decide +kernel
theorem dJ9_max_7cf53_10 : decode cJ9_max_7cf53 10 = .ok (.ireturn, 1) := by decide +kernel
theorem dJ9_min_7cf53_0 : decode cJ9_min_7cf53 0 = .ok (.iload_n 0, 1) := by decide +kernel
theorem dJ9_min_7cf53_1 : decode cJ9_min_7cf53 1 = .ok (.iload_n 1, 1) := by decide +kernel
theorem dJ9_min_7cf53_2 : decode cJ9_min_7cf53 2 = .ok (.if_icmp .gt 7, 3) := by decide +kernel
theorem dJ9_min_7cf53_5 : decode cJ9_min_7cf53 5 = .ok (.iload_n 0, 1) := by decide +kernel
theorem dJ9_min_7cf53_6 : decode cJ9_min_7cf53 6 = .ok (.goto 4, 3) := by decide +kernel
theorem dJ9_min_7cf53_9 : decode cJ9_min_7cf53 9 = .ok (.iload_n 1, 1) := by decide +kernel
theorem dJ9_min_7cf53_10 : decode cJ9_min_7cf53 10 = .ok (.ireturn, 1) := by decide +kernel
set_option maxRecDepth 20000 in
theorem ggJ0_length_8abf5_J0_coder_7d493 : GoodIn wsJ0_length_8abf5 wsJ0_coder_7d493 := goodIn_r _ [6, 7, 8] (by decide +kernel) (by decide +kernel)
set_option maxRecDepth 20000 in
theorem gJ0_length_8abf5_J0_coder_7d493 : GoodIn wsJ0_length_8abf5 (wsV RJ0 335 RJ0 yJ0_coder_7d493 wsJ0_coder_7d493) := goodIn_app (goodIn_of _ (by decide +kernel)) ggJ0_length_8abf5_J0_coder_7d493
theorem dJ0_length_8abf5_0 : decode cJ0_length_8abf5 0 = .ok (.aload_n 0, 1) := by decide +kernel
theorem dJ0_length_8abf5_1 : decode cJ0_length_8abf5 1 = .ok (.getfield 9, 3) := by decide +kernel
theorem dJ0_length_8abf5_4 : decode cJ0_length_8abf5 4 = .ok (.arraylength, 1) := by decide +kernel
theorem dJ0_length_8abf5_5 : decode cJ0_length_8abf5 5 = .ok (.aload_n 0, 1) := by decide +kernel
theorem dJ0_length_8abf5_6 : decode cJ0_length_8abf5 6 = .ok (.invokevirtual 335, 3) := by decide +kernel
theorem dJ0_length_8abf5_9 : decode cJ0_length_8abf5 9 = .ok (.ishr, 1) := by decide +kernel
theorem dJ0_length_8abf5_10 : decode cJ0_length_8abf5 10 = .ok (.ireturn, 1) := by decide +kernel
set_option maxRecDepth 20000 in
theorem ggJ0_indexOf_0f7a4_J0_indexOf_7cf53 : GoodIn wsJ0_indexOf_0f7a4 wsJ0_indexOf_7cf53 := goodIn_r _ [5, 6, 7, 8, 9, 4, 10, 11, 12, 13, 14, 15, 16, 17, 18, 19, 20, 21, 22, 23, 24, 25, 26, 27, 28, 29, 30, 31, 32, 33, 34, 35, 36, 37, 38, 39, 40, 41, 42, 43, 44, 45, 46, 47, 48, 49, 50, 51, 52, 53, 54, 55, 56, 57, 58, 59, 60, 61, 62, 63, 64, 65, 66, 67, 68, 69, 70, 71, 72, 73, 74, 75, 76, 77, 78, 79, 80, 81, 82, 83, 84, 85] (by decide +kernel) (by decide +kernel)
set_option maxRecDepth 20000 in
theorem gJ0_indexOf_0f7a4_J0_indexOf_7cf53 : GoodIn wsJ0_indexOf_0f7a4 (wsV RJ0 633 RJ0 yJ0_indexOf_7cf53 wsJ0_indexOf_7cf53) := goodIn_app (goodIn_of _ (by decide +kernel)) ggJ0_indexOf_0f7a4_J0_indexOf_7cf53
theorem dJ0_indexOf_0f7a4_0 : decode cJ0_indexOf_0f7a4 0 = .ok (.aload_n 0, 1) := by decide +kernel
theorem dJ0_indexOf_0f7a4_1 : decode cJ0_indexOf_0f7a4 1 = .ok (.iload_n 1, 1) := by decide +kernel
theorem dJ0_indexOf_0f7a4_2 : decode cJ0_indexOf_0f7a4 2 = .ok (.iconst 0, 1) := by decide +kernel
theorem dJ0_indexOf_0f7a4_3 : decode cJ0_indexOf_0f7a4 3 = .ok (.invokevirtual 633, 3) := by decide +kernel
theorem dJ0_indexOf_0f7a4_6 : decode cJ0_indexOf_0f7a4 6 = .ok (.ireturn, 1) := by decide +kernel
set_option maxRecDepth 20000 in
theorem ggJ0_indexOf_7cf53_J0_isLatin1_aae02 : GoodIn wsJ0_indexOf_7cf53 wsJ0_isLatin1_aae02 := goodIn_r _ [6, 7, 8] (by decide +kernel) (by decide +kernel)
set_option maxRecDepth 20000 in
theorem gJ0_indexOf_7cf53_J0_isLatin1_aae02 : GoodIn wsJ0_indexOf_7cf53 (wsV RJ0 492 RJ0 yJ0_isLatin1_aae02 wsJ0_isLatin1_aae02) := goodIn_app (goodIn_of _ (by decide +kernel)) ggJ0_indexOf_7cf53_J0_isLatin1_aae02
set_option maxRecDepth 20000 in
theorem ggJ0_indexOf_7cf53_J0_length_8abf5 : GoodIn wsJ0_indexOf_7cf53 wsJ0_length_8abf5 := goodIn_r _ [12, 1, 13, 14, 15, 5, 16, 7, 8] (by decide +kernel) (by decide +kernel)
set_option maxRecDepth 20000 in
theorem gJ0_indexOf_7cf53_J0_length_8abf5 : GoodIn wsJ0_indexOf_7cf53 (wsV RJ0 505 RJ0 yJ0_length_8abf5 wsJ0_length_8abf5) := goodIn_app (goodIn_of _ (by decide +kernel)) ggJ0_indexOf_7cf53_J0_length_8abf5
set_option maxRecDepth 20000 in
theorem ggJ0_indexOf_7cf53_J1_indexOf_4cfef : GoodIn wsJ0_indexOf_7cf53 wsJ1_indexOf_4cfef := goodIn_r _ [20, 21, 22, 23, 24, 25, 26, 27, 28, 29, 19, 30, 31, 32, 33] (by decide +kernel) (by decide +kernel)
set_option maxRecDepth 20000 in
theorem gJ0_indexOf_7cf53_J1_indexOf_4cfef : GoodIn wsJ0_indexOf_7cf53 (va_wsS RJ0 637 yJ1_indexOf_4cfef wsJ1_indexOf_4cfef) := goodIn_app (goodIn_of _ (by decide +kernel)) ggJ0_indexOf_7cf53_J1_indexOf_4cfef
set_option maxRecDepth 20000 in
theorem ggJ0_indexOf_7cf53_J2_indexOf_4cfef : GoodIn wsJ0_indexOf_7cf53 wsJ2_indexOf_4cfef := goodIn_r _ [37, 38, 22, 23, 24, 39, 26, 27, 40, 41, 42, 36, 43, 44, 45, 46, 47, 48, 49, 50, 51, 5, 52, 53, 54, 55, 56, 57, 58, 59, 60, 61, 62, 63, 64, 65, 66, 67, 68, 69, 70, 71, 72, 73, 74, 75, 76, 77, 78, 79, 80, 81] (by decide +kernel) (by decide +kernel)
set_option maxRecDepth 20000 in
theorem gJ0_indexOf_7cf53_J2_indexOf_4cfef : GoodIn wsJ0_indexOf_7cf53 (va_wsS RJ0 640 yJ2_indexOf_4cfef wsJ2_indexOf_4cfef) := goodIn_app (goodIn_of _ (by decide +kernel)) ggJ0_indexOf_7cf53_J2_indexOf_4cfef
theorem dJ0_indexOf_7cf53_0 : decode cJ0_indexOf_7cf53 0 = .ok (.aload_n 0, 1) := by decide +kernel
theorem dJ0_indexOf_7cf53_1 : decode cJ0_indexOf_7cf53 1 = .ok (.invokevirtual 492, 3) := by decide +kernel
theorem dJ0_indexOf_7cf53_4 : decode cJ0_indexOf_7cf53 4 = .ok (.ifCond .eq 19, 3) := by decide +kernel
theorem dJ0_indexOf_7cf53_7 : decode cJ0_indexOf_7cf53 7 = .ok (.aload_n 0, 1) := by decide +kernel
theorem dJ0_indexOf_7cf53_8 : decode cJ0_indexOf_7cf53 8 = .ok (.getfield 9, 3) := by decide +kernel
theorem dJ0_indexOf_7cf53_11 : decode cJ0_indexOf_7cf53 11 = .ok (.iload_n 1, 1) := by decide +kernel
theorem dJ0_indexOf_7cf53_12 : decode cJ0_indexOf_7cf53 12 = .ok (.iload_n 2, 1) := by decide +kernel
theorem dJ0_indexOf_7cf53_13 : decode cJ0_indexOf_7cf53 13 = .ok (.aload_n 0, 1) := by decide +kernel
theorem dJ0_indexOf_7cf53_14 : decode cJ0_indexOf_7cf53 14 = .ok (.invokevirtual 505, 3) := by decide +kernel
theorem dJ0_indexOf_7cf53_17 : decode cJ0_indexOf_7cf53 17 = .ok (.invokestatic 637, 3) := by decide +kernel
theorem dJ0_indexOf_7cf53_20 : decode cJ0_indexOf_7cf53 20 = .ok (.goto 16, 3) := by decide +kernel
theorem dJ0_indexOf_7cf53_23 : decode cJ0_indexOf_7cf53 23 = .ok (.aload_n 0, 1) := by decide +kernel
theorem dJ0_indexOf_7cf53_24 : decode cJ0_indexOf_7cf53 24 = .ok (.getfield 9, 3) := by decide +kernel
theorem dJ0_indexOf_7cf53_27 : decode cJ0_indexOf_7cf53 27 = .ok (.iload_n 1, 1) := by decide +kernel
theorem dJ0_indexOf_7cf53_28 : decode cJ0_indexOf_7cf53 28 = .ok (.iload_n 2, 1) := by decide +kernel
theorem dJ0_indexOf_7cf53_29 : decode cJ0_indexOf_7cf53 29 = .ok (.aload_n 0, 1) := by decide +kernel
theorem dJ0_indexOf_7cf53_30 : decode cJ0_indexOf_7cf53 30 = .ok (.invokevirtual 505, 3) := by decide +kernel
theorem dJ0_indexOf_7cf53_33 : decode cJ0_indexOf_7cf53 33 = .ok (.invokestatic 640, 3) := by decide +kernel
theorem dJ0_indexOf_7cf53_36 : decode cJ0_indexOf_7cf53 36 = .ok (.ireturn, 1) := by decide +kernel
theorem dJ0_coder_7d493_0 : decode cJ0_coder_7d493 0 = .ok (.getstatic 38, 3) := by decide +kernel
theorem dJ0_coder_7d493_3 : decode cJ0_coder_7d493 3 = .ok (.ifCond .eq 10, 3) := by decide +kernel
theorem dJ0_coder_7d493_6 : decode cJ0_coder_7d493 6 = .ok (.aload_n 0, 1) := by decide +kernel
theorem dJ0_coder_7d493_7 : decode cJ0_coder_7d493 7 = .ok (.getfield 15, 3) := by decide +kernel
theorem dJ0_coder_7d493_10 : decode cJ0_coder_7d493 10 = .ok (.goto 4, 3) := by decide +kernel
theorem dJ0_coder_7d493_13 : decode cJ0_coder_7d493 13 = .ok (.iconst 1, 1) := by decide +kernel
theorem dJ0_coder_7d493_14 : decode cJ0_coder_7d493 14 = .ok (.ireturn, 1) := by decide +kernel
theorem dJ0_isLatin1_aae02_0 : decode cJ0_isLatin1_aae02 0 = .ok (.getstatic 38, 3) := by decide +kernel
theorem dJ0_isLatin1_aae02_3 : decode cJ0_isLatin1_aae02 3 = .ok (.ifCond .eq 14, 3) := by decide +kernel
theorem dJ0_isLatin1_aae02_6 : decode cJ0_isLatin1_aae02 6 = .ok (.aload_n 0, 1) := by decide +kernel
theorem dJ0_isLatin1_aae02_7 : decode cJ0_isLatin1_aae02 7 = .ok (.getfield 15, 3) := by decide +kernel
theorem dJ0_isLatin1_aae02_10 : decode cJ0_isLatin1_aae02 10 = .ok (.ifCond .ne 7, 3) := by decide +kernel
theorem dJ0_isLatin1_aae02_13 : decode cJ0_isLatin1_aae02 13 = .ok (.iconst 1, 1) := by decide +kernel
theorem dJ0_isLatin1_aae02_14 : decode cJ0_isLatin1_aae02 14 = .ok (.goto 4, 3) := by decide +kernel
theorem dJ0_isLatin1_aae02_17 : decode cJ0_isLatin1_aae02 17 = .ok (.iconst 0, 1) := by decide +kernel
theorem dJ0_isLatin1_aae02_18 : decode cJ0_isLatin1_aae02 18 = .ok (.ireturn, 1) := by decide +kernel
set_option maxRecDepth 20000 in
theorem ggJ0_checkBoundsBeginEnd_23922_J3_checkFromToIndex_8c36e : GoodIn wsJ0_checkBoundsBeginEnd_23922 wsJ3_checkFromToIndex_8c36e := goodIn_r _ [5] (by decide +kernel) (by decide +kernel)
set_option maxRecDepth 20000 in
theorem gJ0_checkBoundsBeginEnd_23922_J3_checkFromToIndex_8c36e : GoodIn wsJ0_checkBoundsBeginEnd_23922 (va_wsS RJ0 1062 yJ3_checkFromToIndex_8c36e wsJ3_checkFromToIndex_8c36e) := goodIn_app (goodIn_of _ (by decide +kernel)) ggJ0_checkBoundsBeginEnd_23922_J3_checkFromToIndex_8c36e
theorem dJ0_checkBoundsBeginEnd_23922_0 : decode cJ0_checkBoundsBeginEnd_23922 0 = .ok (.iload_n 0, 1) := by decide +kernel
theorem dJ0_checkBoundsBeginEnd_23922_1 : decode cJ0_checkBoundsBeginEnd_23922 1 = .ok (.iload_n 1, 1) := by decide +kernel
theorem dJ0_checkBoundsBeginEnd_23922_2 : decode cJ0_checkBoundsBeginEnd_23922 2 = .ok (.iload_n 2, 1) := by decide +kernel
theorem dJ0_checkBoundsBeginEnd_23922_3 : decode cJ0_checkBoundsBeginEnd_23922 3 = .ok (.getstatic 1053, 3) := by decide +kernel
theorem dJ0_checkBoundsBeginEnd_23922_6 : decode cJ0_checkBoundsBeginEnd_23922 6 = .ok (.invokestatic 1062, 3) := by decide +kernel
theorem dJ0_checkBoundsBeginEnd_23922_9 : decode cJ0_checkBoundsBeginEnd_23922 9 = .ok (.pop, 1) := by decide +kernel
theorem dJ0_checkBoundsBeginEnd_23922_10 : decode cJ0_checkBoundsBeginEnd_23922 10 = .ok (.return_, 1) := by decide +kernel
theorem dJ1_canEncode_9a6ad_0 : decode cJ1_canEncode_9a6ad 0 = .ok (.iload_n 0, 1) := by decide +kernel
theorem dJ1_canEncode_9a6ad_1 : decode cJ1_canEncode_9a6ad 1 = .ok (.ifCond .lt 14, 3) := by decide +kernel
theorem dJ1_canEncode_9a6ad_4 : decode cJ1_canEncode_9a6ad 4 = .ok (.iload_n 0, 1) := by decide +kernel
theorem dJ1_canEncode_9a6ad_5 : decode cJ1_canEncode_9a6ad 5 = .ok (.sipush 255, 3) := by decide +kernel
theorem dJ1_canEncode_9a6ad_8 : decode cJ1_canEncode_9a6ad 8 = .ok (.if_icmp .gt 7, 3) := by decide +kernel
theorem dJ1_canEncode_9a6ad_11 : decode cJ1_canEncode_9a6ad 11 = .ok (.iconst 1, 1) := by decide +kernel
theorem dJ1_canEncode_9a6ad_12 : decode cJ1_canEncode_9a6ad 12 = .ok (.goto 4, 3) := by decide +kernel
theorem dJ1_canEncode_9a6ad_15 : decode cJ1_canEncode_9a6ad 15 = .ok (.iconst 0, 1) := by decide +kernel
theorem dJ1_canEncode_9a6ad_16 : decode cJ1_canEncode_9a6ad 16 = .ok (.ireturn, 1) := by decide +kernel
set_option maxRecDepth 20000 in
theorem ggJ1_indexOf_4cfef_J1_canEncode_9a6ad : GoodIn wsJ1_indexOf_4cfef wsJ1_canEncode_9a6ad := goodIn_r _ [11] (by decide +kernel) (by decide +kernel)
set_option maxRecDepth 20000 in
theorem gJ1_indexOf_4cfef_J1_canEncode_9a6ad : GoodIn wsJ1_indexOf_4cfef (va_wsS RJ1 88 yJ1_canEncode_9a6ad wsJ1_canEncode_9a6ad) := goodIn_app (goodIn_of _ (by decide +kernel)) ggJ1_indexOf_4cfef_J1_canEncode_9a6ad
