set_option maxRecDepth 20000 in
theorem gX10_seekGuesses_X5_isAsSeen : GoodIn wsX10_seekGuesses (wsV RX10 255 RX5 yX5_isAsSeen wsX5_isAsSeen) := goodIn_app (goodIn_of _ (by decide +kernel)) ggX10_seekGuesses_X5_isAsSeen
theorem dX10_seekGuesses_0 : decode cX10_seekGuesses 0 = .ok (.aload_n 0, 1) := by decide +kernel
theorem dX10_seekGuesses_1 : decode cX10_seekGuesses 1 = .ok (.iconst 0, 1) := by decide +kernel
theorem dX10_seekGuesses_2 : decode cX10_seekGuesses 2 = .ok (.putfield 175, 3) := by decide +kernel
theorem dX10_seekGuesses_5 : decode cX10_seekGuesses 5 = .ok (.aload_n 0, 1) := by decide +kernel
theorem dX10_seekGuesses_6 : decode cX10_seekGuesses 6 = .ok (.iconst (-1), 1) := by decide +kernel
theorem dX10_seekGuesses_7 : decode cX10_seekGuesses 7 = .ok (.putfield 178, 3) := by decide +kernel
theorem dX10_seekGuesses_10 : decode cX10_seekGuesses 10 = .ok (.iconst 0, 1) := by decide +kernel
theorem dX10_seekGuesses_11 : decode cX10_seekGuesses 11 = .ok (.istore_n 1, 1) := by decide +kernel
theorem dX10_seekGuesses_12 : decode cX10_seekGuesses 12 = .ok (.iload_n 1, 1) := by decide +kernel
theorem dX10_seekGuesses_13 : decode cX10_seekGuesses 13 = .ok (.bipush 30, 2) := by decide +kernel
theorem dX10_seekGuesses_15 : decode cX10_seekGuesses 15 = .ok (.if_icmp .ge 92, 3) := by decide +kernel
theorem dX10_seekGuesses_18 : decode cX10_seekGuesses 18 = .ok (.aload_n 0, 1) := by decide +kernel
theorem dX10_seekGuesses_19 : decode cX10_seekGuesses 19 = .ok (.getfield 37, 3) := by decide +kernel
theorem dX10_seekGuesses_22 : decode cX10_seekGuesses 22 = .ok (.aload_n 0, 1) := by decide +kernel
theorem dX10_seekGuesses_23 : decode cX10_seekGuesses 23 = .ok (.getfield 30, 3) := by decide +kernel
theorem dX10_seekGuesses_26 : decode cX10_seekGuesses 26 = .ok (.invokevirtual 187, 3) := by decide +kernel
theorem dX10_seekGuesses_29 : decode cX10_seekGuesses 29 = .ok (.aload_n 0, 1) := by decide +kernel
theorem dX10_seekGuesses_30 : decode cX10_seekGuesses 30 = .ok (.getfield 37, 3) := by decide +kernel
theorem dX10_seekGuesses_33 : decode cX10_seekGuesses 33 = .ok (.invokevirtual 252, 3) := by decide +kernel
theorem dX10_seekGuesses_36 : decode cX10_seekGuesses 36 = .ok (.aload_n 0, 1) := by decide +kernel
theorem dX10_seekGuesses_37 : decode cX10_seekGuesses 37 = .ok (.getfield 37, 3) := by decide +kernel
theorem dX10_seekGuesses_40 : decode cX10_seekGuesses 40 = .ok (.getfield 102, 3) := by decide +kernel
theorem dX10_seekGuesses_43 : decode cX10_seekGuesses 43 = .ok (.iload_n 1, 1) := by decide +kernel
theorem dX10_seekGuesses_44 : decode cX10_seekGuesses 44 = .ok (.iconst 3, 1) := by decide +kernel
theorem dX10_seekGuesses_45 : decode cX10_seekGuesses 45 = .ok (.idiv, 1) := by decide +kernel
theorem dX10_seekGuesses_46 : decode cX10_seekGuesses 46 = .ok (.iconst 0, 1) := by decide +kernel
theorem dX10_seekGuesses_47 : decode cX10_seekGuesses 47 = .ok (.iconst 0, 1) := by decide +kernel
theorem dX10_seekGuesses_48 : decode cX10_seekGuesses 48 = .ok (.invokevirtual 117, 3) := by decide +kernel
theorem dX10_seekGuesses_51 : decode cX10_seekGuesses 51 = .ok (.aload_n 0, 1) := by decide +kernel
theorem dX10_seekGuesses_52 : decode cX10_seekGuesses 52 = .ok (.getfield 37, 3) := by decide +kernel
theorem dX10_seekGuesses_55 : decode cX10_seekGuesses 55 = .ok (.iload_n 1, 1) := by decide +kernel
theorem dX10_seekGuesses_56 : decode cX10_seekGuesses 56 = .ok (.iconst 3, 1) := by decide +kernel
theorem dX10_seekGuesses_57 : decode cX10_seekGuesses 57 = .ok (.irem, 1) := by decide +kernel
theorem dX10_seekGuesses_58 : decode cX10_seekGuesses 58 = .ok (.invokevirtual 243, 3) := by decide +kernel
theorem dX10_seekGuesses_61 : decode cX10_seekGuesses 61 = .ok (.aload_n 0, 1) := by decide +kernel
theorem dX10_seekGuesses_62 : decode cX10_seekGuesses 62 = .ok (.getfield 37, 3) := by decide +kernel
theorem dX10_seekGuesses_65 : decode cX10_seekGuesses 65 = .ok (.invokevirtual 255, 3) := by decide +kernel
theorem dX10_seekGuesses_68 : decode cX10_seekGuesses 68 = .ok (.ifCond .eq 33, 3) := by decide +kernel
theorem dX10_seekGuesses_71 : decode cX10_seekGuesses 71 = .ok (.aload_n 0, 1) := by decide +kernel
theorem dX10_seekGuesses_72 : decode cX10_seekGuesses 72 = .ok (.dup, 1) := by decide +kernel
theorem dX10_seekGuesses_73 : decode cX10_seekGuesses 73 = .ok (.getfield 175, 3) := by decide +kernel
theorem dX10_seekGuesses_76 : decode cX10_seekGuesses 76 = .ok (.iconst 1, 1) := by decide +kernel
theorem dX10_seekGuesses_77 : decode cX10_seekGuesses 77 = .ok (.iadd, 1) := by decide +kernel
theorem dX10_seekGuesses_78 : decode cX10_seekGuesses 78 = .ok (.putfield 175, 3) := by decide +kernel
theorem dX10_seekGuesses_81 : decode cX10_seekGuesses 81 = .ok (.aload_n 0, 1) := by decide +kernel
theorem dX10_seekGuesses_82 : decode cX10_seekGuesses 82 = .ok (.aload_n 0, 1) := by decide +kernel
theorem dX10_seekGuesses_83 : decode cX10_seekGuesses 83 = .ok (.getfield 178, 3) := by decide +kernel
theorem dX10_seekGuesses_86 : decode cX10_seekGuesses 86 = .ok (.iconst (-1), 1) := by decide +kernel
theorem dX10_seekGuesses_87 : decode cX10_seekGuesses 87 = .ok (.if_icmp .ne 7, 3) := by decide +kernel
theorem dX10_seekGuesses_90 : decode cX10_seekGuesses 90 = .ok (.iload_n 1, 1) := by decide +kernel
theorem dX10_seekGuesses_91 : decode cX10_seekGuesses 91 = .ok (.goto 7, 3) := by decide +kernel
theorem dX10_seekGuesses_94 : decode cX10_seekGuesses 94 = .ok (.aload_n 0, 1) := by decide +kernel
theorem dX10_seekGuesses_95 : decode cX10_seekGuesses 95 = .ok (.getfield 178, 3) := by decide +kernel
theorem dX10_seekGuesses_98 : decode cX10_seekGuesses 98 = .ok (.putfield 178, 3) := by decide +kernel
theorem dX10_seekGuesses_101 : decode cX10_seekGuesses 101 = .ok (.iinc 1 1, 3) := by decide +kernel
theorem dX10_seekGuesses_104 : decode cX10_seekGuesses 104 = .ok (.goto (-92), 3) := by decide +kernel
theorem dX10_seekGuesses_107 : decode cX10_seekGuesses 107 = .ok (.return_, 1) := by decide +kernel
set_option maxRecDepth 20000 in
theorem ggX10_goThroughNight_X2_put : GoodIn wsX10_goThroughNight wsX2_put := goodIn_r _ [11, 12, 13, 14, 160, 161, 162] (by decide +kernel) (by decide +kernel)
set_option maxRecDepth 20000 in
theorem gX10_goThroughNight_X2_put : GoodIn wsX10_goThroughNight (wsV RX10 117 RX2 yX2_put wsX2_put) := goodIn_app (goodIn_of _ (by decide +kernel)) ggX10_goThroughNight_X2_put
set_option maxRecDepth 20000 in
theorem ggX10_goThroughNight_X10_seedAfter : GoodIn wsX10_goThroughNight wsX10_seedAfter := goodIn_r _ [18, 19, 20, 21] (by decide +kernel) (by decide +kernel)
set_option maxRecDepth 20000 in
theorem gX10_goThroughNight_X10_seedAfter : GoodIn wsX10_goThroughNight (va_wsS RX10 258 yX10_seedAfter wsX10_seedAfter) := goodIn_app (goodIn_of _ (by decide +kernel)) ggX10_goThroughNight_X10_seedAfter
set_option maxRecDepth 20000 in
theorem ggX10_goThroughNight_X10_drawOf : GoodIn wsX10_goThroughNight wsX10_drawOf := goodIn_r _ [24, 25] (by decide +kernel) (by decide +kernel)
set_option maxRecDepth 20000 in
theorem gX10_goThroughNight_X10_drawOf : GoodIn wsX10_goThroughNight (va_wsS RX10 261 yX10_drawOf wsX10_drawOf) := goodIn_app (goodIn_of _ (by decide +kernel)) ggX10_goThroughNight_X10_drawOf
set_option maxRecDepth 20000 in
theorem ggX10_goThroughNight_X5_letAllIn : GoodIn wsX10_goThroughNight wsX5_letAllIn := goodIn_r _ [30, 31, 32, 33, 29, 34, 35, 36, 37, 38, 39, 40, 41, 42, 43, 44, 45, 46, 47, 48, 49, 50, 51, 52, 53, 54, 55, 56, 57, 58, 59, 60, 61, 62, 63, 64, 65, 66, 67, 68, 69, 70, 71, 72, 73, 74, 75, 76, 77, 78, 79, 80, 81, 82, 83, 84, 85, 10, 86, 13, 14, 87, 88, 89, 12, 90, 91, 92, 93, 94, 95, 96, 97, 98, 99, 100, 101, 102, 103, 104, 105, 106, 107, 108, 109, 110, 111, 112, 113, 114, 115, 116, 117, 118, 119, 120, 121, 8, 9, 11, 122, 123, 124, 125, 126, 127, 128, 129, 130, 131, 132, 133, 134, 135, 136, 137, 138, 150, 151, 152, 153, 154, 155, 156, 157, 158, 159, 163, 164, 165, 166, 160, 161, 162, 167, 168, 169, 170, 171, 172, 173, 174, 175, 176, 177, 178, 179, 180, 181] (by decide +kernel) (by decide +kernel)
set_option maxRecDepth 20000 in
theorem gX10_goThroughNight_X5_letAllIn : GoodIn wsX10_goThroughNight (wsV RX10 243 RX5 yX5_letAllIn wsX5_letAllIn) := goodIn_app (goodIn_of _ (by decide +kernel)) ggX10_goThroughNight_X5_letAllIn
theorem dX10_goThroughNight_0 : decode cX10_goThroughNight 0 = .ok (.iload_n 1, 1) := by decide +kernel
theorem dX10_goThroughNight_1 : decode cX10_goThroughNight 1 = .ok (.istore_n 2, 1) := by decide +kernel
theorem dX10_goThroughNight_2 : decode cX10_goThroughNight 2 = .ok (.aload_n 0, 1) := by decide +kernel
theorem dX10_goThroughNight_3 : decode cX10_goThroughNight 3 = .ok (.getfield 37, 3) := by decide +kernel
theorem dX10_goThroughNight_6 : decode cX10_goThroughNight 6 = .ok (.getfield 102, 3) := by decide +kernel
theorem dX10_goThroughNight_9 : decode cX10_goThroughNight 9 = .ok (.aload_n 0, 1) := by decide +kernel
theorem dX10_goThroughNight_10 : decode cX10_goThroughNight 10 = .ok (.getfield 37, 3) := by decide +kernel
theorem dX10_goThroughNight_13 : decode cX10_goThroughNight 13 = .ok (.getfield 102, 3) := by decide +kernel
theorem dX10_goThroughNight_16 : decode cX10_goThroughNight 16 = .ok (.getfield 114, 3) := by decide +kernel
theorem dX10_goThroughNight_19 : decode cX10_goThroughNight 19 = .ok (.iconst 0, 1) := by decide +kernel
theorem dX10_goThroughNight_20 : decode cX10_goThroughNight 20 = .ok (.iconst 0, 1) := by decide +kernel
theorem dX10_goThroughNight_21 : decode cX10_goThroughNight 21 = .ok (.invokevirtual 117, 3) := by decide +kernel
theorem dX10_goThroughNight_24 : decode cX10_goThroughNight 24 = .ok (.iconst 0, 1) := by decide +kernel
theorem dX10_goThroughNight_25 : decode cX10_goThroughNight 25 = .ok (.istore_n 3, 1) := by decide +kernel
theorem dX10_goThroughNight_26 : decode cX10_goThroughNight 26 = .ok (.iload_n 3, 1) := by decide +kernel
theorem dX10_goThroughNight_27 : decode cX10_goThroughNight 27 = .ok (.aload_n 0, 1) := by decide +kernel
theorem dX10_goThroughNight_28 : decode cX10_goThroughNight 28 = .ok (.getfield 21, 3) := by decide +kernel
theorem dX10_goThroughNight_31 : decode cX10_goThroughNight 31 = .ok (.getfield 77, 3) := by decide +kernel
theorem dX10_goThroughNight_34 : decode cX10_goThroughNight 34 = .ok (.if_icmp .ge 37, 3) := by decide +kernel
theorem dX10_goThroughNight_37 : decode cX10_goThroughNight 37 = .ok (.iload_n 2, 1) := by decide +kernel
theorem dX10_goThroughNight_38 : decode cX10_goThroughNight 38 = .ok (.invokestatic 258, 3) := by decide +kernel
theorem dX10_goThroughNight_41 : decode cX10_goThroughNight 41 = .ok (.istore_n 2, 1) := by decide +kernel
theorem dX10_goThroughNight_42 : decode cX10_goThroughNight 42 = .ok (.aload_n 0, 1) := by decide +kernel
theorem dX10_goThroughNight_43 : decode cX10_goThroughNight 43 = .ok (.getfield 37, 3) := by decide +kernel
theorem dX10_goThroughNight_46 : decode cX10_goThroughNight 46 = .ok (.getfield 98, 3) := by decide +kernel
theorem dX10_goThroughNight_49 : decode cX10_goThroughNight 49 = .ok (.iload_n 3, 1) := by decide +kernel
theorem dX10_goThroughNight_50 : decode cX10_goThroughNight 50 = .ok (.iload_n 2, 1) := by decide +kernel
theorem dX10_goThroughNight_51 : decode cX10_goThroughNight 51 = .ok (.iconst 2, 1) := by decide +kernel
theorem dX10_goThroughNight_52 : decode cX10_goThroughNight 52 = .ok (.invokestatic 261, 3) := by decide +kernel
theorem dX10_goThroughNight_55 : decode cX10_goThroughNight 55 = .ok (.iconst 1, 1) := by decide +kernel
theorem dX10_goThroughNight_56 : decode cX10_goThroughNight 56 = .ok (.if_icmp .ne 7, 3) := by decide +kernel
theorem dX10_goThroughNight_59 : decode cX10_goThroughNight 59 = .ok (.iconst 0, 1) := by decide +kernel
theorem dX10_goThroughNight_60 : decode cX10_goThroughNight 60 = .ok (.goto 4, 3) := by decide +kernel
theorem dX10_goThroughNight_63 : decode cX10_goThroughNight 63 = .ok (.iconst (-1), 1) := by decide +kernel
theorem dX10_goThroughNight_64 : decode cX10_goThroughNight 64 = .ok (.iastore, 1) := by decide +kernel
theorem dX10_goThroughNight_65 : decode cX10_goThroughNight 65 = .ok (.iinc 3 1, 3) := by decide +kernel
theorem dX10_goThroughNight_68 : decode cX10_goThroughNight 68 = .ok (.goto (-42), 3) := by decide +kernel
theorem dX10_goThroughNight_71 : decode cX10_goThroughNight 71 = .ok (.iload_n 2, 1) := by decide +kernel
theorem dX10_goThroughNight_72 : decode cX10_goThroughNight 72 = .ok (.invokestatic 258, 3) := by decide +kernel
theorem dX10_goThroughNight_75 : decode cX10_goThroughNight 75 = .ok (.istore_n 2, 1) := by decide +kernel
theorem dX10_goThroughNight_76 : decode cX10_goThroughNight 76 = .ok (.aload_n 0, 1) := by decide +kernel
theorem dX10_goThroughNight_77 : decode cX10_goThroughNight 77 = .ok (.getfield 37, 3) := by decide +kernel
theorem dX10_goThroughNight_80 : decode cX10_goThroughNight 80 = .ok (.iload_n 2, 1) := by decide +kernel
theorem dX10_goThroughNight_81 : decode cX10_goThroughNight 81 = .ok (.iconst 3, 1) := by decide +kernel
theorem dX10_goThroughNight_82 : decode cX10_goThroughNight 82 = .ok (.invokestatic 261, 3) := by decide +kernel
theorem dX10_goThroughNight_85 : decode cX10_goThroughNight 85 = .ok (.invokevirtual 243, 3) := by decide +kernel
theorem dX10_goThroughNight_88 : decode cX10_goThroughNight 88 = .ok (.iload_n 2, 1) := by decide +kernel
theorem dX10_goThroughNight_89 : decode cX10_goThroughNight 89 = .ok (.ireturn, 1) := by decide +kernel
theorem dX10_seedAfter_0 : decode cX10_seedAfter 0 = .ok (.ldc2_w 264, 3) := by decide +kernel
theorem dX10_seedAfter_3 : decode cX10_seedAfter 3 = .ok (.iload_n 0, 1) := by decide +kernel
theorem dX10_seedAfter_4 : decode cX10_seedAfter 4 = .ok (.i2l, 1) := by decide +kernel
theorem dX10_seedAfter_5 : decode cX10_seedAfter 5 = .ok (.lmul, 1) := by decide +kernel
theorem dX10_seedAfter_6 : decode cX10_seedAfter 6 = .ok (.ldc2_w 266, 3) := by decide +kernel
theorem dX10_seedAfter_9 : decode cX10_seedAfter 9 = .ok (.ladd, 1) := by decide +kernel
theorem dX10_seedAfter_10 : decode cX10_seedAfter 10 = .ok (.ldc2_w 268, 3) := by decide +kernel
theorem dX10_seedAfter_13 : decode cX10_seedAfter 13 = .ok (.land, 1) := by decide +kernel
theorem dX10_seedAfter_14 : decode cX10_seedAfter 14 = .ok (.l2i, 1) := by decide +kernel
theorem dX10_seedAfter_15 : decode cX10_seedAfter 15 = .ok (.ireturn, 1) := by decide +kernel
theorem dX10_drawOf_0 : decode cX10_drawOf 0 = .ok (.iload_n 1, 1) := by decide +kernel
theorem dX10_drawOf_1 : decode cX10_drawOf 1 = .ok (.iconst 1, 1) := by decide +kernel
theorem dX10_drawOf_2 : decode cX10_drawOf 2 = .ok (.if_icmp .ge 7, 3) := by decide +kernel
theorem dX10_drawOf_5 : decode cX10_drawOf 5 = .ok (.iconst 0, 1) := by decide +kernel
theorem dX10_drawOf_6 : decode cX10_drawOf 6 = .ok (.goto 10, 3) := by decide +kernel
theorem dX10_drawOf_9 : decode cX10_drawOf 9 = .ok (.iload_n 0, 1) := by decide +kernel
theorem dX10_drawOf_10 : decode cX10_drawOf 10 = .ok (.ldc_w 270, 3) := by decide +kernel
theorem dX10_drawOf_13 : decode cX10_drawOf 13 = .ok (.idiv, 1) := by decide +kernel
theorem dX10_drawOf_14 : decode cX10_drawOf 14 = .ok (.iload_n 1, 1) := by decide +kernel
theorem dX10_drawOf_15 : decode cX10_drawOf 15 = .ok (.irem, 1) := by decide +kernel
theorem dX10_drawOf_16 : decode cX10_drawOf 16 = .ok (.ireturn, 1) := by decide +kernel
theorem dX11_init_0 : decode cX11_init 0 = .ok (.aload_n 0, 1) := by decide +kernel
theorem dX11_init_1 : decode cX11_init 1 = .ok (.invokespecial 1, 3) := by decide +kernel
theorem dX11_init_4 : decode cX11_init 4 = .ok (.aload_n 0, 1) := by decide +kernel
theorem dX11_init_5 : decode cX11_init 5 = .ok (.bipush 30, 2) := by decide +kernel
theorem dX11_init_7 : decode cX11_init 7 = .ok (.newarray .int, 2) := by decide +kernel
theorem dX11_init_9 : decode cX11_init 9 = .ok (.putfield 7, 3) := by decide +kernel
theorem dX11_init_12 : decode cX11_init 12 = .ok (.aload_n 0, 1) := by decide +kernel
theorem dX11_init_13 : decode cX11_init 13 = .ok (.bipush 48, 2) := by decide +kernel
theorem dX11_init_15 : decode cX11_init 15 = .ok (.newarray .int, 2) := by decide +kernel
theorem dX11_init_17 : decode cX11_init 17 = .ok (.putfield 13, 3) := by decide +kernel
theorem dX11_init_20 : decode cX11_init 20 = .ok (.aload_n 0, 1) := by decide +kernel
theorem dX11_init_21 : decode cX11_init 21 = .ok (.bipush 6, 2) := by decide +kernel
theorem dX11_init_23 : decode cX11_init 23 = .ok (.newarray .int, 2) := by decide +kernel
theorem dX11_init_25 : decode cX11_init 25 = .ok (.putfield 16, 3) := by decide +kernel
theorem dX11_init_28 : decode cX11_init 28 = .ok (.aload_n 0, 1) := by decide +kernel
theorem dX11_init_29 : decode cX11_init 29 = .ok (.bipush 6, 2) := by decide +kernel
theorem dX11_init_31 : decode cX11_init 31 = .ok (.newarray .int, 2) := by decide +kernel
theorem dX11_init_33 : decode cX11_init 33 = .ok (.putfield 19, 3) := by decide +kernel
theorem dX11_init_36 : decode cX11_init 36 = .ok (.aload_n 0, 1) := by decide +kernel
theorem dX11_init_37 : decode cX11_init 37 = .ok (.bipush 6, 2) := by decide +kernel
theorem dX11_init_39 : decode cX11_init 39 = .ok (.newarray .int, 2) := by decide +kernel
theorem dX11_init_41 : decode cX11_init 41 = .ok (.putfield 22, 3) := by decide +kernel
theorem dX11_init_44 : decode cX11_init 44 = .ok (.aload_n 0, 1) := by decide +kernel
theorem dX11_init_45 : decode cX11_init 45 = .ok (.bipush 6, 2) := by decide +kernel
theorem dX11_init_47 : decode cX11_init 47 = .ok (.newarray .int, 2) := by decide +kernel
theorem dX11_init_49 : decode cX11_init 49 = .ok (.putfield 25, 3) := by decide +kernel
theorem dX11_init_52 : decode cX11_init 52 = .ok (.aload_n 0, 1) := by decide +kernel
theorem dX11_init_53 : decode cX11_init 53 = .ok (.bipush 18, 2) := by decide +kernel
theorem dX11_init_55 : decode cX11_init 55 = .ok (.newarray .int, 2) := by decide +kernel
theorem dX11_init_57 : decode cX11_init 57 = .ok (.putfield 28, 3) := by decide +kernel
theorem dX11_init_60 : decode cX11_init 60 = .ok (.aload_n 0, 1) := by decide +kernel
theorem dX11_init_61 : decode cX11_init 61 = .ok (.bipush 48, 2) := by decide +kernel
theorem dX11_init_63 : decode cX11_init 63 = .ok (.newarray .int, 2) := by decide +kernel
theorem dX11_init_65 : decode cX11_init 65 = .ok (.putfield 31, 3) := by decide +kernel
theorem dX11_init_68 : decode cX11_init 68 = .ok (.aload_n 0, 1) := by decide +kernel
theorem dX11_init_69 : decode cX11_init 69 = .ok (.bipush 48, 2) := by decide +kernel
theorem dX11_init_71 : decode cX11_init 71 = .ok (.newarray .int, 2) := by decide +kernel
theorem dX11_init_73 : decode cX11_init 73 = .ok (.putfield 34, 3) := by decide +kernel
theorem dX11_init_76 : decode cX11_init 76 = .ok (.aload_n 0, 1) := by decide +kernel
theorem dX11_init_77 : decode cX11_init 77 = .ok (.bipush 18, 2) := by decide +kernel
theorem dX11_init_79 : decode cX11_init 79 = .ok (.newarray .int, 2) := by decide +kernel
theorem dX11_init_81 : decode cX11_init 81 = .ok (.putfield 37, 3) := by decide +kernel
theorem dX11_init_84 : decode cX11_init 84 = .ok (.aload_n 0, 1) := by decide +kernel
theorem dX11_init_85 : decode cX11_init 85 = .ok (.iconst (-1), 1) := by decide +kernel
theorem dX11_init_86 : decode cX11_init 86 = .ok (.putfield 40, 3) := by decide +kernel
theorem dX11_init_89 : decode cX11_init 89 = .ok (.return_, 1) := by decide +kernel
theorem dX11_in_0 : decode cX11_in 0 = .ok (.lload_n 0, 1) := by decide +kernel
theorem dX11_in_1 : decode cX11_in 1 = .ok (.lload_n 2, 1) := by decide +kernel
theorem dX11_in_2 : decode cX11_in 2 = .ok (.lcmp, 1) := by decide +kernel
theorem dX11_in_3 : decode cX11_in 3 = .ok (.ifCond .lt 14, 3) := by decide +kernel
theorem dX11_in_6 : decode cX11_in 6 = .ok (.lload_n 0, 1) := by decide +kernel
theorem dX11_in_7 : decode cX11_in 7 = .ok (.lload 4, 2) := by decide +kernel
theorem dX11_in_9 : decode cX11_in 9 = .ok (.lcmp, 1) := by decide +kernel
theorem dX11_in_10 : decode cX11_in 10 = .ok (.ifCond .gt 7, 3) := by decide +kernel
theorem dX11_in_13 : decode cX11_in 13 = .ok (.iconst 1, 1) := by decide +kernel
theorem dX11_in_14 : decode cX11_in 14 = .ok (.goto 4, 3) := by decide +kernel
theorem dX11_in_17 : decode cX11_in 17 = .ok (.iconst 0, 1) := by decide +kernel
theorem dX11_in_18 : decode cX11_in 18 = .ok (.ireturn, 1) := by decide +kernel
set_option maxRecDepth 20000 in
theorem ggX11_letter_X11_in : GoodIn wsX11_letter wsX11_in := goodIn_r _ [7] (by decide +kernel) (by decide +kernel)
set_option maxRecDepth 20000 in
theorem gX11_letter_X11_in : GoodIn wsX11_letter (va_wsS RX11 46 yX11_in wsX11_in) := goodIn_app (goodIn_of _ (by decide +kernel)) ggX11_letter_X11_in
theorem dX11_letter_0 : decode cX11_letter 0 = .ok (.iload_n 1, 1) := by decide +kernel
theorem dX11_letter_1 : decode cX11_letter 1 = .ok (.i2l, 1) := by decide +kernel
theorem dX11_letter_2 : decode cX11_letter 2 = .ok (.lconst 1, 1) := by decide +kernel
theorem dX11_letter_3 : decode cX11_letter 3 = .ok (.ldc2_w 44, 3) := by decide +kernel
theorem dX11_letter_6 : decode cX11_letter 6 = .ok (.invokestatic 46, 3) := by decide +kernel
theorem dX11_letter_9 : decode cX11_letter 9 = .ok (.ifCond .ne 6, 3) := by decide +kernel
theorem dX11_letter_12 : decode cX11_letter 12 = .ok (.bipush (-102), 2) := by decide +kernel
theorem dX11_letter_14 : decode cX11_letter 14 = .ok (.ireturn, 1) := by decide +kernel
theorem dX11_letter_15 : decode cX11_letter 15 = .ok (.aload_n 0, 1) := by decide +kernel
theorem dX11_letter_16 : decode cX11_letter 16 = .ok (.getfield 50, 3) := by decide +kernel
theorem dX11_letter_19 : decode cX11_letter 19 = .ok (.bipush 30, 2) := by decide +kernel
theorem dX11_letter_21 : decode cX11_letter 21 = .ok (.if_icmp .ne 6, 3) := by decide +kernel
theorem dX11_letter_24 : decode cX11_letter 24 = .ok (.bipush (-104), 2) := by decide +kernel
theorem dX11_letter_26 : decode cX11_letter 26 = .ok (.ireturn, 1) := by decide +kernel
theorem dX11_letter_27 : decode cX11_letter 27 = .ok (.aload_n 0, 1) := by decide +kernel
theorem dX11_letter_28 : decode cX11_letter 28 = .ok (.getfield 7, 3) := by decide +kernel
theorem dX11_letter_31 : decode cX11_letter 31 = .ok (.aload_n 0, 1) := by decide +kernel
theorem dX11_letter_32 : decode cX11_letter 32 = .ok (.getfield 50, 3) := by decide +kernel
theorem dX11_letter_35 : decode cX11_letter 35 = .ok (.iload_n 1, 1) := by decide +kernel
theorem dX11_letter_36 : decode cX11_letter 36 = .ok (.iastore, 1) := by decide +kernel
theorem dX11_letter_37 : decode cX11_letter 37 = .ok (.aload_n 0, 1) := by decide +kernel
theorem dX11_letter_38 : decode cX11_letter 38 = .ok (.dup, 1) := by decide +kernel
theorem dX11_letter_39 : decode cX11_letter 39 = .ok (.getfield 50, 3) := by decide +kernel
theorem dX11_letter_42 : decode cX11_letter 42 = .ok (.iconst 1, 1) := by decide +kernel
theorem dX11_letter_43 : decode cX11_letter 43 = .ok (.iadd, 1) := by decide +kernel
theorem dX11_letter_44 : decode cX11_letter 44 = .ok (.putfield 50, 3) := by decide +kernel
theorem dX11_letter_47 : decode cX11_letter 47 = .ok (.aload_n 0, 1) := by decide +kernel
theorem dX11_letter_48 : decode cX11_letter 48 = .ok (.getfield 50, 3) := by decide +kernel
theorem dX11_letter_51 : decode cX11_letter 51 = .ok (.ireturn, 1) := by decide +kernel
theorem dX11_blank_0 : decode cX11_blank 0 = .ok (.aload_n 0, 1) := by decide +kernel
theorem dX11_blank_1 : decode cX11_blank 1 = .ok (.getfield 50, 3) := by decide +kernel
theorem dX11_blank_4 : decode cX11_blank 4 = .ok (.istore_n 1, 1) := by decide +kernel
theorem dX11_blank_5 : decode cX11_blank 5 = .ok (.aload_n 0, 1) := by decide +kernel
theorem dX11_blank_6 : decode cX11_blank 6 = .ok (.iconst 0, 1) := by decide +kernel
theorem dX11_blank_7 : decode cX11_blank 7 = .ok (.putfield 50, 3) := by decide +kernel
theorem dX11_blank_10 : decode cX11_blank 10 = .ok (.iload_n 1, 1) := by decide +kernel
theorem dX11_blank_11 : decode cX11_blank 11 = .ok (.ireturn, 1) := by decide +kernel
theorem dX11_kindBy_0 : decode cX11_kindBy 0 = .ok (.iload_n 0, 1) := by decide +kernel
theorem dX11_kindBy_1 : decode cX11_kindBy 1 = .ok (.bipush 104, 2) := by decide +kernel
theorem dX11_kindBy_3 : decode cX11_kindBy 3 = .ok (.if_icmp .ne 7, 3) := by decide +kernel
theorem dX11_kindBy_6 : decode cX11_kindBy 6 = .ok (.iconst 0, 1) := by decide +kernel
theorem dX11_kindBy_7 : decode cX11_kindBy 7 = .ok (.goto 44, 3) := by decide +kernel
theorem dX11_kindBy_10 : decode cX11_kindBy 10 = .ok (.iload_n 0, 1) := by decide +kernel
theorem dX11_kindBy_11 : decode cX11_kindBy 11 = .ok (.bipush 109, 2) := by decide +kernel
theorem dX11_kindBy_13 : decode cX11_kindBy 13 = .ok (.if_icmp .ne 7, 3) := by decide +kernel
theorem dX11_kindBy_16 : decode cX11_kindBy 16 = .ok (.iconst 1, 1) := by decide +kernel
theorem dX11_kindBy_17 : decode cX11_kindBy 17 = .ok (.goto 34, 3) := by decide +kernel
theorem dX11_kindBy_20 : decode cX11_kindBy 20 = .ok (.iload_n 0, 1) := by decide +kernel
theorem dX11_kindBy_21 : decode cX11_kindBy 21 = .ok (.bipush 105, 2) := by decide +kernel
theorem dX11_kindBy_23 : decode cX11_kindBy 23 = .ok (.if_icmp .ne 7, 3) := by decide +kernel
theorem dX11_kindBy_26 : decode cX11_kindBy 26 = .ok (.iconst 2, 1) := by decide +kernel
theorem dX11_kindBy_27 : decode cX11_kindBy 27 = .ok (.goto 24, 3) := by decide +kernel
theorem dX11_kindBy_30 : decode cX11_kindBy 30 = .ok (.iload_n 0, 1) := by decide +kernel
theorem dX11_kindBy_31 : decode cX11_kindBy 31 = .ok (.bipush 119, 2) := by decide +kernel
theorem dX11_kindBy_33 : decode cX11_kindBy 33 = .ok (.if_icmp .ne 7, 3) := by decide +kernel
theorem dX11_kindBy_36 : decode cX11_kindBy 36 = .ok (.iconst 3, 1) := by decide +kernel
theorem dX11_kindBy_37 : decode cX11_kindBy 37 = .ok (.goto 14, 3) := by decide +kernel
theorem dX11_kindBy_40 : decode cX11_kindBy 40 = .ok (.iload_n 0, 1) := by decide +kernel
theorem dX11_kindBy_41 : decode cX11_kindBy 41 = .ok (.bipush 108, 2) := by decide +kernel
theorem dX11_kindBy_43 : decode cX11_kindBy 43 = .ok (.if_icmp .ne 7, 3) := by decide +kernel
theorem dX11_kindBy_46 : decode cX11_kindBy 46 = .ok (.iconst 4, 1) := by decide +kernel
theorem dX11_kindBy_47 : decode cX11_kindBy 47 = .ok (.goto 4, 3) := by decide +kernel
theorem dX11_kindBy_50 : decode cX11_kindBy 50 = .ok (.iconst (-1), 1) := by decide +kernel
theorem dX11_kindBy_51 : decode cX11_kindBy 51 = .ok (.ireturn, 1) := by decide +kernel
set_option maxRecDepth 20000 in
theorem ggX11_isGood_X11_kindBy : GoodIn wsX11_isGood wsX11_kindBy := goodIn_r _ [5] (by decide +kernel) (by decide +kernel)
set_option maxRecDepth 20000 in
theorem gX11_isGood_X11_kindBy : GoodIn wsX11_isGood (va_wsS RX11 53 yX11_kindBy wsX11_kindBy) := goodIn_app (goodIn_of _ (by decide +kernel)) ggX11_isGood_X11_kindBy
set_option maxRecDepth 20000 in
theorem ggX11_isGood_X11_in : GoodIn wsX11_isGood wsX11_in := goodIn_r _ [8] (by decide +kernel) (by decide +kernel)
set_option maxRecDepth 20000 in
theorem gX11_isGood_X11_in : GoodIn wsX11_isGood (va_wsS RX11 46 yX11_in wsX11_in) := goodIn_app (goodIn_of _ (by decide +kernel)) ggX11_isGood_X11_in
theorem dX11_isGood_0 : decode cX11_isGood 0 = .ok (.iload_n 0, 1) := by decide +kernel
theorem dX11_isGood_1 : decode cX11_isGood 1 = .ok (.iconst 5, 1) := by decide +kernel
theorem dX11_isGood_2 : decode cX11_isGood 2 = .ok (.irem, 1) := by decide +kernel
theorem dX11_isGood_3 : decode cX11_isGood 3 = .ok (.istore_n 2, 1) := by decide +kernel
theorem dX11_isGood_4 : decode cX11_isGood 4 = .ok (.iload_n 1, 1) := by decide +kernel
theorem dX11_isGood_5 : decode cX11_isGood 5 = .ok (.bipush 48, 2) := by decide +kernel
theorem dX11_isGood_7 : decode cX11_isGood 7 = .ok (.isub, 1) := by decide +kernel
theorem dX11_isGood_8 : decode cX11_isGood 8 = .ok (.istore_n 3, 1) := by decide +kernel
theorem dX11_isGood_9 : decode cX11_isGood 9 = .ok (.iload_n 2, 1) := by decide +kernel
theorem dX11_isGood_10 : decode cX11_isGood 10 = .ok (.ifCond .ne 19, 3) := by decide +kernel
theorem dX11_isGood_13 : decode cX11_isGood 13 = .ok (.iload_n 1, 1) := by decide +kernel
theorem dX11_isGood_14 : decode cX11_isGood 14 = .ok (.invokestatic 53, 3) := by decide +kernel
theorem dX11_isGood_17 : decode cX11_isGood 17 = .ok (.iconst (-1), 1) := by decide +kernel
theorem dX11_isGood_18 : decode cX11_isGood 18 = .ok (.if_icmp .eq 7, 3) := by decide +kernel
theorem dX11_isGood_21 : decode cX11_isGood 21 = .ok (.iconst 1, 1) := by decide +kernel
theorem dX11_isGood_22 : decode cX11_isGood 22 = .ok (.goto 50, 3) := by decide +kernel
theorem dX11_isGood_25 : decode cX11_isGood 25 = .ok (.iconst 0, 1) := by decide +kernel
theorem dX11_isGood_26 : decode cX11_isGood 26 = .ok (.goto 46, 3) := by decide +kernel
theorem dX11_isGood_29 : decode cX11_isGood 29 = .ok (.iload_n 2, 1) := by decide +kernel
theorem dX11_isGood_30 : decode cX11_isGood 30 = .ok (.iconst 4, 1) := by decide +kernel
theorem dX11_isGood_31 : decode cX11_isGood 31 = .ok (.if_icmp .ne 23, 3) := by decide +kernel
theorem dX11_isGood_34 : decode cX11_isGood 34 = .ok (.iload_n 1, 1) := by decide +kernel
theorem dX11_isGood_35 : decode cX11_isGood 35 = .ok (.bipush 44, 2) := by decide +kernel
theorem dX11_isGood_37 : decode cX11_isGood 37 = .ok (.if_icmp .ne 13, 3) := by decide +kernel
theorem dX11_isGood_40 : decode cX11_isGood 40 = .ok (.iload_n 0, 1) := by decide +kernel
theorem dX11_isGood_41 : decode cX11_isGood 41 = .ok (.bipush 29, 2) := by decide +kernel
theorem dX11_isGood_43 : decode cX11_isGood 43 = .ok (.if_icmp .ge 7, 3) := by decide +kernel
theorem dX11_isGood_46 : decode cX11_isGood 46 = .ok (.iconst 1, 1) := by decide +kernel
theorem dX11_isGood_47 : decode cX11_isGood 47 = .ok (.goto 25, 3) := by decide +kernel
theorem dX11_isGood_50 : decode cX11_isGood 50 = .ok (.iconst 0, 1) := by decide +kernel
theorem dX11_isGood_51 : decode cX11_isGood 51 = .ok (.goto 21, 3) := by decide +kernel
theorem dX11_isGood_54 : decode cX11_isGood 54 = .ok (.iload_n 3, 1) := by decide +kernel
theorem dX11_isGood_55 : decode cX11_isGood 55 = .ok (.i2l, 1) := by decide +kernel
theorem dX11_isGood_56 : decode cX11_isGood 56 = .ok (.iload_n 2, 1) := by decide +kernel
theorem dX11_isGood_57 : decode cX11_isGood 57 = .ok (.iconst 1, 1) := by decide +kernel
theorem dX11_isGood_58 : decode cX11_isGood 58 = .ok (.if_icmp .ne 7, 3) := by decide +kernel
theorem dX11_isGood_61 : decode cX11_isGood 61 = .ok (.lconst 0, 1) := by decide +kernel
theorem dX11_isGood_62 : decode cX11_isGood 62 = .ok (.goto 4, 3) := by decide +kernel
theorem dX11_isGood_65 : decode cX11_isGood 65 = .ok (.lconst 1, 1) := by decide +kernel
theorem dX11_isGood_66 : decode cX11_isGood 66 = .ok (.ldc2_w 57, 3) := by decide +kernel
theorem dX11_isGood_69 : decode cX11_isGood 69 = .ok (.invokestatic 46, 3) := by decide +kernel
theorem dX11_isGood_72 : decode cX11_isGood 72 = .ok (.ireturn, 1) := by decide +kernel
set_option maxRecDepth 20000 in
theorem ggX11_faultOf_X11_isGood : GoodIn wsX11_faultOf wsX11_isGood := goodIn_r _ [6, 7, 8, 9, 5, 10, 11, 12, 13] (by decide +kernel) (by decide +kernel)
set_option maxRecDepth 20000 in
theorem gX11_faultOf_X11_isGood : GoodIn wsX11_faultOf (va_wsS RX11 59 yX11_isGood wsX11_isGood) := goodIn_app (goodIn_of _ (by decide +kernel)) ggX11_faultOf_X11_isGood
theorem dX11_faultOf_0 : decode cX11_faultOf 0 = .ok (.iconst 0, 1) := by decide +kernel
theorem dX11_faultOf_1 : decode cX11_faultOf 1 = .ok (.istore_n 1, 1) := by decide +kernel
theorem dX11_faultOf_2 : decode cX11_faultOf 2 = .ok (.iload_n 1, 1) := by decide +kernel
theorem dX11_faultOf_3 : decode cX11_faultOf 3 = .ok (.aload_n 0, 1) := by decide +kernel
theorem dX11_faultOf_4 : decode cX11_faultOf 4 = .ok (.getfield 50, 3) := by decide +kernel
theorem dX11_faultOf_7 : decode cX11_faultOf 7 = .ok (.if_icmp .ge 22, 3) := by decide +kernel
theorem dX11_faultOf_10 : decode cX11_faultOf 10 = .ok (.iload_n 1, 1) := by decide +kernel
theorem dX11_faultOf_11 : decode cX11_faultOf 11 = .ok (.aload_n 0, 1) := by decide +kernel
theorem dX11_faultOf_12 : decode cX11_faultOf 12 = .ok (.getfield 7, 3) := by decide +kernel
theorem dX11_faultOf_15 : decode cX11_faultOf 15 = .ok (.iload_n 1, 1) := by decide +kernel
theorem dX11_faultOf_16 : decode cX11_faultOf 16 = .ok (.iaload, 1) := by decide +kernel
theorem dX11_faultOf_17 : decode cX11_faultOf 17 = .ok (.invokestatic 59, 3) := by decide +kernel
theorem dX11_faultOf_20 : decode cX11_faultOf 20 = .ok (.ifCond .eq 9, 3) := by decide +kernel
theorem dX11_faultOf_23 : decode cX11_faultOf 23 = .ok (.iinc 1 1, 3) := by decide +kernel
theorem dX11_faultOf_26 : decode cX11_faultOf 26 = .ok (.goto (-24), 3) := by decide +kernel
theorem dX11_faultOf_29 : decode cX11_faultOf 29 = .ok (.iload_n 1, 1) := by decide +kernel
theorem dX11_faultOf_30 : decode cX11_faultOf 30 = .ok (.ireturn, 1) := by decide +kernel
set_option maxRecDepth 20000 in
theorem ggX11_fault_X11_faultOf : GoodIn wsX11_fault wsX11_faultOf := goodIn_r _ [5, 6, 7, 8, 9, 4, 10, 11, 12, 13, 14, 15, 16, 17, 18, 19, 20, 21, 22, 23, 24, 25, 26, 27, 28, 29, 30, 31, 32, 33, 34, 35, 36, 37, 38, 39, 40, 41, 42, 43, 44, 45, 46, 47, 48, 49] (by decide +kernel) (by decide +kernel)
set_option maxRecDepth 20000 in
theorem gX11_fault_X11_faultOf : GoodIn wsX11_fault (wsV RX11 63 RX11 yX11_faultOf wsX11_faultOf) := goodIn_app (goodIn_of _ (by decide +kernel)) ggX11_fault_X11_faultOf
theorem dX11_fault_0 : decode cX11_fault 0 = .ok (.aload_n 0, 1) := by decide +kernel
theorem dX11_fault_1 : decode cX11_fault 1 = .ok (.invokevirtual 63, 3) := by decide +kernel
theorem dX11_fault_4 : decode cX11_fault 4 = .ok (.ireturn, 1) := by decide +kernel
set_option maxRecDepth 20000 in
theorem ggX11_town_X11_faultOf : GoodIn wsX11_town wsX11_faultOf := goodIn_r _ [14, 1, 4, 15, 16, 13, 17, 18, 19, 20, 21, 22, 23, 24, 25, 26, 27, 28, 29, 30, 31, 32, 33, 34, 35, 36, 37, 38, 39, 40, 41, 42, 43, 44, 45, 46, 47, 48, 49, 50, 51, 52, 53, 54, 55, 56] (by decide +kernel) (by decide +kernel)
set_option maxRecDepth 20000 in
theorem gX11_town_X11_faultOf : GoodIn wsX11_town (wsV RX11 63 RX11 yX11_faultOf wsX11_faultOf) := goodIn_app (goodIn_of _ (by decide +kernel)) ggX11_town_X11_faultOf
set_option maxRecDepth 20000 in
theorem ggX11_town_X11_kindBy : GoodIn wsX11_town wsX11_kindBy := goodIn_r _ [21] (by decide +kernel) (by decide +kernel)
set_option maxRecDepth 20000 in
theorem gX11_town_X11_kindBy : GoodIn wsX11_town (va_wsS RX11 53 yX11_kindBy wsX11_kindBy) := goodIn_app (goodIn_of _ (by decide +kernel)) ggX11_town_X11_kindBy
theorem dX11_town_0 : decode cX11_town 0 = .ok (.aload_n 0, 1) := by decide +kernel
theorem dX11_town_1 : decode cX11_town 1 = .ok (.invokevirtual 63, 3) := by decide +kernel
theorem dX11_town_4 : decode cX11_town 4 = .ok (.aload_n 0, 1) := by decide +kernel
theorem dX11_town_5 : decode cX11_town 5 = .ok (.getfield 50, 3) := by decide +kernel
theorem dX11_town_8 : decode cX11_town 8 = .ok (.if_icmp .lt 22, 3) := by decide +kernel
theorem dX11_town_11 : decode cX11_town 11 = .ok (.aload_n 0, 1) := by decide +kernel
theorem dX11_town_12 : decode cX11_town 12 = .ok (.getfield 50, 3) := by decide +kernel
theorem dX11_town_15 : decode cX11_town 15 = .ok (.iconst 5, 1) := by decide +kernel
theorem dX11_town_16 : decode cX11_town 16 = .ok (.irem, 1) := by decide +kernel
theorem dX11_town_17 : decode cX11_town 17 = .ok (.iconst 4, 1) := by decide +kernel
theorem dX11_town_18 : decode cX11_town 18 = .ok (.if_icmp .ne 12, 3) := by decide +kernel
theorem dX11_town_21 : decode cX11_town 21 = .ok (.aload_n 0, 1) := by decide +kernel
theorem dX11_town_22 : decode cX11_town 22 = .ok (.getfield 50, 3) := by decide +kernel
theorem dX11_town_25 : decode cX11_town 25 = .ok (.bipush 14, 2) := by decide +kernel
theorem dX11_town_27 : decode cX11_town 27 = .ok (.if_icmp .ge 6, 3) := by decide +kernel
theorem dX11_town_30 : decode cX11_town 30 = .ok (.bipush (-103), 2) := by decide +kernel
theorem dX11_town_32 : decode cX11_town 32 = .ok (.ireturn, 1) := by decide +kernel
theorem dX11_town_33 : decode cX11_town 33 = .ok (.aload_n 0, 1) := by decide +kernel
theorem dX11_town_34 : decode cX11_town 34 = .ok (.aload_n 0, 1) := by decide +kernel
theorem dX11_town_35 : decode cX11_town 35 = .ok (.getfield 50, 3) := by decide +kernel
theorem dX11_town_38 : decode cX11_town 38 = .ok (.iconst 5, 1) := by decide +kernel
theorem dX11_town_39 : decode cX11_town 39 = .ok (.idiv, 1) := by decide +kernel
theorem dX11_town_40 : decode cX11_town 40 = .ok (.iconst 1, 1) := by decide +kernel
theorem dX11_town_41 : decode cX11_town 41 = .ok (.iadd, 1) := by decide +kernel
theorem dX11_town_42 : decode cX11_town 42 = .ok (.putfield 67, 3) := by decide +kernel
theorem dX11_town_45 : decode cX11_town 45 = .ok (.iconst 0, 1) := by decide +kernel
theorem dX11_town_46 : decode cX11_town 46 = .ok (.istore_n 1, 1) := by decide +kernel
theorem dX11_town_47 : decode cX11_town 47 = .ok (.iload_n 1, 1) := by decide +kernel
theorem dX11_town_48 : decode cX11_town 48 = .ok (.aload_n 0, 1) := by decide +kernel
theorem dX11_town_49 : decode cX11_town 49 = .ok (.getfield 67, 3) := by decide +kernel
theorem dX11_town_52 : decode cX11_town 52 = .ok (.if_icmp .ge 116, 3) := by decide +kernel
theorem dX11_town_55 : decode cX11_town 55 = .ok (.aload_n 0, 1) := by decide +kernel
theorem dX11_town_56 : decode cX11_town 56 = .ok (.getfield 13, 3) := by decide +kernel
theorem dX11_town_59 : decode cX11_town 59 = .ok (.bipush 8, 2) := by decide +kernel
theorem dX11_town_61 : decode cX11_town 61 = .ok (.iload_n 1, 1) := by decide +kernel
theorem dX11_town_62 : decode cX11_town 62 = .ok (.imul, 1) := by decide +kernel
theorem dX11_town_63 : decode cX11_town 63 = .ok (.aload_n 0, 1) := by decide +kernel
theorem dX11_town_64 : decode cX11_town 64 = .ok (.getfield 7, 3) := by decide +kernel
theorem dX11_town_67 : decode cX11_town 67 = .ok (.iconst 5, 1) := by decide +kernel
theorem dX11_town_68 : decode cX11_town 68 = .ok (.iload_n 1, 1) := by decide +kernel
theorem dX11_town_69 : decode cX11_town 69 = .ok (.imul, 1) := by decide +kernel
theorem dX11_town_70 : decode cX11_town 70 = .ok (.iaload, 1) := by decide +kernel
theorem dX11_town_71 : decode cX11_town 71 = .ok (.invokestatic 53, 3) := by decide +kernel
theorem dX11_town_74 : decode cX11_town 74 = .ok (.iastore, 1) := by decide +kernel
theorem dX11_town_75 : decode cX11_town 75 = .ok (.iconst 1, 1) := by decide +kernel
theorem dX11_town_76 : decode cX11_town 76 = .ok (.istore_n 2, 1) := by decide +kernel
theorem dX11_town_77 : decode cX11_town 77 = .ok (.iload_n 2, 1) := by decide +kernel
theorem dX11_town_78 : decode cX11_town 78 = .ok (.iconst 4, 1) := by decide +kernel
theorem dX11_town_79 : decode cX11_town 79 = .ok (.if_icmp .ge 33, 3) := by decide +kernel
theorem dX11_town_82 : decode cX11_town 82 = .ok (.aload_n 0, 1) := by decide +kernel
theorem dX11_town_83 : decode cX11_town 83 = .ok (.getfield 13, 3) := by decide +kernel
theorem dX11_town_86 : decode cX11_town 86 = .ok (.bipush 8, 2) := by decide +kernel
theorem dX11_town_88 : decode cX11_town 88 = .ok (.iload_n 1, 1) := by decide +kernel
theorem dX11_town_89 : decode cX11_town 89 = .ok (.imul, 1) := by decide +kernel
theorem dX11_town_90 : decode cX11_town 90 = .ok (.iload_n 2, 1) := by decide +kernel
theorem dX11_town_91 : decode cX11_town 91 = .ok (.iadd, 1) := by decide +kernel
theorem dX11_town_92 : decode cX11_town 92 = .ok (.aload_n 0, 1) := by decide +kernel
theorem dX11_town_93 : decode cX11_town 93 = .ok (.getfield 7, 3) := by decide +kernel
theorem dX11_town_96 : decode cX11_town 96 = .ok (.iconst 5, 1) := by decide +kernel
theorem dX11_town_97 : decode cX11_town 97 = .ok (.iload_n 1, 1) := by decide +kernel
theorem dX11_town_98 : decode cX11_town 98 = .ok (.imul, 1) := by decide +kernel
theorem dX11_town_99 : decode cX11_town 99 = .ok (.iload_n 2, 1) := by decide +kernel
theorem dX11_town_100 : decode cX11_town 100 = .ok (.iadd, 1) := by decide +kernel
theorem dX11_town_101 : decode cX11_town 101 = .ok (.iaload, 1) := by decide +kernel
theorem dX11_town_102 : decode cX11_town 102 = .ok (.bipush 48, 2) := by decide +kernel
theorem dX11_town_104 : decode cX11_town 104 = .ok (.isub, 1) := by decide +kernel
theorem dX11_town_105 : decode cX11_town 105 = .ok (.iastore, 1) := by decide +kernel
theorem dX11_town_106 : decode cX11_town 106 = .ok (.iinc 2 1, 3) := by decide +kernel
theorem dX11_town_109 : decode cX11_town 109 = .ok (.goto (-32), 3) := by decide +kernel
theorem dX11_town_112 : decode cX11_town 112 = .ok (.aload_n 0, 1) := by decide +kernel
theorem dX11_town_113 : decode cX11_town 113 = .ok (.getfield 13, 3) := by decide +kernel
theorem dX11_town_116 : decode cX11_town 116 = .ok (.bipush 8, 2) := by decide +kernel
theorem dX11_town_118 : decode cX11_town 118 = .ok (.iload_n 1, 1) := by decide +kernel
theorem dX11_town_119 : decode cX11_town 119 = .ok (.imul, 1) := by decide +kernel
theorem dX11_town_120 : decode cX11_town 120 = .ok (.iconst 4, 1) := by decide +kernel
theorem dX11_town_121 : decode cX11_town 121 = .ok (.iadd, 1) := by decide +kernel
theorem dX11_town_122 : decode cX11_town 122 = .ok (.iconst (-1), 1) := by decide +kernel
theorem dX11_town_123 : decode cX11_town 123 = .ok (.iastore, 1) := by decide +kernel
theorem dX11_town_124 : decode cX11_town 124 = .ok (.aload_n 0, 1) := by decide +kernel
theorem dX11_town_125 : decode cX11_town 125 = .ok (.getfield 13, 3) := by decide +kernel
theorem dX11_town_128 : decode cX11_town 128 = .ok (.bipush 8, 2) := by decide +kernel
theorem dX11_town_130 : decode cX11_town 130 = .ok (.iload_n 1, 1) := by decide +kernel
theorem dX11_town_131 : decode cX11_town 131 = .ok (.imul, 1) := by decide +kernel
theorem dX11_town_132 : decode cX11_town 132 = .ok (.iconst 5, 1) := by decide +kernel
theorem dX11_town_133 : decode cX11_town 133 = .ok (.iadd, 1) := by decide +kernel
theorem dX11_town_134 : decode cX11_town 134 = .ok (.iconst (-1), 1) := by decide +kernel
theorem dX11_town_135 : decode cX11_town 135 = .ok (.iastore, 1) := by decide +kernel
theorem dX11_town_136 : decode cX11_town 136 = .ok (.aload_n 0, 1) := by decide +kernel
theorem dX11_town_137 : decode cX11_town 137 = .ok (.getfield 13, 3) := by decide +kernel
theorem dX11_town_140 : decode cX11_town 140 = .ok (.bipush 8, 2) := by decide +kernel
theorem dX11_town_142 : decode cX11_town 142 = .ok (.iload_n 1, 1) := by decide +kernel
theorem dX11_town_143 : decode cX11_town 143 = .ok (.imul, 1) := by decide +kernel
theorem dX11_town_144 : decode cX11_town 144 = .ok (.bipush 6, 2) := by decide +kernel
theorem dX11_town_146 : decode cX11_town 146 = .ok (.iadd, 1) := by decide +kernel
theorem dX11_town_147 : decode cX11_town 147 = .ok (.iconst 0, 1) := by decide +kernel
theorem dX11_town_148 : decode cX11_town 148 = .ok (.iastore, 1) := by decide +kernel
theorem dX11_town_149 : decode cX11_town 149 = .ok (.aload_n 0, 1) := by decide +kernel
theorem dX11_town_150 : decode cX11_town 150 = .ok (.getfield 13, 3) := by decide +kernel
theorem dX11_town_153 : decode cX11_town 153 = .ok (.bipush 8, 2) := by decide +kernel
theorem dX11_town_155 : decode cX11_town 155 = .ok (.iload_n 1, 1) := by decide +kernel
theorem dX11_town_156 : decode cX11_town 156 = .ok (.imul, 1) := by decide +kernel
theorem dX11_town_157 : decode cX11_town 157 = .ok (.bipush 7, 2) := by decide +kernel
theorem dX11_town_159 : decode cX11_town 159 = .ok (.iadd, 1) := by decide +kernel
theorem dX11_town_160 : decode cX11_town 160 = .ok (.iconst 0, 1) := by decide +kernel
theorem dX11_town_161 : decode cX11_town 161 = .ok (.iastore, 1) := by decide +kernel
theorem dX11_town_162 : decode cX11_town 162 = .ok (.iinc 1 1, 3) := by decide +kernel
theorem dX11_town_165 : decode cX11_town 165 = .ok (.goto (-118), 3) := by decide +kernel
theorem dX11_town_168 : decode cX11_town 168 = .ok (.aload_n 0, 1) := by decide +kernel
theorem dX11_town_169 : decode cX11_town 169 = .ok (.iconst 0, 1) := by decide +kernel
theorem dX11_town_170 : decode cX11_town 170 = .ok (.putfield 70, 3) := by decide +kernel
theorem dX11_town_173 : decode cX11_town 173 = .ok (.aload_n 0, 1) := by decide +kernel
theorem dX11_town_174 : decode cX11_town 174 = .ok (.iconst 0, 1) := by decide +kernel
theorem dX11_town_175 : decode cX11_town 175 = .ok (.putfield 73, 3) := by decide +kernel
theorem dX11_town_178 : decode cX11_town 178 = .ok (.aload_n 0, 1) := by decide +kernel
theorem dX11_town_179 : decode cX11_town 179 = .ok (.iconst 0, 1) := by decide +kernel
theorem dX11_town_180 : decode cX11_town 180 = .ok (.putfield 76, 3) := by decide +kernel
theorem dX11_town_183 : decode cX11_town 183 = .ok (.aload_n 0, 1) := by decide +kernel
theorem dX11_town_184 : decode cX11_town 184 = .ok (.iconst 0, 1) := by decide +kernel
theorem dX11_town_185 : decode cX11_town 185 = .ok (.putfield 79, 3) := by decide +kernel
theorem dX11_town_188 : decode cX11_town 188 = .ok (.aload_n 0, 1) := by decide +kernel
theorem dX11_town_189 : decode cX11_town 189 = .ok (.dup, 1) := by decide +kernel
theorem dX11_town_190 : decode cX11_town 190 = .ok (.getfield 82, 3) := by decide +kernel
theorem dX11_town_193 : decode cX11_town 193 = .ok (.iconst 1, 1) := by decide +kernel
theorem dX11_town_194 : decode cX11_town 194 = .ok (.iadd, 1) := by decide +kernel
theorem dX11_town_195 : decode cX11_town 195 = .ok (.putfield 82, 3) := by decide +kernel
theorem dX11_town_198 : decode cX11_town 198 = .ok (.aload_n 0, 1) := by decide +kernel
theorem dX11_town_199 : decode cX11_town 199 = .ok (.iconst 0, 1) := by decide +kernel
theorem dX11_town_200 : decode cX11_town 200 = .ok (.putfield 50, 3) := by decide +kernel
theorem dX11_town_203 : decode cX11_town 203 = .ok (.aload_n 0, 1) := by decide +kernel
theorem dX11_town_204 : decode cX11_town 204 = .ok (.getfield 67, 3) := by decide +kernel
theorem dX11_town_207 : decode cX11_town 207 = .ok (.ireturn, 1) := by decide +kernel
theorem dX11_lacks_0 : decode cX11_lacks 0 = .ok (.aload_n 0, 1) := by decide +kernel
theorem dX11_lacks_1 : decode cX11_lacks 1 = .ok (.getfield 67, 3) := by decide +kernel
theorem dX11_lacks_4 : decode cX11_lacks 4 = .ok (.ifCond .ne 7, 3) := by decide +kernel
theorem dX11_lacks_7 : decode cX11_lacks 7 = .ok (.iconst 1, 1) := by decide +kernel
theorem dX11_lacks_8 : decode cX11_lacks 8 = .ok (.goto 4, 3) := by decide +kernel
theorem dX11_lacks_11 : decode cX11_lacks 11 = .ok (.iconst 0, 1) := by decide +kernel
theorem dX11_lacks_12 : decode cX11_lacks 12 = .ok (.ireturn, 1) := by decide +kernel
set_option maxRecDepth 20000 in
theorem ggX11_isHouse_X11_in : GoodIn wsX11_isHouse wsX11_in := goodIn_r _ [5] (by decide +kernel) (by decide +kernel)
set_option maxRecDepth 20000 in
theorem gX11_isHouse_X11_in : GoodIn wsX11_isHouse (va_wsS RX11 46 yX11_in wsX11_in) := goodIn_app (goodIn_of _ (by decide +kernel)) ggX11_isHouse_X11_in
theorem dX11_isHouse_0 : decode cX11_isHouse 0 = .ok (.iload_n 1, 1) := by decide +kernel
theorem dX11_isHouse_1 : decode cX11_isHouse 1 = .ok (.i2l, 1) := by decide +kernel
theorem dX11_isHouse_2 : decode cX11_isHouse 2 = .ok (.lconst 0, 1) := by decide +kernel
theorem dX11_isHouse_3 : decode cX11_isHouse 3 = .ok (.aload_n 0, 1) := by decide +kernel
theorem dX11_isHouse_4 : decode cX11_isHouse 4 = .ok (.getfield 67, 3) := by decide +kernel
theorem dX11_isHouse_7 : decode cX11_isHouse 7 = .ok (.iconst 1, 1) := by decide +kernel
theorem dX11_isHouse_8 : decode cX11_isHouse 8 = .ok (.isub, 1) := by decide +kernel
theorem dX11_isHouse_9 : decode cX11_isHouse 9 = .ok (.i2l, 1) := by decide +kernel
theorem dX11_isHouse_10 : decode cX11_isHouse 10 = .ok (.invokestatic 46, 3) := by decide +kernel
theorem dX11_isHouse_13 : decode cX11_isHouse 13 = .ok (.ireturn, 1) := by decide +kernel
set_option maxRecDepth 20000 in
theorem ggX11_about_X11_isHouse : GoodIn wsX11_about wsX11_isHouse := goodIn_r _ [7, 8, 9, 10, 6, 11, 12, 13, 14, 15, 16, 17, 18, 19, 20, 21, 22, 23, 24, 25, 26, 27, 28, 29, 30, 31, 32, 33, 34, 35, 36, 37, 38, 39, 40, 41, 42, 43] (by decide +kernel) (by decide +kernel)
set_option maxRecDepth 20000 in
theorem gX11_about_X11_isHouse : GoodIn wsX11_about (wsV RX11 85 RX11 yX11_isHouse wsX11_isHouse) := goodIn_app (goodIn_of _ (by decide +kernel)) ggX11_about_X11_isHouse
set_option maxRecDepth 20000 in
theorem ggX11_about_X11_in : GoodIn wsX11_about wsX11_in := goodIn_r _ [11] (by decide +kernel) (by decide +kernel)
set_option maxRecDepth 20000 in
theorem gX11_about_X11_in : GoodIn wsX11_about (va_wsS RX11 46 yX11_in wsX11_in) := goodIn_app (goodIn_of _ (by decide +kernel)) ggX11_about_X11_in
theorem dX11_about_0 : decode cX11_about 0 = .ok (.aload_n 0, 1) := by decide +kernel
theorem dX11_about_1 : decode cX11_about 1 = .ok (.iload_n 1, 1) := by decide +kernel
theorem dX11_about_2 : decode cX11_about 2 = .ok (.invokevirtual 85, 3) := by decide +kernel
theorem dX11_about_5 : decode cX11_about 5 = .ok (.ifCond .ne 6, 3) := by decide +kernel
theorem dX11_about_8 : decode cX11_about 8 = .ok (.bipush (-101), 2) := by decide +kernel
theorem dX11_about_10 : decode cX11_about 10 = .ok (.ireturn, 1) := by decide +kernel
theorem dX11_about_11 : decode cX11_about 11 = .ok (.iload_n 2, 1) := by decide +kernel
theorem dX11_about_12 : decode cX11_about 12 = .ok (.i2l, 1) := by decide +kernel
theorem dX11_about_13 : decode cX11_about 13 = .ok (.lconst 0, 1) := by decide +kernel
theorem dX11_about_14 : decode cX11_about 14 = .ok (.ldc2_w 89, 3) := by decide +kernel
theorem dX11_about_17 : decode cX11_about 17 = .ok (.invokestatic 46, 3) := by decide +kernel
theorem dX11_about_20 : decode cX11_about 20 = .ok (.ifCond .eq 17, 3) := by decide +kernel
theorem dX11_about_23 : decode cX11_about 23 = .ok (.aload_n 0, 1) := by decide +kernel
theorem dX11_about_24 : decode cX11_about 24 = .ok (.getfield 13, 3) := by decide +kernel
theorem dX11_about_27 : decode cX11_about 27 = .ok (.bipush 8, 2) := by decide +kernel
theorem dX11_about_29 : decode cX11_about 29 = .ok (.iload_n 1, 1) := by decide +kernel
theorem dX11_about_30 : decode cX11_about 30 = .ok (.imul, 1) := by decide +kernel
theorem dX11_about_31 : decode cX11_about 31 = .ok (.iload_n 2, 1) := by decide +kernel
theorem dX11_about_32 : decode cX11_about 32 = .ok (.iadd, 1) := by decide +kernel
theorem dX11_about_33 : decode cX11_about 33 = .ok (.iaload, 1) := by decide +kernel
theorem dX11_about_34 : decode cX11_about 34 = .ok (.goto 5, 3) := by decide +kernel
theorem dX11_about_37 : decode cX11_about 37 = .ok (.bipush (-102), 2) := by decide +kernel
theorem dX11_about_39 : decode cX11_about 39 = .ok (.ireturn, 1) := by decide +kernel
set_option maxRecDepth 20000 in
theorem ggX11_as_X11_isHouse : GoodIn wsX11_as wsX11_isHouse := goodIn_r _ [7, 8, 9, 10, 6, 11, 12, 13, 14, 15, 16, 17, 18, 19, 20, 21, 22, 23, 24, 25, 26, 27, 28, 29, 30, 31, 32, 33, 34, 35, 36, 37, 38, 39, 40, 41, 42, 43] (by decide +kernel) (by decide +kernel)
set_option maxRecDepth 20000 in
theorem gX11_as_X11_isHouse : GoodIn wsX11_as (wsV RX11 85 RX11 yX11_isHouse wsX11_isHouse) := goodIn_app (goodIn_of _ (by decide +kernel)) ggX11_as_X11_isHouse
set_option maxRecDepth 20000 in
theorem ggX11_as_X11_in : GoodIn wsX11_as wsX11_in := goodIn_r _ [11] (by decide +kernel) (by decide +kernel)
set_option maxRecDepth 20000 in
theorem gX11_as_X11_in : GoodIn wsX11_as (va_wsS RX11 46 yX11_in wsX11_in) := goodIn_app (goodIn_of _ (by decide +kernel)) ggX11_as_X11_in
theorem dX11_as_0 : decode cX11_as 0 = .ok (.aload_n 0, 1) := by decide +kernel
theorem dX11_as_1 : decode cX11_as 1 = .ok (.iload_n 1, 1) := by decide +kernel
theorem dX11_as_2 : decode cX11_as 2 = .ok (.invokevirtual 85, 3) := by decide +kernel
theorem dX11_as_5 : decode cX11_as 5 = .ok (.ifCond .ne 6, 3) := by decide +kernel
theorem dX11_as_8 : decode cX11_as 8 = .ok (.bipush (-101), 2) := by decide +kernel
theorem dX11_as_10 : decode cX11_as 10 = .ok (.ireturn, 1) := by decide +kernel
theorem dX11_as_11 : decode cX11_as 11 = .ok (.iload_n 2, 1) := by decide +kernel
theorem dX11_as_12 : decode cX11_as 12 = .ok (.i2l, 1) := by decide +kernel
theorem dX11_as_13 : decode cX11_as 13 = .ok (.lconst 0, 1) := by decide +kernel
theorem dX11_as_14 : decode cX11_as 14 = .ok (.ldc2_w 91, 3) := by decide +kernel
theorem dX11_as_17 : decode cX11_as 17 = .ok (.invokestatic 46, 3) := by decide +kernel
theorem dX11_as_20 : decode cX11_as 20 = .ok (.ifCond .ne 6, 3) := by decide +kernel
theorem dX11_as_23 : decode cX11_as 23 = .ok (.bipush (-102), 2) := by decide +kernel
theorem dX11_as_25 : decode cX11_as 25 = .ok (.ireturn, 1) := by decide +kernel
theorem dX11_as_26 : decode cX11_as 26 = .ok (.aload_n 0, 1) := by decide +kernel
theorem dX11_as_27 : decode cX11_as 27 = .ok (.getfield 13, 3) := by decide +kernel
theorem dX11_as_30 : decode cX11_as 30 = .ok (.bipush 8, 2) := by decide +kernel
theorem dX11_as_32 : decode cX11_as 32 = .ok (.iload_n 1, 1) := by decide +kernel
theorem dX11_as_33 : decode cX11_as 33 = .ok (.imul, 1) := by decide +kernel
theorem dX11_as_34 : decode cX11_as 34 = .ok (.iaload, 1) := by decide +kernel
theorem dX11_as_35 : decode cX11_as 35 = .ok (.istore_n 3, 1) := by decide +kernel
theorem dX11_as_36 : decode cX11_as 36 = .ok (.iload_n 2, 1) := by decide +kernel
theorem dX11_as_37 : decode cX11_as 37 = .ok (.ifCond .eq 18, 3) := by decide +kernel
theorem dX11_as_40 : decode cX11_as 40 = .ok (.iload_n 2, 1) := by decide +kernel
theorem dX11_as_41 : decode cX11_as 41 = .ok (.iload_n 3, 1) := by decide +kernel
theorem dX11_as_42 : decode cX11_as 42 = .ok (.if_icmp .eq 13, 3) := by decide +kernel
theorem dX11_as_45 : decode cX11_as 45 = .ok (.iload_n 2, 1) := by decide +kernel
theorem dX11_as_46 : decode cX11_as 46 = .ok (.iconst 3, 1) := by decide +kernel
theorem dX11_as_47 : decode cX11_as 47 = .ok (.if_icmp .ne 12, 3) := by decide +kernel
theorem dX11_as_50 : decode cX11_as 50 = .ok (.iload_n 3, 1) := by decide +kernel
theorem dX11_as_51 : decode cX11_as 51 = .ok (.iconst 4, 1) := by decide +kernel
theorem dX11_as_52 : decode cX11_as 52 = .ok (.if_icmp .ne 7, 3) := by decide +kernel
theorem dX11_as_55 : decode cX11_as 55 = .ok (.iconst 1, 1) := by decide +kernel
theorem dX11_as_56 : decode cX11_as 56 = .ok (.goto 4, 3) := by decide +kernel
theorem dX11_as_59 : decode cX11_as 59 = .ok (.iconst 0, 1) := by decide +kernel
theorem dX11_as_60 : decode cX11_as 60 = .ok (.istore 4, 2) := by decide +kernel
theorem dX11_as_62 : decode cX11_as 62 = .ok (.iload 4, 2) := by decide +kernel
theorem dX11_as_64 : decode cX11_as 64 = .ok (.ifCond .eq 7, 3) := by decide +kernel
theorem dX11_as_67 : decode cX11_as 67 = .ok (.iload_n 1, 1) := by decide +kernel
theorem dX11_as_68 : decode cX11_as 68 = .ok (.goto 4, 3) := by decide +kernel
theorem dX11_as_71 : decode cX11_as 71 = .ok (.iconst (-1), 1) := by decide +kernel
theorem dX11_as_72 : decode cX11_as 72 = .ok (.ireturn, 1) := by decide +kernel
theorem dX11_isShut_0 : decode cX11_isShut 0 = .ok (.aload_n 0, 1) := by decide +kernel
theorem dX11_isShut_1 : decode cX11_isShut 1 = .ok (.getfield 13, 3) := by decide +kernel
theorem dX11_isShut_4 : decode cX11_isShut 4 = .ok (.bipush 8, 2) := by decide +kernel
theorem dX11_isShut_6 : decode cX11_isShut 6 = .ok (.iload_n 1, 1) := by decide +kernel
theorem dX11_isShut_7 : decode cX11_isShut 7 = .ok (.imul, 1) := by decide +kernel
theorem dX11_isShut_8 : decode cX11_isShut 8 = .ok (.iconst 4, 1) := by decide +kernel
theorem dX11_isShut_9 : decode cX11_isShut 9 = .ok (.iadd, 1) := by decide +kernel
theorem dX11_isShut_10 : decode cX11_isShut 10 = .ok (.iaload, 1) := by decide +kernel
theorem dX11_isShut_11 : decode cX11_isShut 11 = .ok (.iconst (-1), 1) := by decide +kernel
theorem dX11_isShut_12 : decode cX11_isShut 12 = .ok (.if_icmp .eq 7, 3) := by decide +kernel
theorem dX11_isShut_15 : decode cX11_isShut 15 = .ok (.iconst 1, 1) := by decide +kernel
theorem dX11_isShut_16 : decode cX11_isShut 16 = .ok (.goto 4, 3) := by decide +kernel
theorem dX11_isShut_19 : decode cX11_isShut 19 = .ok (.iconst 0, 1) := by decide +kernel
theorem dX11_isShut_20 : decode cX11_isShut 20 = .ok (.ireturn, 1) := by decide +kernel
set_option maxRecDepth 20000 in
theorem ggX11_shut_X11_isHouse : GoodIn wsX11_shut wsX11_isHouse := goodIn_r _ [7, 8, 9, 10, 6, 11, 16, 17, 18, 19, 20, 21, 22, 23, 24, 25, 26, 27, 28, 29, 30, 31, 32, 33, 34, 35, 36, 37, 38, 39, 40, 41, 42, 43, 44, 45, 46, 47] (by decide +kernel) (by decide +kernel)
set_option maxRecDepth 20000 in
theorem gX11_shut_X11_isHouse : GoodIn wsX11_shut (wsV RX11 85 RX11 yX11_isHouse wsX11_isHouse) := goodIn_app (goodIn_of _ (by decide +kernel)) ggX11_shut_X11_isHouse
set_option maxRecDepth 20000 in
theorem ggX11_shut_X11_isShut : GoodIn wsX11_shut wsX11_isShut := goodIn_r _ [15, 1, 16, 17, 18, 19, 20, 21, 22, 23, 24, 25, 26, 27, 28, 29, 30, 31, 32, 33, 34, 35, 36, 37, 38, 39, 40, 41, 42, 43, 44, 45, 46, 47] (by decide +kernel) (by decide +kernel)
set_option maxRecDepth 20000 in
theorem gX11_shut_X11_isShut : GoodIn wsX11_shut (wsV RX11 93 RX11 yX11_isShut wsX11_isShut) := goodIn_app (goodIn_of _ (by decide +kernel)) ggX11_shut_X11_isShut
theorem dX11_shut_0 : decode cX11_shut 0 = .ok (.aload_n 0, 1) := by decide +kernel
theorem dX11_shut_1 : decode cX11_shut 1 = .ok (.iload_n 1, 1) := by decide +kernel
theorem dX11_shut_2 : decode cX11_shut 2 = .ok (.invokevirtual 85, 3) := by decide +kernel
theorem dX11_shut_5 : decode cX11_shut 5 = .ok (.ifCond .ne 6, 3) := by decide +kernel
theorem dX11_shut_8 : decode cX11_shut 8 = .ok (.bipush (-101), 2) := by decide +kernel
theorem dX11_shut_10 : decode cX11_shut 10 = .ok (.ireturn, 1) := by decide +kernel
theorem dX11_shut_11 : decode cX11_shut 11 = .ok (.aload_n 0, 1) := by decide +kernel
theorem dX11_shut_12 : decode cX11_shut 12 = .ok (.iload_n 1, 1) := by decide +kernel
theorem dX11_shut_13 : decode cX11_shut 13 = .ok (.invokevirtual 93, 3) := by decide +kernel
theorem dX11_shut_16 : decode cX11_shut 16 = .ok (.ifCond .eq 7, 3) := by decide +kernel
theorem dX11_shut_19 : decode cX11_shut 19 = .ok (.iconst 1, 1) := by decide +kernel
theorem dX11_shut_20 : decode cX11_shut 20 = .ok (.goto 4, 3) := by decide +kernel
theorem dX11_shut_23 : decode cX11_shut 23 = .ok (.iconst 0, 1) := by decide +kernel
theorem dX11_shut_24 : decode cX11_shut 24 = .ok (.istore_n 3, 1) := by decide +kernel
theorem dX11_shut_25 : decode cX11_shut 25 = .ok (.aload_n 0, 1) := by decide +kernel
theorem dX11_shut_26 : decode cX11_shut 26 = .ok (.getfield 13, 3) := by decide +kernel
theorem dX11_shut_29 : decode cX11_shut 29 = .ok (.bipush 8, 2) := by decide +kernel
theorem dX11_shut_31 : decode cX11_shut 31 = .ok (.iload_n 1, 1) := by decide +kernel
theorem dX11_shut_32 : decode cX11_shut 32 = .ok (.imul, 1) := by decide +kernel
theorem dX11_shut_33 : decode cX11_shut 33 = .ok (.iconst 4, 1) := by decide +kernel
theorem dX11_shut_34 : decode cX11_shut 34 = .ok (.iadd, 1) := by decide +kernel
theorem dX11_shut_35 : decode cX11_shut 35 = .ok (.iload_n 2, 1) := by decide +kernel
theorem dX11_shut_36 : decode cX11_shut 36 = .ok (.ifCond .ne 7, 3) := by decide +kernel
theorem dX11_shut_39 : decode cX11_shut 39 = .ok (.iconst (-1), 1) := by decide +kernel
theorem dX11_shut_40 : decode cX11_shut 40 = .ok (.goto 26, 3) := by decide +kernel
theorem dX11_shut_43 : decode cX11_shut 43 = .ok (.iload_n 3, 1) := by decide +kernel
theorem dX11_shut_44 : decode cX11_shut 44 = .ok (.iconst 1, 1) := by decide +kernel
theorem dX11_shut_45 : decode cX11_shut 45 = .ok (.if_icmp .ne 17, 3) := by decide +kernel
theorem dX11_shut_48 : decode cX11_shut 48 = .ok (.aload_n 0, 1) := by decide +kernel
theorem dX11_shut_49 : decode cX11_shut 49 = .ok (.getfield 13, 3) := by decide +kernel
theorem dX11_shut_52 : decode cX11_shut 52 = .ok (.bipush 8, 2) := by decide +kernel
theorem dX11_shut_54 : decode cX11_shut 54 = .ok (.iload_n 1, 1) := by decide +kernel
theorem dX11_shut_55 : decode cX11_shut 55 = .ok (.imul, 1) := by decide +kernel
theorem dX11_shut_56 : decode cX11_shut 56 = .ok (.iconst 4, 1) := by decide +kernel
theorem dX11_shut_57 : decode cX11_shut 57 = .ok (.iadd, 1) := by decide +kernel
theorem dX11_shut_58 : decode cX11_shut 58 = .ok (.iaload, 1) := by decide +kernel
theorem dX11_shut_59 : decode cX11_shut 59 = .ok (.goto 7, 3) := by decide +kernel
theorem dX11_shut_62 : decode cX11_shut 62 = .ok (.aload_n 0, 1) := by decide +kernel
theorem dX11_shut_63 : decode cX11_shut 63 = .ok (.getfield 76, 3) := by decide +kernel
theorem dX11_shut_66 : decode cX11_shut 66 = .ok (.iastore, 1) := by decide +kernel
theorem dX11_shut_67 : decode cX11_shut 67 = .ok (.iload_n 3, 1) := by decide +kernel
theorem dX11_shut_68 : decode cX11_shut 68 = .ok (.ireturn, 1) := by decide +kernel
set_option maxRecDepth 20000 in
theorem ggX11_lay_X11_in : GoodIn wsX11_lay wsX11_in := goodIn_r _ [7] (by decide +kernel) (by decide +kernel)
set_option maxRecDepth 20000 in
theorem gX11_lay_X11_in : GoodIn wsX11_lay (va_wsS RX11 46 yX11_in wsX11_in) := goodIn_app (goodIn_of _ (by decide +kernel)) ggX11_lay_X11_in
set_option maxRecDepth 20000 in
theorem ggX11_lay_X11_lacks : GoodIn wsX11_lay wsX11_lacks := goodIn_r _ [11, 12, 13, 14, 15, 16, 17, 18, 19, 20, 21, 22, 23, 24, 25, 26, 27, 28, 29, 30, 31, 32, 33, 34, 35, 36, 37, 38, 39, 40, 41, 42, 43, 44] (by decide +kernel) (by decide +kernel)
set_option maxRecDepth 20000 in
theorem gX11_lay_X11_lacks : GoodIn wsX11_lay (wsV RX11 96 RX11 yX11_lacks wsX11_lacks) := goodIn_app (goodIn_of _ (by decide +kernel)) ggX11_lay_X11_lacks
theorem dX11_lay_0 : decode cX11_lay 0 = .ok (.iload_n 1, 1) := by decide +kernel
theorem dX11_lay_1 : decode cX11_lay 1 = .ok (.i2l, 1) := by decide +kernel
theorem dX11_lay_2 : decode cX11_lay 2 = .ok (.lconst 0, 1) := by decide +kernel
theorem dX11_lay_3 : decode cX11_lay 3 = .ok (.ldc2_w 57, 3) := by decide +kernel
theorem dX11_lay_6 : decode cX11_lay 6 = .ok (.invokestatic 46, 3) := by decide +kernel
theorem dX11_lay_9 : decode cX11_lay 9 = .ok (.ifCond .ne 6, 3) := by decide +kernel
theorem dX11_lay_12 : decode cX11_lay 12 = .ok (.bipush (-102), 2) := by decide +kernel
theorem dX11_lay_14 : decode cX11_lay 14 = .ok (.ireturn, 1) := by decide +kernel
theorem dX11_lay_15 : decode cX11_lay 15 = .ok (.aload_n 0, 1) := by decide +kernel
theorem dX11_lay_16 : decode cX11_lay 16 = .ok (.invokevirtual 96, 3) := by decide +kernel
theorem dX11_lay_19 : decode cX11_lay 19 = .ok (.ifCond .eq 6, 3) := by decide +kernel
theorem dX11_lay_22 : decode cX11_lay 22 = .ok (.bipush (-103), 2) := by decide +kernel
theorem dX11_lay_24 : decode cX11_lay 24 = .ok (.ireturn, 1) := by decide +kernel
theorem dX11_lay_25 : decode cX11_lay 25 = .ok (.aload_n 0, 1) := by decide +kernel
theorem dX11_lay_26 : decode cX11_lay 26 = .ok (.getfield 70, 3) := by decide +kernel
theorem dX11_lay_29 : decode cX11_lay 29 = .ok (.istore_n 2, 1) := by decide +kernel
theorem dX11_lay_30 : decode cX11_lay 30 = .ok (.aload_n 0, 1) := by decide +kernel
theorem dX11_lay_31 : decode cX11_lay 31 = .ok (.iload_n 1, 1) := by decide +kernel
theorem dX11_lay_32 : decode cX11_lay 32 = .ok (.putfield 70, 3) := by decide +kernel
theorem dX11_lay_35 : decode cX11_lay 35 = .ok (.aload_n 0, 1) := by decide +kernel
theorem dX11_lay_36 : decode cX11_lay 36 = .ok (.iconst 0, 1) := by decide +kernel
theorem dX11_lay_37 : decode cX11_lay 37 = .ok (.putfield 73, 3) := by decide +kernel
theorem dX11_lay_40 : decode cX11_lay 40 = .ok (.iload_n 2, 1) := by decide +kernel
theorem dX11_lay_41 : decode cX11_lay 41 = .ok (.ireturn, 1) := by decide +kernel
set_option maxRecDepth 20000 in
theorem ggX11_pass_X11_in : GoodIn wsX11_pass wsX11_in := goodIn_r _ [6] (by decide +kernel) (by decide +kernel)
set_option maxRecDepth 20000 in
theorem gX11_pass_X11_in : GoodIn wsX11_pass (va_wsS RX11 46 yX11_in wsX11_in) := goodIn_app (goodIn_of _ (by decide +kernel)) ggX11_pass_X11_in
set_option maxRecDepth 20000 in
theorem ggX11_pass_X11_lacks : GoodIn wsX11_pass wsX11_lacks := goodIn_r _ [10, 11, 12, 13, 14, 15, 16, 17, 18, 19, 20, 21, 22, 23, 24, 25, 26, 27, 28, 29, 30, 31, 32, 33, 34, 35, 36, 37, 38, 39, 40, 41, 42, 43] (by decide +kernel) (by decide +kernel)
set_option maxRecDepth 20000 in
theorem gX11_pass_X11_lacks : GoodIn wsX11_pass (wsV RX11 96 RX11 yX11_lacks wsX11_lacks) := goodIn_app (goodIn_of _ (by decide +kernel)) ggX11_pass_X11_lacks
theorem dX11_pass_0 : decode cX11_pass 0 = .ok (.iload_n 1, 1) := by decide +kernel
theorem dX11_pass_1 : decode cX11_pass 1 = .ok (.i2l, 1) := by decide +kernel
theorem dX11_pass_2 : decode cX11_pass 2 = .ok (.lconst 1, 1) := by decide +kernel
theorem dX11_pass_3 : decode cX11_pass 3 = .ok (.ldc2_w 100, 3) := by decide +kernel
theorem dX11_pass_6 : decode cX11_pass 6 = .ok (.invokestatic 46, 3) := by decide +kernel
theorem dX11_pass_9 : decode cX11_pass 9 = .ok (.ifCond .ne 6, 3) := by decide +kernel
theorem dX11_pass_12 : decode cX11_pass 12 = .ok (.bipush (-102), 2) := by decide +kernel
theorem dX11_pass_14 : decode cX11_pass 14 = .ok (.ireturn, 1) := by decide +kernel
theorem dX11_pass_15 : decode cX11_pass 15 = .ok (.aload_n 0, 1) := by decide +kernel
theorem dX11_pass_16 : decode cX11_pass 16 = .ok (.invokevirtual 96, 3) := by decide +kernel
theorem dX11_pass_19 : decode cX11_pass 19 = .ok (.ifCond .ne 15, 3) := by decide +kernel
theorem dX11_pass_22 : decode cX11_pass 22 = .ok (.aload_n 0, 1) := by decide +kernel
theorem dX11_pass_23 : decode cX11_pass 23 = .ok (.getfield 76, 3) := by decide +kernel
theorem dX11_pass_26 : decode cX11_pass 26 = .ok (.iload_n 1, 1) := by decide +kernel
theorem dX11_pass_27 : decode cX11_pass 27 = .ok (.iadd, 1) := by decide +kernel
theorem dX11_pass_28 : decode cX11_pass 28 = .ok (.sipush 999, 3) := by decide +kernel
theorem dX11_pass_31 : decode cX11_pass 31 = .ok (.if_icmp .le 6, 3) := by decide +kernel
theorem dX11_pass_34 : decode cX11_pass 34 = .ok (.bipush (-103), 2) := by decide +kernel
theorem dX11_pass_36 : decode cX11_pass 36 = .ok (.ireturn, 1) := by decide +kernel
theorem dX11_pass_37 : decode cX11_pass 37 = .ok (.aload_n 0, 1) := by decide +kernel
theorem dX11_pass_38 : decode cX11_pass 38 = .ok (.dup, 1) := by decide +kernel
theorem dX11_pass_39 : decode cX11_pass 39 = .ok (.getfield 76, 3) := by decide +kernel
theorem dX11_pass_42 : decode cX11_pass 42 = .ok (.iload_n 1, 1) := by decide +kernel
theorem dX11_pass_43 : decode cX11_pass 43 = .ok (.iadd, 1) := by decide +kernel
theorem dX11_pass_44 : decode cX11_pass 44 = .ok (.putfield 76, 3) := by decide +kernel
theorem dX11_pass_47 : decode cX11_pass 47 = .ok (.aload_n 0, 1) := by decide +kernel
theorem dX11_pass_48 : decode cX11_pass 48 = .ok (.getfield 76, 3) := by decide +kernel
theorem dX11_pass_51 : decode cX11_pass 51 = .ok (.ireturn, 1) := by decide +kernel
theorem dX11_asItIs_0 : decode cX11_asItIs 0 = .ok (.aload_n 0, 1) := by decide +kernel
theorem dX11_asItIs_1 : decode cX11_asItIs 1 = .ok (.aload_n 0, 1) := by decide +kernel
theorem dX11_asItIs_2 : decode cX11_asItIs 2 = .ok (.getfield 70, 3) := by decide +kernel
theorem dX11_asItIs_5 : decode cX11_asItIs 5 = .ok (.putfield 102, 3) := by decide +kernel
theorem dX11_asItIs_8 : decode cX11_asItIs 8 = .ok (.aload_n 0, 1) := by decide +kernel
theorem dX11_asItIs_9 : decode cX11_asItIs 9 = .ok (.aload_n 0, 1) := by decide +kernel
theorem dX11_asItIs_10 : decode cX11_asItIs 10 = .ok (.getfield 76, 3) := by decide +kernel
theorem dX11_asItIs_13 : decode cX11_asItIs 13 = .ok (.putfield 105, 3) := by decide +kernel
theorem dX11_asItIs_16 : decode cX11_asItIs 16 = .ok (.aload_n 0, 1) := by decide +kernel
theorem dX11_asItIs_17 : decode cX11_asItIs 17 = .ok (.aload_n 0, 1) := by decide +kernel
theorem dX11_asItIs_18 : decode cX11_asItIs 18 = .ok (.getfield 73, 3) := by decide +kernel
theorem dX11_asItIs_21 : decode cX11_asItIs 21 = .ok (.putfield 108, 3) := by decide +kernel
theorem dX11_asItIs_24 : decode cX11_asItIs 24 = .ok (.return_, 1) := by decide +kernel
theorem dX11_far_0 : decode cX11_far 0 = .ok (.iload_n 0, 1) := by decide +kernel
theorem dX11_far_1 : decode cX11_far 1 = .ok (.iload_n 1, 1) := by decide +kernel
theorem dX11_far_2 : decode cX11_far 2 = .ok (.if_icmp .ge 9, 3) := by decide +kernel
theorem dX11_far_5 : decode cX11_far 5 = .ok (.iload_n 1, 1) := by decide +kernel
theorem dX11_far_6 : decode cX11_far 6 = .ok (.iload_n 0, 1) := by decide +kernel
theorem dX11_far_7 : decode cX11_far 7 = .ok (.isub, 1) := by decide +kernel
theorem dX11_far_8 : decode cX11_far 8 = .ok (.goto 6, 3) := by decide +kernel
theorem dX11_far_11 : decode cX11_far 11 = .ok (.iload_n 0, 1) := by decide +kernel
theorem dX11_far_12 : decode cX11_far 12 = .ok (.iload_n 1, 1) := by decide +kernel
theorem dX11_far_13 : decode cX11_far 13 = .ok (.isub, 1) := by decide +kernel
theorem dX11_far_14 : decode cX11_far 14 = .ok (.ireturn, 1) := by decide +kernel
set_option maxRecDepth 20000 in
theorem ggX11_opens_X11_far : GoodIn wsX11_opens wsX11_far := goodIn_r _ [8] (by decide +kernel) (by decide +kernel)
set_option maxRecDepth 20000 in
theorem gX11_opens_X11_far : GoodIn wsX11_opens (va_wsS RX11 111 yX11_far wsX11_far) := goodIn_app (goodIn_of _ (by decide +kernel)) ggX11_opens_X11_far
theorem dX11_opens_0 : decode cX11_opens 0 = .ok (.aload_n 0, 1) := by decide +kernel
theorem dX11_opens_1 : decode cX11_opens 1 = .ok (.getfield 13, 3) := by decide +kernel
theorem dX11_opens_4 : decode cX11_opens 4 = .ok (.bipush 8, 2) := by decide +kernel
theorem dX11_opens_6 : decode cX11_opens 6 = .ok (.iload_n 1, 1) := by decide +kernel
theorem dX11_opens_7 : decode cX11_opens 7 = .ok (.imul, 1) := by decide +kernel
theorem dX11_opens_8 : decode cX11_opens 8 = .ok (.iaload, 1) := by decide +kernel
theorem dX11_opens_9 : decode cX11_opens 9 = .ok (.istore_n 2, 1) := by decide +kernel
theorem dX11_opens_10 : decode cX11_opens 10 = .ok (.aload_n 0, 1) := by decide +kernel
theorem dX11_opens_11 : decode cX11_opens 11 = .ok (.getfield 13, 3) := by decide +kernel
theorem dX11_opens_14 : decode cX11_opens 14 = .ok (.bipush 8, 2) := by decide +kernel
theorem dX11_opens_16 : decode cX11_opens 16 = .ok (.iload_n 1, 1) := by decide +kernel
theorem dX11_opens_17 : decode cX11_opens 17 = .ok (.imul, 1) := by decide +kernel
theorem dX11_opens_18 : decode cX11_opens 18 = .ok (.iconst 1, 1) := by decide +kernel
theorem dX11_opens_19 : decode cX11_opens 19 = .ok (.iadd, 1) := by decide +kernel
theorem dX11_opens_20 : decode cX11_opens 20 = .ok (.iaload, 1) := by decide +kernel
theorem dX11_opens_21 : decode cX11_opens 21 = .ok (.istore_n 3, 1) := by decide +kernel
theorem dX11_opens_22 : decode cX11_opens 22 = .ok (.aload_n 0, 1) := by decide +kernel
theorem dX11_opens_23 : decode cX11_opens 23 = .ok (.getfield 108, 3) := by decide +kernel
theorem dX11_opens_26 : decode cX11_opens 26 = .ok (.aload_n 0, 1) := by decide +kernel
theorem dX11_opens_27 : decode cX11_opens 27 = .ok (.getfield 105, 3) := by decide +kernel
theorem dX11_opens_30 : decode cX11_opens 30 = .ok (.if_icmp .le 10, 3) := by decide +kernel
theorem dX11_opens_33 : decode cX11_opens 33 = .ok (.aload_n 0, 1) := by decide +kernel
theorem dX11_opens_34 : decode cX11_opens 34 = .ok (.getfield 108, 3) := by decide +kernel
theorem dX11_opens_37 : decode cX11_opens 37 = .ok (.goto 7, 3) := by decide +kernel
theorem dX11_opens_40 : decode cX11_opens 40 = .ok (.aload_n 0, 1) := by decide +kernel
theorem dX11_opens_41 : decode cX11_opens 41 = .ok (.getfield 105, 3) := by decide +kernel
theorem dX11_opens_44 : decode cX11_opens 44 = .ok (.istore 4, 2) := by decide +kernel
theorem dX11_opens_46 : decode cX11_opens 46 = .ok (.aload_n 0, 1) := by decide +kernel
theorem dX11_opens_47 : decode cX11_opens 47 = .ok (.iload 4, 2) := by decide +kernel
theorem dX11_opens_49 : decode cX11_opens 49 = .ok (.aload_n 0, 1) := by decide +kernel
theorem dX11_opens_50 : decode cX11_opens 50 = .ok (.getfield 102, 3) := by decide +kernel
theorem dX11_opens_53 : decode cX11_opens 53 = .ok (.iload_n 3, 1) := by decide +kernel
theorem dX11_opens_54 : decode cX11_opens 54 = .ok (.invokestatic 111, 3) := by decide +kernel
theorem dX11_opens_57 : decode cX11_opens 57 = .ok (.iadd, 1) := by decide +kernel
theorem dX11_opens_58 : decode cX11_opens 58 = .ok (.iload_n 2, 1) := by decide +kernel
theorem dX11_opens_59 : decode cX11_opens 59 = .ok (.iconst 3, 1) := by decide +kernel
theorem dX11_opens_60 : decode cX11_opens 60 = .ok (.if_icmp .eq 8, 3) := by decide +kernel
theorem dX11_opens_63 : decode cX11_opens 63 = .ok (.iload_n 2, 1) := by decide +kernel
theorem dX11_opens_64 : decode cX11_opens 64 = .ok (.iconst 4, 1) := by decide +kernel
theorem dX11_opens_65 : decode cX11_opens 65 = .ok (.if_icmp .ne 7, 3) := by decide +kernel
theorem dX11_opens_68 : decode cX11_opens 68 = .ok (.iconst 0, 1) := by decide +kernel
theorem dX11_opens_69 : decode cX11_opens 69 = .ok (.goto 4, 3) := by decide +kernel
theorem dX11_opens_72 : decode cX11_opens 72 = .ok (.iconst 1, 1) := by decide +kernel
theorem dX11_opens_73 : decode cX11_opens 73 = .ok (.iadd, 1) := by decide +kernel
theorem dX11_opens_74 : decode cX11_opens 74 = .ok (.putfield 105, 3) := by decide +kernel
theorem dX11_opens_77 : decode cX11_opens 77 = .ok (.aload_n 0, 1) := by decide +kernel
theorem dX11_opens_78 : decode cX11_opens 78 = .ok (.iload_n 3, 1) := by decide +kernel
theorem dX11_opens_79 : decode cX11_opens 79 = .ok (.putfield 102, 3) := by decide +kernel
theorem dX11_opens_82 : decode cX11_opens 82 = .ok (.aload_n 0, 1) := by decide +kernel
theorem dX11_opens_83 : decode cX11_opens 83 = .ok (.iload_n 2, 1) := by decide +kernel
theorem dX11_opens_84 : decode cX11_opens 84 = .ok (.iconst 4, 1) := by decide +kernel
theorem dX11_opens_85 : decode cX11_opens 85 = .ok (.if_icmp .ne 12, 3) := by decide +kernel
theorem dX11_opens_88 : decode cX11_opens 88 = .ok (.aload_n 0, 1) := by decide +kernel
theorem dX11_opens_89 : decode cX11_opens 89 = .ok (.getfield 105, 3) := by decide +kernel
theorem dX11_opens_92 : decode cX11_opens 92 = .ok (.iconst 5, 1) := by decide +kernel
theorem dX11_opens_93 : decode cX11_opens 93 = .ok (.iadd, 1) := by decide +kernel
theorem dX11_opens_94 : decode cX11_opens 94 = .ok (.goto 4, 3) := by decide +kernel
theorem dX11_opens_97 : decode cX11_opens 97 = .ok (.iconst 0, 1) := by decide +kernel
theorem dX11_opens_98 : decode cX11_opens 98 = .ok (.putfield 108, 3) := by decide +kernel
theorem dX11_opens_101 : decode cX11_opens 101 = .ok (.aload_n 0, 1) := by decide +kernel
theorem dX11_opens_102 : decode cX11_opens 102 = .ok (.getfield 105, 3) := by decide +kernel
theorem dX11_opens_105 : decode cX11_opens 105 = .ok (.iconst 4, 1) := by decide +kernel
theorem dX11_opens_106 : decode cX11_opens 106 = .ok (.aload_n 0, 1) := by decide +kernel
theorem dX11_opens_107 : decode cX11_opens 107 = .ok (.getfield 13, 3) := by decide +kernel
theorem dX11_opens_110 : decode cX11_opens 110 = .ok (.bipush 8, 2) := by decide +kernel
theorem dX11_opens_112 : decode cX11_opens 112 = .ok (.iload_n 1, 1) := by decide +kernel
theorem dX11_opens_113 : decode cX11_opens 113 = .ok (.imul, 1) := by decide +kernel
theorem dX11_opens_114 : decode cX11_opens 114 = .ok (.iconst 2, 1) := by decide +kernel
theorem dX11_opens_115 : decode cX11_opens 115 = .ok (.iadd, 1) := by decide +kernel
theorem dX11_opens_116 : decode cX11_opens 116 = .ok (.iaload, 1) := by decide +kernel
theorem dX11_opens_117 : decode cX11_opens 117 = .ok (.imul, 1) := by decide +kernel
theorem dX11_opens_118 : decode cX11_opens 118 = .ok (.isub, 1) := by decide +kernel
theorem dX11_opens_119 : decode cX11_opens 119 = .ok (.istore 5, 2) := by decide +kernel
theorem dX11_opens_121 : decode cX11_opens 121 = .ok (.iload_n 2, 1) := by decide +kernel
theorem dX11_opens_122 : decode cX11_opens 122 = .ok (.iconst 2, 1) := by decide +kernel
theorem dX11_opens_123 : decode cX11_opens 123 = .ok (.if_icmp .eq 8, 3) := by decide +kernel
theorem dX11_opens_126 : decode cX11_opens 126 = .ok (.iload 5, 2) := by decide +kernel
theorem dX11_opens_128 : decode cX11_opens 128 = .ok (.ifCond .ge 7, 3) := by decide +kernel
theorem dX11_opens_131 : decode cX11_opens 131 = .ok (.iconst 0, 1) := by decide +kernel
theorem dX11_opens_132 : decode cX11_opens 132 = .ok (.goto 17, 3) := by decide +kernel
theorem dX11_opens_135 : decode cX11_opens 135 = .ok (.iload 5, 2) := by decide +kernel
theorem dX11_opens_137 : decode cX11_opens 137 = .ok (.aload_n 0, 1) := by decide +kernel
theorem dX11_opens_138 : decode cX11_opens 138 = .ok (.getfield 13, 3) := by decide +kernel
theorem dX11_opens_141 : decode cX11_opens 141 = .ok (.bipush 8, 2) := by decide +kernel
theorem dX11_opens_143 : decode cX11_opens 143 = .ok (.iload_n 1, 1) := by decide +kernel
theorem dX11_opens_144 : decode cX11_opens 144 = .ok (.imul, 1) := by decide +kernel
theorem dX11_opens_145 : decode cX11_opens 145 = .ok (.iconst 3, 1) := by decide +kernel
theorem dX11_opens_146 : decode cX11_opens 146 = .ok (.iadd, 1) := by decide +kernel
theorem dX11_opens_147 : decode cX11_opens 147 = .ok (.iaload, 1) := by decide +kernel
theorem dX11_opens_148 : decode cX11_opens 148 = .ok (.imul, 1) := by decide +kernel
theorem dX11_opens_149 : decode cX11_opens 149 = .ok (.ireturn, 1) := by decide +kernel
set_option maxRecDepth 20000 in
theorem ggX11_shutBits_X11_isShut : GoodIn wsX11_shutBits wsX11_isShut := goodIn_r _ [6, 7, 8, 9, 10, 11, 12, 13, 14, 15, 16, 17, 18, 19, 20, 21, 22, 23, 24, 25, 26, 27, 28, 29, 30, 31, 32, 33, 34, 35, 36, 37, 38, 39] (by decide +kernel) (by decide +kernel)
set_option maxRecDepth 20000 in
theorem gX11_shutBits_X11_isShut : GoodIn wsX11_shutBits (wsV RX11 93 RX11 yX11_isShut wsX11_isShut) := goodIn_app (goodIn_of _ (by decide +kernel)) ggX11_shutBits_X11_isShut
theorem dX11_shutBits_0 : decode cX11_shutBits 0 = .ok (.iconst 0, 1) := by decide +kernel
theorem dX11_shutBits_1 : decode cX11_shutBits 1 = .ok (.istore_n 1, 1) := by decide +kernel
theorem dX11_shutBits_2 : decode cX11_shutBits 2 = .ok (.iconst 0, 1) := by decide +kernel
theorem dX11_shutBits_3 : decode cX11_shutBits 3 = .ok (.istore_n 2, 1) := by decide +kernel
theorem dX11_shutBits_4 : decode cX11_shutBits 4 = .ok (.iload_n 2, 1) := by decide +kernel
theorem dX11_shutBits_5 : decode cX11_shutBits 5 = .ok (.aload_n 0, 1) := by decide +kernel
theorem dX11_shutBits_6 : decode cX11_shutBits 6 = .ok (.getfield 67, 3) := by decide +kernel
theorem dX11_shutBits_9 : decode cX11_shutBits 9 = .ok (.if_icmp .ge 27, 3) := by decide +kernel
theorem dX11_shutBits_12 : decode cX11_shutBits 12 = .ok (.iload_n 1, 1) := by decide +kernel
theorem dX11_shutBits_13 : decode cX11_shutBits 13 = .ok (.aload_n 0, 1) := by decide +kernel
theorem dX11_shutBits_14 : decode cX11_shutBits 14 = .ok (.iload_n 2, 1) := by decide +kernel
theorem dX11_shutBits_15 : decode cX11_shutBits 15 = .ok (.invokevirtual 93, 3) := by decide +kernel
theorem dX11_shutBits_18 : decode cX11_shutBits 18 = .ok (.ifCond .eq 9, 3) := by decide +kernel
theorem dX11_shutBits_21 : decode cX11_shutBits 21 = .ok (.iconst 1, 1) := by decide +kernel
theorem dX11_shutBits_22 : decode cX11_shutBits 22 = .ok (.iload_n 2, 1) := by decide +kernel
theorem dX11_shutBits_23 : decode cX11_shutBits 23 = .ok (.ishl, 1) := by decide +kernel
theorem dX11_shutBits_24 : decode cX11_shutBits 24 = .ok (.goto 4, 3) := by decide +kernel
theorem dX11_shutBits_27 : decode cX11_shutBits 27 = .ok (.iconst 0, 1) := by decide +kernel
theorem dX11_shutBits_28 : decode cX11_shutBits 28 = .ok (.ior, 1) := by decide +kernel
theorem dX11_shutBits_29 : decode cX11_shutBits 29 = .ok (.istore_n 1, 1) := by decide +kernel
theorem dX11_shutBits_30 : decode cX11_shutBits 30 = .ok (.iinc 2 1, 3) := by decide +kernel
theorem dX11_shutBits_33 : decode cX11_shutBits 33 = .ok (.goto (-29), 3) := by decide +kernel
theorem dX11_shutBits_36 : decode cX11_shutBits 36 = .ok (.iload_n 1, 1) := by decide +kernel
theorem dX11_shutBits_37 : decode cX11_shutBits 37 = .ok (.ireturn, 1) := by decide +kernel
theorem dX11_mayOpen_0 : decode cX11_mayOpen 0 = .ok (.iconst 0, 1) := by decide +kernel
theorem dX11_mayOpen_1 : decode cX11_mayOpen 1 = .ok (.istore_n 2, 1) := by decide +kernel
theorem dX11_mayOpen_2 : decode cX11_mayOpen 2 = .ok (.iconst 0, 1) := by decide +kernel
theorem dX11_mayOpen_3 : decode cX11_mayOpen 3 = .ok (.istore_n 3, 1) := by decide +kernel
theorem dX11_mayOpen_4 : decode cX11_mayOpen 4 = .ok (.iload_n 3, 1) := by decide +kernel
theorem dX11_mayOpen_5 : decode cX11_mayOpen 5 = .ok (.aload_n 0, 1) := by decide +kernel
theorem dX11_mayOpen_6 : decode cX11_mayOpen 6 = .ok (.getfield 67, 3) := by decide +kernel
theorem dX11_mayOpen_9 : decode cX11_mayOpen 9 = .ok (.if_icmp .ge 41, 3) := by decide +kernel
theorem dX11_mayOpen_12 : decode cX11_mayOpen 12 = .ok (.iload_n 2, 1) := by decide +kernel
theorem dX11_mayOpen_13 : decode cX11_mayOpen 13 = .ok (.iload_n 1, 1) := by decide +kernel
theorem dX11_mayOpen_14 : decode cX11_mayOpen 14 = .ok (.iload_n 3, 1) := by decide +kernel
theorem dX11_mayOpen_15 : decode cX11_mayOpen 15 = .ok (.ishr, 1) := by decide +kernel
theorem dX11_mayOpen_16 : decode cX11_mayOpen 16 = .ok (.iconst 1, 1) := by decide +kernel
theorem dX11_mayOpen_17 : decode cX11_mayOpen 17 = .ok (.iand, 1) := by decide +kernel
theorem dX11_mayOpen_18 : decode cX11_mayOpen 18 = .ok (.iconst 1, 1) := by decide +kernel
theorem dX11_mayOpen_19 : decode cX11_mayOpen 19 = .ok (.if_icmp .ne 22, 3) := by decide +kernel
theorem dX11_mayOpen_22 : decode cX11_mayOpen 22 = .ok (.aload_n 0, 1) := by decide +kernel
theorem dX11_mayOpen_23 : decode cX11_mayOpen 23 = .ok (.getfield 13, 3) := by decide +kernel
theorem dX11_mayOpen_26 : decode cX11_mayOpen 26 = .ok (.bipush 8, 2) := by decide +kernel
theorem dX11_mayOpen_28 : decode cX11_mayOpen 28 = .ok (.iload_n 3, 1) := by decide +kernel
theorem dX11_mayOpen_29 : decode cX11_mayOpen 29 = .ok (.imul, 1) := by decide +kernel
theorem dX11_mayOpen_30 : decode cX11_mayOpen 30 = .ok (.iaload, 1) := by decide +kernel
theorem dX11_mayOpen_31 : decode cX11_mayOpen 31 = .ok (.iconst 1, 1) := by decide +kernel
theorem dX11_mayOpen_32 : decode cX11_mayOpen 32 = .ok (.if_icmp .ne 9, 3) := by decide +kernel
theorem dX11_mayOpen_35 : decode cX11_mayOpen 35 = .ok (.iconst 1, 1) := by decide +kernel
theorem dX11_mayOpen_36 : decode cX11_mayOpen 36 = .ok (.iload_n 3, 1) := by decide +kernel
theorem dX11_mayOpen_37 : decode cX11_mayOpen 37 = .ok (.ishl, 1) := by decide +kernel
theorem dX11_mayOpen_38 : decode cX11_mayOpen 38 = .ok (.goto 4, 3) := by decide +kernel
theorem dX11_mayOpen_41 : decode cX11_mayOpen 41 = .ok (.iconst 0, 1) := by decide +kernel
theorem dX11_mayOpen_42 : decode cX11_mayOpen 42 = .ok (.ior, 1) := by decide +kernel
theorem dX11_mayOpen_43 : decode cX11_mayOpen 43 = .ok (.istore_n 2, 1) := by decide +kernel
theorem dX11_mayOpen_44 : decode cX11_mayOpen 44 = .ok (.iinc 3 1, 3) := by decide +kernel
theorem dX11_mayOpen_47 : decode cX11_mayOpen 47 = .ok (.goto (-43), 3) := by decide +kernel
theorem dX11_mayOpen_50 : decode cX11_mayOpen 50 = .ok (.iload_n 2, 1) := by decide +kernel
theorem dX11_mayOpen_51 : decode cX11_mayOpen 51 = .ok (.ifCond .ne 7, 3) := by decide +kernel
theorem dX11_mayOpen_54 : decode cX11_mayOpen 54 = .ok (.iload_n 1, 1) := by decide +kernel
theorem dX11_mayOpen_55 : decode cX11_mayOpen 55 = .ok (.goto 4, 3) := by decide +kernel
theorem dX11_mayOpen_58 : decode cX11_mayOpen 58 = .ok (.iload_n 2, 1) := by decide +kernel
theorem dX11_mayOpen_59 : decode cX11_mayOpen 59 = .ok (.ireturn, 1) := by decide +kernel
set_option maxRecDepth 20000 in
theorem ggX11_open_X11_isHouse : GoodIn wsX11_open wsX11_isHouse := goodIn_r _ [12, 13, 14, 15, 11, 16, 40, 41, 42, 43, 44, 45, 46, 47, 48, 49, 50, 51, 52, 53, 54, 55, 56, 57, 58, 59, 60, 61, 62, 63, 64, 65, 66, 67, 68, 69, 70, 71] (by decide +kernel) (by decide +kernel)
set_option maxRecDepth 20000 in
theorem gX11_open_X11_isHouse : GoodIn wsX11_open (wsV RX11 85 RX11 yX11_isHouse wsX11_isHouse) := goodIn_app (goodIn_of _ (by decide +kernel)) ggX11_open_X11_isHouse
set_option maxRecDepth 20000 in
theorem ggX11_open_X11_shutBits : GoodIn wsX11_open wsX11_shutBits := goodIn_r _ [20, 13, 21, 22, 23, 11, 24, 1, 40, 41, 42, 43, 44, 45, 46, 47, 48, 49, 50, 51, 52, 53, 54, 55, 56, 57, 58, 59, 60, 61, 62, 63, 64, 65, 66, 67, 68, 69, 70, 71] (by decide +kernel) (by decide +kernel)
set_option maxRecDepth 20000 in
theorem gX11_open_X11_shutBits : GoodIn wsX11_open (wsV RX11 115 RX11 yX11_shutBits wsX11_shutBits) := goodIn_app (goodIn_of _ (by decide +kernel)) ggX11_open_X11_shutBits
set_option maxRecDepth 20000 in
theorem ggX11_open_X11_mayOpen : GoodIn wsX11_open wsX11_mayOpen := goodIn_r _ [28, 13, 1, 40, 41, 42, 43, 44, 45, 46, 47, 48, 49, 50, 51, 52, 53, 54, 55, 56, 57, 58, 59, 60, 61, 62, 63, 64, 65, 66, 67, 68, 69, 70, 71] (by decide +kernel) (by decide +kernel)
set_option maxRecDepth 20000 in
theorem gX11_open_X11_mayOpen : GoodIn wsX11_open (wsV RX11 118 RX11 yX11_mayOpen wsX11_mayOpen) := goodIn_app (goodIn_of _ (by decide +kernel)) ggX11_open_X11_mayOpen
set_option maxRecDepth 20000 in
theorem ggX11_open_X11_asItIs : GoodIn wsX11_open wsX11_asItIs := goodIn_r _ [32, 4, 3, 7, 2, 6, 5, 40, 41, 42, 43, 44, 45, 46, 47, 48, 49, 50, 51, 52, 53, 54, 55, 56, 57, 58, 59, 60, 61, 62, 63, 64, 65, 66, 67, 68, 69, 70, 71] (by decide +kernel) (by decide +kernel)
set_option maxRecDepth 20000 in
theorem gX11_open_X11_asItIs : GoodIn wsX11_open (wsV RX11 121 RX11 yX11_asItIs wsX11_asItIs) := goodIn_app (goodIn_of _ (by decide +kernel)) ggX11_open_X11_asItIs
set_option maxRecDepth 20000 in
theorem ggX11_open_X11_opens : GoodIn wsX11_open wsX11_opens := goodIn_r _ [36, 1, 5, 2, 3, 37, 38, 11, 39, 40, 41, 42, 43, 44, 45, 46, 47, 48, 49, 50, 51, 52, 53, 54, 55, 56, 57, 58, 59, 60, 61, 62, 63, 64, 65, 66, 67, 68, 69, 70, 71] (by decide +kernel) (by decide +kernel)
set_option maxRecDepth 20000 in
theorem gX11_open_X11_opens : GoodIn wsX11_open (wsV RX11 124 RX11 yX11_opens wsX11_opens) := goodIn_app (goodIn_of _ (by decide +kernel)) ggX11_open_X11_opens
theorem dX11_open_0 : decode cX11_open 0 = .ok (.aload_n 0, 1) := by decide +kernel
theorem dX11_open_1 : decode cX11_open 1 = .ok (.iload_n 1, 1) := by decide +kernel
theorem dX11_open_2 : decode cX11_open 2 = .ok (.invokevirtual 85, 3) := by decide +kernel
theorem dX11_open_5 : decode cX11_open 5 = .ok (.ifCond .ne 6, 3) := by decide +kernel
theorem dX11_open_8 : decode cX11_open 8 = .ok (.bipush (-101), 2) := by decide +kernel
theorem dX11_open_10 : decode cX11_open 10 = .ok (.ireturn, 1) := by decide +kernel
theorem dX11_open_11 : decode cX11_open 11 = .ok (.aload_n 0, 1) := by decide +kernel
theorem dX11_open_12 : decode cX11_open 12 = .ok (.aload_n 0, 1) := by decide +kernel
theorem dX11_open_13 : decode cX11_open 13 = .ok (.invokevirtual 115, 3) := by decide +kernel
theorem dX11_open_16 : decode cX11_open 16 = .ok (.invokevirtual 118, 3) := by decide +kernel
theorem dX11_open_19 : decode cX11_open 19 = .ok (.iload_n 1, 1) := by decide +kernel
theorem dX11_open_20 : decode cX11_open 20 = .ok (.ishr, 1) := by decide +kernel
theorem dX11_open_21 : decode cX11_open 21 = .ok (.iconst 1, 1) := by decide +kernel
theorem dX11_open_22 : decode cX11_open 22 = .ok (.iand, 1) := by decide +kernel
theorem dX11_open_23 : decode cX11_open 23 = .ok (.ifCond .ne 6, 3) := by decide +kernel
theorem dX11_open_26 : decode cX11_open 26 = .ok (.bipush (-103), 2) := by decide +kernel
theorem dX11_open_28 : decode cX11_open 28 = .ok (.ireturn, 1) := by decide +kernel
theorem dX11_open_29 : decode cX11_open 29 = .ok (.aload_n 0, 1) := by decide +kernel
theorem dX11_open_30 : decode cX11_open 30 = .ok (.invokevirtual 121, 3) := by decide +kernel
theorem dX11_open_33 : decode cX11_open 33 = .ok (.aload_n 0, 1) := by decide +kernel
theorem dX11_open_34 : decode cX11_open 34 = .ok (.getfield 13, 3) := by decide +kernel
theorem dX11_open_37 : decode cX11_open 37 = .ok (.bipush 8, 2) := by decide +kernel
theorem dX11_open_39 : decode cX11_open 39 = .ok (.iload_n 1, 1) := by decide +kernel
