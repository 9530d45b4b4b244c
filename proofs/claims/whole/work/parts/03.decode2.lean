set_option maxRecDepth 20000 in
theorem gX10_pass_X10_hasTown : GoodIn wsX10_pass (wsV RX10 111 RX10 yX10_hasTown wsX10_hasTown) := goodIn_app (goodIn_of _ (by decide +kernel)) ggX10_pass_X10_hasTown
theorem dX10_pass_0 : decode cX10_pass 0 = .ok (.iload_n 1, 1) := by decide +kernel
theorem dX10_pass_1 : decode cX10_pass 1 = .ok (.iconst 1, 1) := by decide +kernel
theorem dX10_pass_2 : decode cX10_pass 2 = .ok (.if_icmp .lt 9, 3) := by decide +kernel
theorem dX10_pass_5 : decode cX10_pass 5 = .ok (.iload_n 1, 1) := by decide +kernel
theorem dX10_pass_6 : decode cX10_pass 6 = .ok (.bipush 30, 2) := by decide +kernel
theorem dX10_pass_8 : decode cX10_pass 8 = .ok (.if_icmp .le 6, 3) := by decide +kernel
theorem dX10_pass_11 : decode cX10_pass 11 = .ok (.bipush (-102), 2) := by decide +kernel
theorem dX10_pass_13 : decode cX10_pass 13 = .ok (.ireturn, 1) := by decide +kernel
theorem dX10_pass_14 : decode cX10_pass 14 = .ok (.aload_n 0, 1) := by decide +kernel
theorem dX10_pass_15 : decode cX10_pass 15 = .ok (.invokevirtual 111, 3) := by decide +kernel
theorem dX10_pass_18 : decode cX10_pass 18 = .ok (.ifCond .eq 21, 3) := by decide +kernel
theorem dX10_pass_21 : decode cX10_pass 21 = .ok (.aload_n 0, 1) := by decide +kernel
theorem dX10_pass_22 : decode cX10_pass 22 = .ok (.getfield 30, 3) := by decide +kernel
theorem dX10_pass_25 : decode cX10_pass 25 = .ok (.getfield 102, 3) := by decide +kernel
theorem dX10_pass_28 : decode cX10_pass 28 = .ok (.getfield 106, 3) := by decide +kernel
theorem dX10_pass_31 : decode cX10_pass 31 = .ok (.iload_n 1, 1) := by decide +kernel
theorem dX10_pass_32 : decode cX10_pass 32 = .ok (.iadd, 1) := by decide +kernel
theorem dX10_pass_33 : decode cX10_pass 33 = .ok (.sipush 999, 3) := by decide +kernel
theorem dX10_pass_36 : decode cX10_pass 36 = .ok (.if_icmp .le 6, 3) := by decide +kernel
theorem dX10_pass_39 : decode cX10_pass 39 = .ok (.bipush (-103), 2) := by decide +kernel
theorem dX10_pass_41 : decode cX10_pass 41 = .ok (.ireturn, 1) := by decide +kernel
theorem dX10_pass_42 : decode cX10_pass 42 = .ok (.aload_n 0, 1) := by decide +kernel
theorem dX10_pass_43 : decode cX10_pass 43 = .ok (.getfield 30, 3) := by decide +kernel
theorem dX10_pass_46 : decode cX10_pass 46 = .ok (.getfield 102, 3) := by decide +kernel
theorem dX10_pass_49 : decode cX10_pass 49 = .ok (.dup, 1) := by decide +kernel
theorem dX10_pass_50 : decode cX10_pass 50 = .ok (.getfield 106, 3) := by decide +kernel
theorem dX10_pass_53 : decode cX10_pass 53 = .ok (.iload_n 1, 1) := by decide +kernel
theorem dX10_pass_54 : decode cX10_pass 54 = .ok (.iadd, 1) := by decide +kernel
theorem dX10_pass_55 : decode cX10_pass 55 = .ok (.putfield 106, 3) := by decide +kernel
theorem dX10_pass_58 : decode cX10_pass 58 = .ok (.aload_n 0, 1) := by decide +kernel
theorem dX10_pass_59 : decode cX10_pass 59 = .ok (.getfield 30, 3) := by decide +kernel
theorem dX10_pass_62 : decode cX10_pass 62 = .ok (.getfield 102, 3) := by decide +kernel
theorem dX10_pass_65 : decode cX10_pass 65 = .ok (.getfield 106, 3) := by decide +kernel
theorem dX10_pass_68 : decode cX10_pass 68 = .ok (.ireturn, 1) := by decide +kernel
set_option maxRecDepth 20000 in
theorem ggX10_open_X8_has : GoodIn wsX10_open wsX8_has := goodIn_r _ [9, 10, 136, 137, 138, 139] (by decide +kernel) (by decide +kernel)
set_option maxRecDepth 20000 in
theorem gX10_open_X8_has : GoodIn wsX10_open (wsV RX10 80 RX8 yX8_has wsX8_has) := goodIn_app (goodIn_of _ (by decide +kernel)) ggX10_open_X8_has
set_option maxRecDepth 20000 in
theorem ggX10_open_X5_mayOpen : GoodIn wsX10_open wsX5_mayOpen := goodIn_r _ [15, 16, 17, 18, 19, 14, 20, 21, 22, 6, 7, 8, 9, 10, 23, 24, 25, 26, 27, 28, 29, 30, 31, 123, 124, 125, 126, 127, 128, 129, 130, 131, 132, 136, 137, 138, 139] (by decide +kernel) (by decide +kernel)
set_option maxRecDepth 20000 in
theorem gX10_open_X5_mayOpen : GoodIn wsX10_open (wsV RX10 121 RX5 yX5_mayOpen wsX5_mayOpen) := goodIn_app (goodIn_of _ (by decide +kernel)) ggX10_open_X5_mayOpen
set_option maxRecDepth 20000 in
theorem ggX10_open_X5_letIn : GoodIn wsX10_open wsX5_letIn := goodIn_r _ [35, 16, 36, 21, 37, 38, 39, 17, 18, 19, 14, 20, 22, 6, 7, 8, 9, 10, 40, 41, 42, 43, 44, 45, 46, 47, 48, 49, 50, 51, 52, 53, 54, 55, 56, 57, 58, 59, 60, 61, 62, 63, 64, 65, 66, 67, 68, 69, 70, 71, 72, 73, 74, 75, 76, 77, 78, 79, 80, 81, 82, 83, 84, 85, 86, 87, 88, 89, 90, 91, 92, 93, 94, 95, 96, 97, 98, 99, 100, 101, 102, 103, 104, 105, 106, 107, 108, 109, 110, 111, 123, 124, 125, 126, 127, 128, 129, 130, 131, 132, 133, 134, 135, 136, 137, 138, 139, 140, 141, 142, 143, 144, 145, 146, 147, 148, 149, 150, 151, 152, 153, 154] (by decide +kernel) (by decide +kernel)
set_option maxRecDepth 20000 in
theorem gX10_open_X5_letIn : GoodIn wsX10_open (wsV RX10 124 RX5 yX5_letIn wsX5_letIn) := goodIn_app (goodIn_of _ (by decide +kernel)) ggX10_open_X5_letIn
theorem dX10_open_0 : decode cX10_open 0 = .ok (.aload_n 0, 1) := by decide +kernel
theorem dX10_open_1 : decode cX10_open 1 = .ok (.getfield 21, 3) := by decide +kernel
theorem dX10_open_4 : decode cX10_open 4 = .ok (.iload_n 1, 1) := by decide +kernel
theorem dX10_open_5 : decode cX10_open 5 = .ok (.invokevirtual 80, 3) := by decide +kernel
theorem dX10_open_8 : decode cX10_open 8 = .ok (.ifCond .ne 6, 3) := by decide +kernel
theorem dX10_open_11 : decode cX10_open 11 = .ok (.bipush (-101), 2) := by decide +kernel
theorem dX10_open_13 : decode cX10_open 13 = .ok (.ireturn, 1) := by decide +kernel
theorem dX10_open_14 : decode cX10_open 14 = .ok (.aload_n 0, 1) := by decide +kernel
theorem dX10_open_15 : decode cX10_open 15 = .ok (.getfield 30, 3) := by decide +kernel
theorem dX10_open_18 : decode cX10_open 18 = .ok (.iload_n 1, 1) := by decide +kernel
theorem dX10_open_19 : decode cX10_open 19 = .ok (.invokevirtual 121, 3) := by decide +kernel
theorem dX10_open_22 : decode cX10_open 22 = .ok (.ifCond .ne 6, 3) := by decide +kernel
theorem dX10_open_25 : decode cX10_open 25 = .ok (.bipush (-103), 2) := by decide +kernel
theorem dX10_open_27 : decode cX10_open 27 = .ok (.ireturn, 1) := by decide +kernel
theorem dX10_open_28 : decode cX10_open 28 = .ok (.aload_n 0, 1) := by decide +kernel
theorem dX10_open_29 : decode cX10_open 29 = .ok (.getfield 30, 3) := by decide +kernel
theorem dX10_open_32 : decode cX10_open 32 = .ok (.iload_n 1, 1) := by decide +kernel
theorem dX10_open_33 : decode cX10_open 33 = .ok (.invokevirtual 124, 3) := by decide +kernel
theorem dX10_open_36 : decode cX10_open 36 = .ok (.aload_n 0, 1) := by decide +kernel
theorem dX10_open_37 : decode cX10_open 37 = .ok (.getfield 30, 3) := by decide +kernel
theorem dX10_open_40 : decode cX10_open 40 = .ok (.getfield 102, 3) := by decide +kernel
theorem dX10_open_43 : decode cX10_open 43 = .ok (.getfield 106, 3) := by decide +kernel
theorem dX10_open_46 : decode cX10_open 46 = .ok (.ireturn, 1) := by decide +kernel
set_option maxRecDepth 20000 in
theorem ggX10_night_X10_hasTown : GoodIn wsX10_night wsX10_hasTown := goodIn_r _ [6, 7, 8, 60, 61, 62, 63, 64, 65, 66, 67, 68, 69, 70, 71, 72, 73, 74] (by decide +kernel) (by decide +kernel)
set_option maxRecDepth 20000 in
theorem gX10_night_X10_hasTown : GoodIn wsX10_night (wsV RX10 111 RX10 yX10_hasTown wsX10_hasTown) := goodIn_app (goodIn_of _ (by decide +kernel)) ggX10_night_X10_hasTown
set_option maxRecDepth 20000 in
theorem ggX10_night_X5_fall : GoodIn wsX10_night wsX5_fall := goodIn_r _ [13, 14, 15, 16, 17, 18, 19, 20, 21, 22, 12, 23, 24, 25, 26, 27, 28, 29, 30, 31, 32, 33, 34, 35, 36, 37, 38, 39, 40, 41, 42, 43, 44, 45, 46, 47, 48, 49, 50, 51, 52, 53, 54, 55, 56, 57, 58, 59, 75, 76, 77, 78, 79, 80, 81, 82, 83, 84, 71, 72, 73, 74, 85, 86, 87, 88, 89, 90, 91, 92, 93, 94, 95, 96, 97, 98, 99, 100, 101, 102] (by decide +kernel) (by decide +kernel)
set_option maxRecDepth 20000 in
theorem gX10_night_X5_fall : GoodIn wsX10_night (wsV RX10 128 RX5 yX5_fall wsX5_fall) := goodIn_app (goodIn_of _ (by decide +kernel)) ggX10_night_X5_fall
theorem dX10_night_0 : decode cX10_night 0 = .ok (.aload_n 0, 1) := by decide +kernel
theorem dX10_night_1 : decode cX10_night 1 = .ok (.invokevirtual 111, 3) := by decide +kernel
theorem dX10_night_4 : decode cX10_night 4 = .ok (.ifCond .eq 13, 3) := by decide +kernel
theorem dX10_night_7 : decode cX10_night 7 = .ok (.aload_n 0, 1) := by decide +kernel
theorem dX10_night_8 : decode cX10_night 8 = .ok (.getfield 30, 3) := by decide +kernel
theorem dX10_night_11 : decode cX10_night 11 = .ok (.invokevirtual 128, 3) := by decide +kernel
theorem dX10_night_14 : decode cX10_night 14 = .ok (.goto 5, 3) := by decide +kernel
theorem dX10_night_17 : decode cX10_night 17 = .ok (.bipush (-103), 2) := by decide +kernel
theorem dX10_night_19 : decode cX10_night 19 = .ok (.ireturn, 1) := by decide +kernel
set_option maxRecDepth 20000 in
theorem ggX10_next_X10_isLaw : GoodIn wsX10_next wsX10_isLaw := goodIn_r _ [5] (by decide +kernel) (by decide +kernel)
set_option maxRecDepth 20000 in
theorem gX10_next_X10_isLaw : GoodIn wsX10_next (va_wsS RX10 131 yX10_isLaw wsX10_isLaw) := goodIn_app (goodIn_of _ (by decide +kernel)) ggX10_next_X10_isLaw
set_option maxRecDepth 20000 in
theorem ggX10_next_X10_hasTown : GoodIn wsX10_next wsX10_hasTown := goodIn_r _ [9, 10, 11, 49, 50, 51, 52, 53, 54, 55, 56, 57, 58, 59, 60, 61, 62, 63] (by decide +kernel) (by decide +kernel)
set_option maxRecDepth 20000 in
theorem gX10_next_X10_hasTown : GoodIn wsX10_next (wsV RX10 111 RX10 yX10_hasTown wsX10_hasTown) := goodIn_app (goodIn_of _ (by decide +kernel)) ggX10_next_X10_hasTown
set_option maxRecDepth 20000 in
theorem ggX10_next_X5_nextBy : GoodIn wsX10_next wsX5_nextBy := goodIn_r _ [16, 17, 18, 19, 20, 21, 22, 15, 23, 24, 25, 26, 27, 28, 29, 30, 31, 32, 33, 34, 35, 36, 37, 38, 39, 40, 41, 42, 43, 44, 45, 46, 47, 48, 64, 65, 66, 67, 68, 69, 70, 71, 72, 73, 60, 61, 62, 63, 74, 75, 76, 77, 78, 79, 80, 81, 82, 83, 84, 85, 86, 87, 88, 89, 90, 91] (by decide +kernel) (by decide +kernel)
set_option maxRecDepth 20000 in
theorem gX10_next_X5_nextBy : GoodIn wsX10_next (wsV RX10 134 RX5 yX5_nextBy wsX5_nextBy) := goodIn_app (goodIn_of _ (by decide +kernel)) ggX10_next_X5_nextBy
theorem dX10_next_0 : decode cX10_next 0 = .ok (.iload_n 1, 1) := by decide +kernel
theorem dX10_next_1 : decode cX10_next 1 = .ok (.invokestatic 131, 3) := by decide +kernel
theorem dX10_next_4 : decode cX10_next 4 = .ok (.ifCond .ne 6, 3) := by decide +kernel
theorem dX10_next_7 : decode cX10_next 7 = .ok (.bipush (-102), 2) := by decide +kernel
theorem dX10_next_9 : decode cX10_next 9 = .ok (.ireturn, 1) := by decide +kernel
theorem dX10_next_10 : decode cX10_next 10 = .ok (.aload_n 0, 1) := by decide +kernel
theorem dX10_next_11 : decode cX10_next 11 = .ok (.invokevirtual 111, 3) := by decide +kernel
theorem dX10_next_14 : decode cX10_next 14 = .ok (.ifCond .eq 14, 3) := by decide +kernel
theorem dX10_next_17 : decode cX10_next 17 = .ok (.aload_n 0, 1) := by decide +kernel
theorem dX10_next_18 : decode cX10_next 18 = .ok (.getfield 30, 3) := by decide +kernel
theorem dX10_next_21 : decode cX10_next 21 = .ok (.iload_n 1, 1) := by decide +kernel
theorem dX10_next_22 : decode cX10_next 22 = .ok (.invokevirtual 134, 3) := by decide +kernel
theorem dX10_next_25 : decode cX10_next 25 = .ok (.goto 5, 3) := by decide +kernel
theorem dX10_next_28 : decode cX10_next 28 = .ok (.bipush (-103), 2) := by decide +kernel
theorem dX10_next_30 : decode cX10_next 30 = .ok (.ireturn, 1) := by decide +kernel
set_option maxRecDepth 20000 in
theorem ggX10_by_X10_isLaw : GoodIn wsX10_by wsX10_isLaw := goodIn_r _ [4] (by decide +kernel) (by decide +kernel)
set_option maxRecDepth 20000 in
theorem gX10_by_X10_isLaw : GoodIn wsX10_by (va_wsS RX10 131 yX10_isLaw wsX10_isLaw) := goodIn_app (goodIn_of _ (by decide +kernel)) ggX10_by_X10_isLaw
set_option maxRecDepth 20000 in
theorem ggX10_by_X10_hasTown : GoodIn wsX10_by wsX10_hasTown := goodIn_r _ [8, 9, 10, 161, 162, 163, 164, 165, 166, 167, 168, 169, 170, 171, 172, 173, 174, 175] (by decide +kernel) (by decide +kernel)
set_option maxRecDepth 20000 in
theorem gX10_by_X10_hasTown : GoodIn wsX10_by (wsV RX10 111 RX10 yX10_hasTown wsX10_hasTown) := goodIn_app (goodIn_of _ (by decide +kernel)) ggX10_by_X10_hasTown
set_option maxRecDepth 20000 in
theorem ggX10_by_X10_goBy : GoodIn wsX10_by wsX10_goBy := goodIn_r _ [14, 15, 16, 17, 18, 19, 20, 21, 22, 23, 24, 25, 26, 27, 28, 29, 30, 31, 32, 33, 34, 35, 36, 37, 38, 39, 40, 41, 42, 43, 44, 45, 46, 47, 48, 49, 50, 51, 52, 53, 54, 55, 56, 57, 58, 59, 60, 61, 62, 63, 64, 65, 66, 67, 68, 69, 70, 71, 72, 73, 74, 75, 76, 77, 78, 79, 80, 81, 82, 83, 84, 85, 86, 87, 88, 89, 90, 91, 92, 93, 94, 95, 96, 97, 98, 99, 100, 101, 102, 103, 104, 105, 106, 107, 108, 109, 110, 111, 112, 113, 114, 115, 116, 117, 118, 119, 120, 121, 122, 123, 124, 125, 126, 127, 128, 129, 130, 131, 132, 133, 134, 135, 136, 137, 138, 139, 140, 141, 142, 143, 144, 145, 146, 147, 148, 149, 161, 162, 163, 164, 165, 166, 167, 168, 169, 170, 171, 176, 177, 178, 179, 180, 181, 182, 183, 184, 185, 186, 187, 188, 172, 173, 174, 175, 189, 190, 191, 192, 193, 194, 195, 196, 197, 198, 199, 200, 201, 202, 203] (by decide +kernel) (by decide +kernel)
set_option maxRecDepth 20000 in
theorem gX10_by_X10_goBy : GoodIn wsX10_by (wsV RX10 138 RX10 yX10_goBy wsX10_goBy) := goodIn_app (goodIn_of _ (by decide +kernel)) ggX10_by_X10_goBy
set_option maxRecDepth 20000 in
theorem ggX10_by_X10_toldByLaw : GoodIn wsX10_by wsX10_toldByLaw := goodIn_r _ [153, 15, 16, 154, 155, 156, 157, 158, 159, 20, 160, 24, 161, 162, 163, 164, 165, 166, 167, 168, 169, 170, 171, 176, 177, 178, 179, 180, 181, 182, 183, 184, 185, 186, 187, 188] (by decide +kernel) (by decide +kernel)
set_option maxRecDepth 20000 in
theorem gX10_by_X10_toldByLaw : GoodIn wsX10_by (wsV RX10 141 RX10 yX10_toldByLaw wsX10_toldByLaw) := goodIn_app (goodIn_of _ (by decide +kernel)) ggX10_by_X10_toldByLaw
theorem dX10_by_0 : decode cX10_by 0 = .ok (.iload_n 1, 1) := by decide +kernel
theorem dX10_by_1 : decode cX10_by 1 = .ok (.invokestatic 131, 3) := by decide +kernel
theorem dX10_by_4 : decode cX10_by 4 = .ok (.ifCond .eq 12, 3) := by decide +kernel
theorem dX10_by_7 : decode cX10_by 7 = .ok (.iload_n 2, 1) := by decide +kernel
theorem dX10_by_8 : decode cX10_by 8 = .ok (.ifCond .lt 8, 3) := by decide +kernel
theorem dX10_by_11 : decode cX10_by 11 = .ok (.iload_n 2, 1) := by decide +kernel
theorem dX10_by_12 : decode cX10_by 12 = .ok (.iconst 2, 1) := by decide +kernel
theorem dX10_by_13 : decode cX10_by 13 = .ok (.if_icmp .le 6, 3) := by decide +kernel
theorem dX10_by_16 : decode cX10_by 16 = .ok (.bipush (-102), 2) := by decide +kernel
theorem dX10_by_18 : decode cX10_by 18 = .ok (.ireturn, 1) := by decide +kernel
theorem dX10_by_19 : decode cX10_by 19 = .ok (.aload_n 0, 1) := by decide +kernel
theorem dX10_by_20 : decode cX10_by 20 = .ok (.invokevirtual 111, 3) := by decide +kernel
theorem dX10_by_23 : decode cX10_by 23 = .ok (.ifCond .ne 6, 3) := by decide +kernel
theorem dX10_by_26 : decode cX10_by 26 = .ok (.bipush (-103), 2) := by decide +kernel
theorem dX10_by_28 : decode cX10_by 28 = .ok (.ireturn, 1) := by decide +kernel
theorem dX10_by_29 : decode cX10_by 29 = .ok (.aload_n 0, 1) := by decide +kernel
theorem dX10_by_30 : decode cX10_by 30 = .ok (.iload_n 1, 1) := by decide +kernel
theorem dX10_by_31 : decode cX10_by 31 = .ok (.invokevirtual 138, 3) := by decide +kernel
theorem dX10_by_34 : decode cX10_by 34 = .ok (.aload_n 0, 1) := by decide +kernel
theorem dX10_by_35 : decode cX10_by 35 = .ok (.iload_n 2, 1) := by decide +kernel
theorem dX10_by_36 : decode cX10_by 36 = .ok (.invokevirtual 141, 3) := by decide +kernel
theorem dX10_by_39 : decode cX10_by 39 = .ok (.ireturn, 1) := by decide +kernel
set_option maxRecDepth 20000 in
theorem ggX10_best_X10_hasTown : GoodIn wsX10_best wsX10_hasTown := goodIn_r _ [9, 10, 11, 150, 151, 152, 153, 154, 155, 156, 157, 158, 159, 160, 174, 175, 176, 177] (by decide +kernel) (by decide +kernel)
set_option maxRecDepth 20000 in
theorem gX10_best_X10_hasTown : GoodIn wsX10_best (wsV RX10 111 RX10 yX10_hasTown wsX10_hasTown) := goodIn_app (goodIn_of _ (by decide +kernel)) ggX10_best_X10_hasTown
set_option maxRecDepth 20000 in
theorem ggX10_best_X7_seekBest : GoodIn wsX10_best wsX7_seekBest := goodIn_r _ [16, 17, 18, 19, 20, 21, 22, 23, 24, 25, 26, 27, 28, 15, 29, 30, 31, 32, 33, 34, 35, 36, 37, 38, 39, 40, 41, 42, 43, 44, 45, 46, 47, 48, 49, 50, 51, 52, 53, 54, 55, 56, 57, 58, 59, 60, 61, 62, 63, 64, 65, 66, 67, 68, 69, 70, 71, 72, 73, 74, 75, 76, 77, 78, 79, 80, 81, 82, 83, 84, 85, 86, 87, 88, 89, 90, 91, 92, 93, 94, 95, 96, 97, 98, 99, 100, 101, 102, 103, 104, 105, 106, 107, 108, 109, 110, 111, 112, 113, 114, 115, 116, 117, 118, 119, 120, 121, 122, 123, 124, 125, 126, 127, 128, 129, 130, 131, 132, 133, 134, 135, 136, 137, 138, 139, 178, 179, 180, 181, 182, 183, 184, 185, 186, 161, 162, 163, 164, 165, 166, 167, 168, 169, 170, 171, 172, 173, 174, 175, 176, 177, 187, 188, 189, 190, 191, 192, 193, 194, 195, 196, 197, 198, 199, 200, 201] (by decide +kernel) (by decide +kernel)
set_option maxRecDepth 20000 in
theorem gX10_best_X7_seekBest : GoodIn wsX10_best (wsV RX10 144 RX7 yX7_seekBest wsX7_seekBest) := goodIn_app (goodIn_of _ (by decide +kernel)) ggX10_best_X7_seekBest
set_option maxRecDepth 20000 in
theorem ggX10_best_X10_toldOfBest : GoodIn wsX10_best wsX10_toldOfBest := goodIn_r _ [143, 1, 144, 145, 146, 147, 148, 15, 149, 33, 59, 150, 151, 152, 153, 154, 155, 156, 157, 158, 159, 160, 178, 179, 180, 181, 182, 183, 184, 185, 186] (by decide +kernel) (by decide +kernel)
set_option maxRecDepth 20000 in
theorem gX10_best_X10_toldOfBest : GoodIn wsX10_best (wsV RX10 148 RX10 yX10_toldOfBest wsX10_toldOfBest) := goodIn_app (goodIn_of _ (by decide +kernel)) ggX10_best_X10_toldOfBest
theorem dX10_best_0 : decode cX10_best 0 = .ok (.iload_n 1, 1) := by decide +kernel
theorem dX10_best_1 : decode cX10_best 1 = .ok (.bipush 10, 2) := by decide +kernel
theorem dX10_best_3 : decode cX10_best 3 = .ok (.if_icmp .lt 13, 3) := by decide +kernel
theorem dX10_best_6 : decode cX10_best 6 = .ok (.iload_n 1, 1) := by decide +kernel
theorem dX10_best_7 : decode cX10_best 7 = .ok (.bipush 16, 2) := by decide +kernel
theorem dX10_best_9 : decode cX10_best 9 = .ok (.if_icmp .ge 7, 3) := by decide +kernel
theorem dX10_best_12 : decode cX10_best 12 = .ok (.iconst 1, 1) := by decide +kernel
theorem dX10_best_13 : decode cX10_best 13 = .ok (.goto 4, 3) := by decide +kernel
theorem dX10_best_16 : decode cX10_best 16 = .ok (.iconst 0, 1) := by decide +kernel
theorem dX10_best_17 : decode cX10_best 17 = .ok (.istore_n 2, 1) := by decide +kernel
theorem dX10_best_18 : decode cX10_best 18 = .ok (.iload_n 1, 1) := by decide +kernel
theorem dX10_best_19 : decode cX10_best 19 = .ok (.ifCond .eq 15, 3) := by decide +kernel
theorem dX10_best_22 : decode cX10_best 22 = .ok (.iload_n 1, 1) := by decide +kernel
theorem dX10_best_23 : decode cX10_best 23 = .ok (.iconst 1, 1) := by decide +kernel
theorem dX10_best_24 : decode cX10_best 24 = .ok (.if_icmp .eq 10, 3) := by decide +kernel
theorem dX10_best_27 : decode cX10_best 27 = .ok (.iload_n 2, 1) := by decide +kernel
theorem dX10_best_28 : decode cX10_best 28 = .ok (.ifCond .ne 6, 3) := by decide +kernel
theorem dX10_best_31 : decode cX10_best 31 = .ok (.bipush (-102), 2) := by decide +kernel
theorem dX10_best_33 : decode cX10_best 33 = .ok (.ireturn, 1) := by decide +kernel
theorem dX10_best_34 : decode cX10_best 34 = .ok (.aload_n 0, 1) := by decide +kernel
theorem dX10_best_35 : decode cX10_best 35 = .ok (.invokevirtual 111, 3) := by decide +kernel
theorem dX10_best_38 : decode cX10_best 38 = .ok (.ifCond .ne 6, 3) := by decide +kernel
theorem dX10_best_41 : decode cX10_best 41 = .ok (.bipush (-103), 2) := by decide +kernel
theorem dX10_best_43 : decode cX10_best 43 = .ok (.ireturn, 1) := by decide +kernel
theorem dX10_best_44 : decode cX10_best 44 = .ok (.aload_n 0, 1) := by decide +kernel
theorem dX10_best_45 : decode cX10_best 45 = .ok (.getfield 43, 3) := by decide +kernel
theorem dX10_best_48 : decode cX10_best 48 = .ok (.aload_n 0, 1) := by decide +kernel
theorem dX10_best_49 : decode cX10_best 49 = .ok (.getfield 30, 3) := by decide +kernel
theorem dX10_best_52 : decode cX10_best 52 = .ok (.aload_n 0, 1) := by decide +kernel
theorem dX10_best_53 : decode cX10_best 53 = .ok (.getfield 30, 3) := by decide +kernel
theorem dX10_best_56 : decode cX10_best 56 = .ok (.getfield 102, 3) := by decide +kernel
theorem dX10_best_59 : decode cX10_best 59 = .ok (.getfield 114, 3) := by decide +kernel
theorem dX10_best_62 : decode cX10_best 62 = .ok (.invokevirtual 144, 3) := by decide +kernel
theorem dX10_best_65 : decode cX10_best 65 = .ok (.aload_n 0, 1) := by decide +kernel
theorem dX10_best_66 : decode cX10_best 66 = .ok (.iload_n 1, 1) := by decide +kernel
theorem dX10_best_67 : decode cX10_best 67 = .ok (.invokevirtual 148, 3) := by decide +kernel
theorem dX10_best_70 : decode cX10_best 70 = .ok (.ireturn, 1) := by decide +kernel
set_option maxRecDepth 20000 in
theorem ggX10_shortest_X10_hasTown : GoodIn wsX10_shortest wsX10_hasTown := goodIn_r _ [7, 8, 9, 139, 140, 141, 142, 143, 144, 145, 146, 147, 148, 149, 150, 151, 152, 153] (by decide +kernel) (by decide +kernel)
set_option maxRecDepth 20000 in
theorem gX10_shortest_X10_hasTown : GoodIn wsX10_shortest (wsV RX10 111 RX10 yX10_hasTown wsX10_hasTown) := goodIn_app (goodIn_of _ (by decide +kernel)) ggX10_shortest_X10_hasTown
set_option maxRecDepth 20000 in
theorem ggX10_shortest_X7_seekShortest : GoodIn wsX10_shortest wsX7_seekShortest := goodIn_r _ [14, 15, 16, 17, 18, 19, 20, 21, 22, 23, 24, 25, 26, 27, 28, 13, 29, 30, 31, 32, 33, 34, 35, 36, 37, 38, 39, 40, 41, 42, 43, 44, 45, 46, 47, 48, 49, 50, 51, 52, 53, 54, 55, 56, 57, 58, 59, 60, 61, 62, 63, 64, 65, 66, 67, 68, 69, 70, 71, 72, 73, 74, 75, 76, 77, 78, 79, 80, 81, 82, 83, 84, 85, 86, 87, 88, 89, 90, 91, 92, 93, 94, 95, 96, 97, 98, 99, 100, 101, 102, 103, 104, 105, 106, 107, 108, 109, 110, 111, 112, 113, 114, 115, 116, 117, 118, 119, 120, 121, 122, 123, 124, 125, 126, 127, 128, 129, 130, 131, 132, 133, 134, 135, 136, 137, 138, 154, 155, 156, 157, 158, 159, 160, 161, 162, 163, 164, 165, 166, 167, 168, 169, 170, 171, 172, 173, 174, 175, 150, 151, 152, 153, 176, 177, 178, 179, 180, 181, 182, 183, 184, 185, 186, 187, 188, 189, 190] (by decide +kernel) (by decide +kernel)
set_option maxRecDepth 20000 in
theorem gX10_shortest_X7_seekShortest : GoodIn wsX10_shortest (wsV RX10 151 RX7 yX7_seekShortest wsX7_seekShortest) := goodIn_app (goodIn_of _ (by decide +kernel)) ggX10_shortest_X7_seekShortest
theorem dX10_shortest_0 : decode cX10_shortest 0 = .ok (.aload_n 0, 1) := by decide +kernel
theorem dX10_shortest_1 : decode cX10_shortest 1 = .ok (.invokevirtual 111, 3) := by decide +kernel
theorem dX10_shortest_4 : decode cX10_shortest 4 = .ok (.ifCond .eq 17, 3) := by decide +kernel
theorem dX10_shortest_7 : decode cX10_shortest 7 = .ok (.aload_n 0, 1) := by decide +kernel
theorem dX10_shortest_8 : decode cX10_shortest 8 = .ok (.getfield 43, 3) := by decide +kernel
theorem dX10_shortest_11 : decode cX10_shortest 11 = .ok (.aload_n 0, 1) := by decide +kernel
theorem dX10_shortest_12 : decode cX10_shortest 12 = .ok (.getfield 30, 3) := by decide +kernel
theorem dX10_shortest_15 : decode cX10_shortest 15 = .ok (.invokevirtual 151, 3) := by decide +kernel
theorem dX10_shortest_18 : decode cX10_shortest 18 = .ok (.goto 5, 3) := by decide +kernel
theorem dX10_shortest_21 : decode cX10_shortest 21 = .ok (.bipush (-103), 2) := by decide +kernel
theorem dX10_shortest_23 : decode cX10_shortest 23 = .ok (.ireturn, 1) := by decide +kernel
set_option maxRecDepth 20000 in
theorem ggX10_hang_X10_hasTown : GoodIn wsX10_hang wsX10_hasTown := goodIn_r _ [10, 11, 12, 141, 142, 143, 144, 145, 146, 147, 148, 149, 150, 151, 161, 162, 163, 164] (by decide +kernel) (by decide +kernel)
set_option maxRecDepth 20000 in
theorem gX10_hang_X10_hasTown : GoodIn wsX10_hang (wsV RX10 111 RX10 yX10_hasTown wsX10_hasTown) := goodIn_app (goodIn_of _ (by decide +kernel)) ggX10_hang_X10_hasTown
set_option maxRecDepth 20000 in
theorem ggX10_hang_X7_seekBest : GoodIn wsX10_hang wsX7_seekBest := goodIn_r _ [17, 18, 19, 20, 21, 22, 23, 24, 25, 26, 27, 28, 29, 16, 30, 31, 32, 33, 34, 35, 36, 37, 38, 39, 40, 41, 42, 43, 44, 45, 46, 47, 48, 49, 50, 51, 52, 53, 54, 55, 56, 57, 58, 59, 60, 61, 62, 63, 64, 65, 66, 67, 68, 69, 70, 71, 72, 73, 74, 75, 76, 77, 78, 79, 80, 81, 82, 83, 84, 85, 86, 87, 88, 89, 90, 91, 92, 93, 94, 95, 96, 97, 98, 99, 100, 101, 102, 103, 104, 105, 106, 107, 108, 109, 110, 111, 112, 113, 114, 115, 116, 117, 118, 119, 120, 121, 122, 123, 124, 125, 126, 127, 128, 129, 130, 131, 132, 133, 134, 135, 136, 137, 138, 139, 140, 152, 153, 154, 155, 156, 157, 158, 159, 160, 165, 166, 167, 168, 169, 170, 171, 172, 173, 174, 175, 176, 177, 161, 162, 163, 164, 178, 179, 180, 181, 182, 183, 184, 185, 186, 187, 188, 189, 190, 191, 192] (by decide +kernel) (by decide +kernel)
set_option maxRecDepth 20000 in
theorem gX10_hang_X7_seekBest : GoodIn wsX10_hang (wsV RX10 144 RX7 yX7_seekBest wsX7_seekBest) := goodIn_app (goodIn_of _ (by decide +kernel)) ggX10_hang_X7_seekBest
theorem dX10_hang_0 : decode cX10_hang 0 = .ok (.aload_n 0, 1) := by decide +kernel
theorem dX10_hang_1 : decode cX10_hang 1 = .ok (.invokevirtual 111, 3) := by decide +kernel
theorem dX10_hang_4 : decode cX10_hang 4 = .ok (.ifCond .eq 12, 3) := by decide +kernel
theorem dX10_hang_7 : decode cX10_hang 7 = .ok (.aload_n 0, 1) := by decide +kernel
theorem dX10_hang_8 : decode cX10_hang 8 = .ok (.getfield 155, 3) := by decide +kernel
theorem dX10_hang_11 : decode cX10_hang 11 = .ok (.bipush 30, 2) := by decide +kernel
theorem dX10_hang_13 : decode cX10_hang 13 = .ok (.if_icmp .lt 6, 3) := by decide +kernel
theorem dX10_hang_16 : decode cX10_hang 16 = .ok (.bipush (-103), 2) := by decide +kernel
theorem dX10_hang_18 : decode cX10_hang 18 = .ok (.ireturn, 1) := by decide +kernel
theorem dX10_hang_19 : decode cX10_hang 19 = .ok (.aload_n 0, 1) := by decide +kernel
theorem dX10_hang_20 : decode cX10_hang 20 = .ok (.dup, 1) := by decide +kernel
theorem dX10_hang_21 : decode cX10_hang 21 = .ok (.getfield 155, 3) := by decide +kernel
theorem dX10_hang_24 : decode cX10_hang 24 = .ok (.iconst 1, 1) := by decide +kernel
theorem dX10_hang_25 : decode cX10_hang 25 = .ok (.iadd, 1) := by decide +kernel
theorem dX10_hang_26 : decode cX10_hang 26 = .ok (.putfield 155, 3) := by decide +kernel
theorem dX10_hang_29 : decode cX10_hang 29 = .ok (.ldc 158, 2) := by decide +kernel
theorem dX10_hang_31 : decode cX10_hang 31 = .ok (.istore_n 1, 1) := by decide +kernel
theorem dX10_hang_32 : decode cX10_hang 32 = .ok (.iconst 0, 1) := by decide +kernel
theorem dX10_hang_33 : decode cX10_hang 33 = .ok (.istore_n 2, 1) := by decide +kernel
theorem dX10_hang_34 : decode cX10_hang 34 = .ok (.iconst 0, 1) := by decide +kernel
theorem dX10_hang_35 : decode cX10_hang 35 = .ok (.istore_n 3, 1) := by decide +kernel
theorem dX10_hang_36 : decode cX10_hang 36 = .ok (.iload_n 3, 1) := by decide +kernel
theorem dX10_hang_37 : decode cX10_hang 37 = .ok (.bipush 10, 2) := by decide +kernel
theorem dX10_hang_39 : decode cX10_hang 39 = .ok (.if_icmp .ge 42, 3) := by decide +kernel
theorem dX10_hang_42 : decode cX10_hang 42 = .ok (.aload_n 0, 1) := by decide +kernel
theorem dX10_hang_43 : decode cX10_hang 43 = .ok (.getfield 43, 3) := by decide +kernel
theorem dX10_hang_46 : decode cX10_hang 46 = .ok (.aload_n 0, 1) := by decide +kernel
theorem dX10_hang_47 : decode cX10_hang 47 = .ok (.getfield 30, 3) := by decide +kernel
theorem dX10_hang_50 : decode cX10_hang 50 = .ok (.iload_n 3, 1) := by decide +kernel
theorem dX10_hang_51 : decode cX10_hang 51 = .ok (.invokevirtual 144, 3) := by decide +kernel
theorem dX10_hang_54 : decode cX10_hang 54 = .ok (.aload_n 0, 1) := by decide +kernel
theorem dX10_hang_55 : decode cX10_hang 55 = .ok (.getfield 43, 3) := by decide +kernel
theorem dX10_hang_58 : decode cX10_hang 58 = .ok (.getfield 159, 3) := by decide +kernel
theorem dX10_hang_61 : decode cX10_hang 61 = .ok (.iload_n 1, 1) := by decide +kernel
theorem dX10_hang_62 : decode cX10_hang 62 = .ok (.if_icmp .ge 13, 3) := by decide +kernel
theorem dX10_hang_65 : decode cX10_hang 65 = .ok (.aload_n 0, 1) := by decide +kernel
theorem dX10_hang_66 : decode cX10_hang 66 = .ok (.getfield 43, 3) := by decide +kernel
theorem dX10_hang_69 : decode cX10_hang 69 = .ok (.getfield 159, 3) := by decide +kernel
theorem dX10_hang_72 : decode cX10_hang 72 = .ok (.istore_n 1, 1) := by decide +kernel
theorem dX10_hang_73 : decode cX10_hang 73 = .ok (.iload_n 3, 1) := by decide +kernel
theorem dX10_hang_74 : decode cX10_hang 74 = .ok (.istore_n 2, 1) := by decide +kernel
theorem dX10_hang_75 : decode cX10_hang 75 = .ok (.iinc 3 1, 3) := by decide +kernel
theorem dX10_hang_78 : decode cX10_hang 78 = .ok (.goto (-42), 3) := by decide +kernel
theorem dX10_hang_81 : decode cX10_hang 81 = .ok (.iload_n 2, 1) := by decide +kernel
theorem dX10_hang_82 : decode cX10_hang 82 = .ok (.ireturn, 1) := by decide +kernel
set_option maxRecDepth 20000 in
theorem ggX10_twoKeys_X10_hasTown : GoodIn wsX10_twoKeys wsX10_hasTown := goodIn_r _ [7, 8, 9, 143, 144, 145, 146, 147, 148, 149, 150, 151, 152, 153, 154, 155, 156, 157] (by decide +kernel) (by decide +kernel)
set_option maxRecDepth 20000 in
theorem gX10_twoKeys_X10_hasTown : GoodIn wsX10_twoKeys (wsV RX10 111 RX10 yX10_hasTown wsX10_hasTown) := goodIn_app (goodIn_of _ (by decide +kernel)) ggX10_twoKeys_X10_hasTown
set_option maxRecDepth 20000 in
theorem ggX10_twoKeys_X7_seekWithTwoKeys : GoodIn wsX10_twoKeys wsX7_seekWithTwoKeys := goodIn_r _ [14, 15, 16, 17, 18, 19, 20, 21, 22, 23, 24, 25, 26, 27, 28, 29, 30, 31, 32, 33, 34, 35, 36, 13, 37, 38, 39, 40, 41, 42, 43, 44, 45, 46, 47, 48, 49, 50, 51, 52, 53, 54, 55, 56, 57, 58, 59, 60, 61, 62, 63, 64, 65, 66, 67, 68, 69, 70, 71, 72, 73, 74, 75, 76, 77, 78, 79, 80, 81, 82, 83, 84, 85, 86, 87, 88, 89, 90, 91, 92, 93, 94, 95, 96, 97, 98, 99, 100, 101, 102, 103, 104, 105, 106, 107, 108, 109, 110, 111, 112, 113, 114, 115, 116, 117, 118, 119, 120, 121, 122, 123, 124, 125, 126, 127, 128, 129, 130, 131, 132, 133, 134, 135, 136, 137, 138, 139, 140, 141, 142, 158, 159, 160, 161, 162, 163, 164, 165, 166, 167, 168, 169, 170, 171, 172, 173, 174, 175, 176, 177, 178, 179, 154, 155, 156, 157, 180, 181, 182, 183, 184, 185, 186, 187, 188, 189, 190, 191, 192, 193, 194] (by decide +kernel) (by decide +kernel)
set_option maxRecDepth 20000 in
theorem gX10_twoKeys_X7_seekWithTwoKeys : GoodIn wsX10_twoKeys (wsV RX10 162 RX7 yX7_seekWithTwoKeys wsX7_seekWithTwoKeys) := goodIn_app (goodIn_of _ (by decide +kernel)) ggX10_twoKeys_X7_seekWithTwoKeys
theorem dX10_twoKeys_0 : decode cX10_twoKeys 0 = .ok (.aload_n 0, 1) := by decide +kernel
theorem dX10_twoKeys_1 : decode cX10_twoKeys 1 = .ok (.invokevirtual 111, 3) := by decide +kernel
theorem dX10_twoKeys_4 : decode cX10_twoKeys 4 = .ok (.ifCond .eq 17, 3) := by decide +kernel
theorem dX10_twoKeys_7 : decode cX10_twoKeys 7 = .ok (.aload_n 0, 1) := by decide +kernel
theorem dX10_twoKeys_8 : decode cX10_twoKeys 8 = .ok (.getfield 43, 3) := by decide +kernel
theorem dX10_twoKeys_11 : decode cX10_twoKeys 11 = .ok (.aload_n 0, 1) := by decide +kernel
theorem dX10_twoKeys_12 : decode cX10_twoKeys 12 = .ok (.getfield 30, 3) := by decide +kernel
theorem dX10_twoKeys_15 : decode cX10_twoKeys 15 = .ok (.invokevirtual 162, 3) := by decide +kernel
theorem dX10_twoKeys_18 : decode cX10_twoKeys 18 = .ok (.goto 5, 3) := by decide +kernel
theorem dX10_twoKeys_21 : decode cX10_twoKeys 21 = .ok (.bipush (-103), 2) := by decide +kernel
theorem dX10_twoKeys_23 : decode cX10_twoKeys 23 = .ok (.ireturn, 1) := by decide +kernel
set_option maxRecDepth 20000 in
theorem ggX10_see_X8_has : GoodIn wsX10_see wsX8_has := goodIn_r _ [8, 9, 40, 41, 42, 43] (by decide +kernel) (by decide +kernel)
set_option maxRecDepth 20000 in
theorem gX10_see_X8_has : GoodIn wsX10_see (wsV RX10 80 RX8 yX8_has wsX8_has) := goodIn_app (goodIn_of _ (by decide +kernel)) ggX10_see_X8_has
set_option maxRecDepth 20000 in
theorem ggX10_see_X5_note : GoodIn wsX10_see wsX5_note := goodIn_r _ [14, 15, 16, 17, 18, 30, 31, 32, 33, 34, 35, 36, 37, 38, 39] (by decide +kernel) (by decide +kernel)
set_option maxRecDepth 20000 in
theorem gX10_see_X5_note : GoodIn wsX10_see (wsV RX10 165 RX5 yX5_note wsX5_note) := goodIn_app (goodIn_of _ (by decide +kernel)) ggX10_see_X5_note
theorem dX10_see_0 : decode cX10_see 0 = .ok (.aload_n 0, 1) := by decide +kernel
theorem dX10_see_1 : decode cX10_see 1 = .ok (.getfield 21, 3) := by decide +kernel
theorem dX10_see_4 : decode cX10_see 4 = .ok (.iload_n 1, 1) := by decide +kernel
theorem dX10_see_5 : decode cX10_see 5 = .ok (.invokevirtual 80, 3) := by decide +kernel
theorem dX10_see_8 : decode cX10_see 8 = .ok (.ifCond .ne 6, 3) := by decide +kernel
theorem dX10_see_11 : decode cX10_see 11 = .ok (.bipush (-101), 2) := by decide +kernel
theorem dX10_see_13 : decode cX10_see 13 = .ok (.ireturn, 1) := by decide +kernel
theorem dX10_see_14 : decode cX10_see 14 = .ok (.iload_n 2, 1) := by decide +kernel
theorem dX10_see_15 : decode cX10_see 15 = .ok (.ifCond .lt 10, 3) := by decide +kernel
theorem dX10_see_18 : decode cX10_see 18 = .ok (.iload_n 2, 1) := by decide +kernel
theorem dX10_see_19 : decode cX10_see 19 = .ok (.sipush 999, 3) := by decide +kernel
theorem dX10_see_22 : decode cX10_see 22 = .ok (.if_icmp .le 6, 3) := by decide +kernel
theorem dX10_see_25 : decode cX10_see 25 = .ok (.bipush (-102), 2) := by decide +kernel
theorem dX10_see_27 : decode cX10_see 27 = .ok (.ireturn, 1) := by decide +kernel
theorem dX10_see_28 : decode cX10_see 28 = .ok (.aload_n 0, 1) := by decide +kernel
theorem dX10_see_29 : decode cX10_see 29 = .ok (.getfield 30, 3) := by decide +kernel
theorem dX10_see_32 : decode cX10_see 32 = .ok (.iload_n 1, 1) := by decide +kernel
theorem dX10_see_33 : decode cX10_see 33 = .ok (.iload_n 2, 1) := by decide +kernel
theorem dX10_see_34 : decode cX10_see 34 = .ok (.iload_n 3, 1) := by decide +kernel
theorem dX10_see_35 : decode cX10_see 35 = .ok (.invokevirtual 165, 3) := by decide +kernel
theorem dX10_see_38 : decode cX10_see 38 = .ok (.ifCond .eq 13, 3) := by decide +kernel
theorem dX10_see_41 : decode cX10_see 41 = .ok (.aload_n 0, 1) := by decide +kernel
theorem dX10_see_42 : decode cX10_see 42 = .ok (.getfield 30, 3) := by decide +kernel
theorem dX10_see_45 : decode cX10_see 45 = .ok (.getfield 169, 3) := by decide +kernel
theorem dX10_see_48 : decode cX10_see 48 = .ok (.goto 5, 3) := by decide +kernel
theorem dX10_see_51 : decode cX10_see 51 = .ok (.bipush (-104), 2) := by decide +kernel
theorem dX10_see_53 : decode cX10_see 53 = .ok (.ireturn, 1) := by decide +kernel
theorem dX10_forget_0 : decode cX10_forget 0 = .ok (.aload_n 0, 1) := by decide +kernel
theorem dX10_forget_1 : decode cX10_forget 1 = .ok (.getfield 30, 3) := by decide +kernel
theorem dX10_forget_4 : decode cX10_forget 4 = .ok (.getfield 169, 3) := by decide +kernel
theorem dX10_forget_7 : decode cX10_forget 7 = .ok (.istore_n 1, 1) := by decide +kernel
theorem dX10_forget_8 : decode cX10_forget 8 = .ok (.aload_n 0, 1) := by decide +kernel
theorem dX10_forget_9 : decode cX10_forget 9 = .ok (.getfield 30, 3) := by decide +kernel
theorem dX10_forget_12 : decode cX10_forget 12 = .ok (.iconst 0, 1) := by decide +kernel
theorem dX10_forget_13 : decode cX10_forget 13 = .ok (.putfield 169, 3) := by decide +kernel
theorem dX10_forget_16 : decode cX10_forget 16 = .ok (.iload_n 1, 1) := by decide +kernel
theorem dX10_forget_17 : decode cX10_forget 17 = .ok (.ireturn, 1) := by decide +kernel
set_option maxRecDepth 20000 in
theorem ggX10_guess_X10_hasTown : GoodIn wsX10_guess wsX10_hasTown := goodIn_r _ [7, 8, 9, 163, 164, 165, 166, 167, 168, 169, 170, 171, 172, 173, 174, 175, 176, 177] (by decide +kernel) (by decide +kernel)
set_option maxRecDepth 20000 in
theorem gX10_guess_X10_hasTown : GoodIn wsX10_guess (wsV RX10 111 RX10 yX10_hasTown wsX10_hasTown) := goodIn_app (goodIn_of _ (by decide +kernel)) ggX10_guess_X10_hasTown
set_option maxRecDepth 20000 in
theorem ggX10_guess_X10_seekGuesses : GoodIn wsX10_guess wsX10_seekGuesses := goodIn_r _ [13, 1, 2, 14, 15, 16, 17, 18, 19, 20, 21, 22, 23, 24, 25, 26, 27, 28, 29, 30, 31, 32, 33, 34, 35, 36, 37, 38, 39, 40, 41, 42, 43, 44, 45, 46, 47, 48, 49, 50, 51, 52, 53, 54, 55, 56, 57, 58, 59, 60, 61, 62, 63, 64, 65, 66, 67, 68, 69, 70, 71, 72, 73, 74, 75, 76, 77, 78, 79, 80, 81, 82, 83, 84, 85, 86, 87, 88, 89, 90, 91, 92, 93, 94, 95, 96, 97, 98, 99, 100, 101, 102, 103, 104, 105, 106, 107, 108, 109, 110, 111, 112, 113, 114, 115, 116, 117, 118, 119, 120, 121, 122, 123, 124, 125, 126, 127, 128, 129, 130, 131, 132, 133, 134, 135, 136, 137, 138, 139, 140, 141, 142, 143, 144, 145, 146, 147, 148, 149, 150, 151, 152, 153, 154, 155, 156, 157, 158, 159, 160, 161, 162, 163, 164, 165, 166, 167, 168, 169, 170, 171, 172, 173, 178, 179, 180, 181, 182, 183, 184, 185, 186, 187, 188, 189, 190, 174, 175, 176, 177, 191, 192, 193, 194, 195, 196, 197, 198, 199, 200, 201, 202, 203, 204, 205] (by decide +kernel) (by decide +kernel)
set_option maxRecDepth 20000 in
theorem gX10_guess_X10_seekGuesses : GoodIn wsX10_guess (wsV RX10 172 RX10 yX10_seekGuesses wsX10_seekGuesses) := goodIn_app (goodIn_of _ (by decide +kernel)) ggX10_guess_X10_seekGuesses
theorem dX10_guess_0 : decode cX10_guess 0 = .ok (.iload_n 1, 1) := by decide +kernel
theorem dX10_guess_1 : decode cX10_guess 1 = .ok (.ifCond .lt 8, 3) := by decide +kernel
theorem dX10_guess_4 : decode cX10_guess 4 = .ok (.iload_n 1, 1) := by decide +kernel
theorem dX10_guess_5 : decode cX10_guess 5 = .ok (.iconst 1, 1) := by decide +kernel
theorem dX10_guess_6 : decode cX10_guess 6 = .ok (.if_icmp .le 6, 3) := by decide +kernel
theorem dX10_guess_9 : decode cX10_guess 9 = .ok (.bipush (-102), 2) := by decide +kernel
theorem dX10_guess_11 : decode cX10_guess 11 = .ok (.ireturn, 1) := by decide +kernel
theorem dX10_guess_12 : decode cX10_guess 12 = .ok (.aload_n 0, 1) := by decide +kernel
theorem dX10_guess_13 : decode cX10_guess 13 = .ok (.invokevirtual 111, 3) := by decide +kernel
theorem dX10_guess_16 : decode cX10_guess 16 = .ok (.ifCond .ne 6, 3) := by decide +kernel
theorem dX10_guess_19 : decode cX10_guess 19 = .ok (.bipush (-103), 2) := by decide +kernel
theorem dX10_guess_21 : decode cX10_guess 21 = .ok (.ireturn, 1) := by decide +kernel
theorem dX10_guess_22 : decode cX10_guess 22 = .ok (.aload_n 0, 1) := by decide +kernel
theorem dX10_guess_23 : decode cX10_guess 23 = .ok (.invokevirtual 172, 3) := by decide +kernel
theorem dX10_guess_26 : decode cX10_guess 26 = .ok (.iload_n 1, 1) := by decide +kernel
theorem dX10_guess_27 : decode cX10_guess 27 = .ok (.ifCond .ne 10, 3) := by decide +kernel
theorem dX10_guess_30 : decode cX10_guess 30 = .ok (.aload_n 0, 1) := by decide +kernel
theorem dX10_guess_31 : decode cX10_guess 31 = .ok (.getfield 175, 3) := by decide +kernel
theorem dX10_guess_34 : decode cX10_guess 34 = .ok (.goto 7, 3) := by decide +kernel
theorem dX10_guess_37 : decode cX10_guess 37 = .ok (.aload_n 0, 1) := by decide +kernel
theorem dX10_guess_38 : decode cX10_guess 38 = .ok (.getfield 178, 3) := by decide +kernel
theorem dX10_guess_41 : decode cX10_guess 41 = .ok (.ireturn, 1) := by decide +kernel
set_option maxRecDepth 20000 in
theorem ggX10_nights_X10_hasTown : GoodIn wsX10_nights wsX10_hasTown := goodIn_r _ [9, 10, 11, 159, 160, 161, 162, 163, 164, 165, 166, 167, 168, 169, 183, 184, 185, 186] (by decide +kernel) (by decide +kernel)
set_option maxRecDepth 20000 in
theorem gX10_nights_X10_hasTown : GoodIn wsX10_nights (wsV RX10 111 RX10 yX10_hasTown wsX10_hasTown) := goodIn_app (goodIn_of _ (by decide +kernel)) ggX10_nights_X10_hasTown
set_option maxRecDepth 20000 in
theorem ggX10_nights_X5_begin : GoodIn wsX10_nights wsX5_begin := goodIn_r _ [16, 17, 18, 19, 20, 21, 22, 23, 24, 25, 26, 27, 28, 29, 30, 170, 171, 172, 173, 174, 175, 176, 177, 178, 179, 180, 181, 182] (by decide +kernel) (by decide +kernel)
set_option maxRecDepth 20000 in
theorem gX10_nights_X5_begin : GoodIn wsX10_nights (wsV RX10 67 RX5 yX5_begin wsX5_begin) := goodIn_app (goodIn_of _ (by decide +kernel)) ggX10_nights_X5_begin
set_option maxRecDepth 20000 in
theorem ggX10_nights_X10_goThroughNight : GoodIn wsX10_nights wsX10_goThroughNight := goodIn_r _ [34, 1, 2, 4, 10, 11, 35, 36, 24, 25, 26, 27, 28, 29, 30, 37, 38, 8, 39, 40, 41, 42, 43, 44, 45, 46, 47, 48, 49, 15, 50, 51, 52, 53, 54, 55, 56, 57, 58, 59, 60, 61, 17, 62, 63, 64, 65, 66, 67, 68, 69, 70, 71, 21, 72, 73, 74, 75, 76, 77, 78, 79, 80, 81, 82, 83, 84, 85, 86, 87, 88, 18, 89, 19, 90, 91, 92, 93, 94, 95, 96, 97, 98, 99, 100, 101, 102, 103, 104, 105, 106, 107, 108, 109, 110, 111, 112, 113, 114, 115, 116, 117, 118, 119, 120, 121, 122, 123, 124, 125, 126, 127, 128, 129, 130, 131, 132, 133, 134, 135, 136, 137, 138, 139, 140, 141, 142, 143, 144, 145, 146, 147, 148, 149, 150, 151, 152, 153, 154, 159, 160, 161, 162, 163, 164, 165, 166, 167, 168, 169, 170, 171, 172, 173, 174, 175, 176, 177, 178, 179, 180, 181, 182, 183, 184, 185, 186, 187, 188, 189, 190, 191, 192, 193, 194, 195, 196, 197, 198, 199, 200, 201] (by decide +kernel) (by decide +kernel)
set_option maxRecDepth 20000 in
theorem gX10_nights_X10_goThroughNight : GoodIn wsX10_nights (wsV RX10 181 RX10 yX10_goThroughNight wsX10_goThroughNight) := goodIn_app (goodIn_of _ (by decide +kernel)) ggX10_nights_X10_goThroughNight
set_option maxRecDepth 20000 in
theorem ggX10_nights_X5_lateOfAll : GoodIn wsX10_nights wsX5_lateOfAll := goodIn_r _ [158, 19, 170, 171, 172, 173, 174, 175, 176, 177, 178, 179] (by decide +kernel) (by decide +kernel)
set_option maxRecDepth 20000 in
theorem gX10_nights_X5_lateOfAll : GoodIn wsX10_nights (wsV RX10 184 RX5 yX5_lateOfAll wsX5_lateOfAll) := goodIn_app (goodIn_of _ (by decide +kernel)) ggX10_nights_X5_lateOfAll
theorem dX10_nights_0 : decode cX10_nights 0 = .ok (.iload_n 1, 1) := by decide +kernel
theorem dX10_nights_1 : decode cX10_nights 1 = .ok (.iconst 1, 1) := by decide +kernel
theorem dX10_nights_2 : decode cX10_nights 2 = .ok (.if_icmp .lt 22, 3) := by decide +kernel
theorem dX10_nights_5 : decode cX10_nights 5 = .ok (.iload_n 1, 1) := by decide +kernel
theorem dX10_nights_6 : decode cX10_nights 6 = .ok (.bipush 60, 2) := by decide +kernel
theorem dX10_nights_8 : decode cX10_nights 8 = .ok (.if_icmp .gt 16, 3) := by decide +kernel
theorem dX10_nights_11 : decode cX10_nights 11 = .ok (.iload_n 2, 1) := by decide +kernel
theorem dX10_nights_12 : decode cX10_nights 12 = .ok (.ifCond .lt 12, 3) := by decide +kernel
theorem dX10_nights_15 : decode cX10_nights 15 = .ok (.iload_n 3, 1) := by decide +kernel
theorem dX10_nights_16 : decode cX10_nights 16 = .ok (.ifCond .lt 8, 3) := by decide +kernel
theorem dX10_nights_19 : decode cX10_nights 19 = .ok (.iload_n 3, 1) := by decide +kernel
theorem dX10_nights_20 : decode cX10_nights 20 = .ok (.iconst 2, 1) := by decide +kernel
theorem dX10_nights_21 : decode cX10_nights 21 = .ok (.if_icmp .le 6, 3) := by decide +kernel
theorem dX10_nights_24 : decode cX10_nights 24 = .ok (.bipush (-102), 2) := by decide +kernel
theorem dX10_nights_26 : decode cX10_nights 26 = .ok (.ireturn, 1) := by decide +kernel
theorem dX10_nights_27 : decode cX10_nights 27 = .ok (.aload_n 0, 1) := by decide +kernel
theorem dX10_nights_28 : decode cX10_nights 28 = .ok (.invokevirtual 111, 3) := by decide +kernel
theorem dX10_nights_31 : decode cX10_nights 31 = .ok (.ifCond .ne 6, 3) := by decide +kernel
theorem dX10_nights_34 : decode cX10_nights 34 = .ok (.bipush (-103), 2) := by decide +kernel
theorem dX10_nights_36 : decode cX10_nights 36 = .ok (.ireturn, 1) := by decide +kernel
theorem dX10_nights_37 : decode cX10_nights 37 = .ok (.aload_n 0, 1) := by decide +kernel
theorem dX10_nights_38 : decode cX10_nights 38 = .ok (.getfield 37, 3) := by decide +kernel
theorem dX10_nights_41 : decode cX10_nights 41 = .ok (.invokevirtual 67, 3) := by decide +kernel
theorem dX10_nights_44 : decode cX10_nights 44 = .ok (.aload_n 0, 1) := by decide +kernel
theorem dX10_nights_45 : decode cX10_nights 45 = .ok (.getfield 37, 3) := by decide +kernel
theorem dX10_nights_48 : decode cX10_nights 48 = .ok (.getfield 102, 3) := by decide +kernel
theorem dX10_nights_51 : decode cX10_nights 51 = .ok (.aload_n 0, 1) := by decide +kernel
theorem dX10_nights_52 : decode cX10_nights 52 = .ok (.getfield 30, 3) := by decide +kernel
theorem dX10_nights_55 : decode cX10_nights 55 = .ok (.getfield 102, 3) := by decide +kernel
theorem dX10_nights_58 : decode cX10_nights 58 = .ok (.getfield 114, 3) := by decide +kernel
theorem dX10_nights_61 : decode cX10_nights 61 = .ok (.putfield 114, 3) := by decide +kernel
theorem dX10_nights_64 : decode cX10_nights 64 = .ok (.iload_n 2, 1) := by decide +kernel
theorem dX10_nights_65 : decode cX10_nights 65 = .ok (.istore 4, 2) := by decide +kernel
theorem dX10_nights_67 : decode cX10_nights 67 = .ok (.iconst 0, 1) := by decide +kernel
theorem dX10_nights_68 : decode cX10_nights 68 = .ok (.istore 5, 2) := by decide +kernel
theorem dX10_nights_70 : decode cX10_nights 70 = .ok (.iload 5, 2) := by decide +kernel
theorem dX10_nights_72 : decode cX10_nights 72 = .ok (.iload_n 1, 1) := by decide +kernel
theorem dX10_nights_73 : decode cX10_nights 73 = .ok (.if_icmp .ge 17, 3) := by decide +kernel
theorem dX10_nights_76 : decode cX10_nights 76 = .ok (.aload_n 0, 1) := by decide +kernel
theorem dX10_nights_77 : decode cX10_nights 77 = .ok (.iload 4, 2) := by decide +kernel
theorem dX10_nights_79 : decode cX10_nights 79 = .ok (.invokevirtual 181, 3) := by decide +kernel
theorem dX10_nights_82 : decode cX10_nights 82 = .ok (.istore 4, 2) := by decide +kernel
theorem dX10_nights_84 : decode cX10_nights 84 = .ok (.iinc 5 1, 3) := by decide +kernel
theorem dX10_nights_87 : decode cX10_nights 87 = .ok (.goto (-17), 3) := by decide +kernel
theorem dX10_nights_90 : decode cX10_nights 90 = .ok (.iload_n 3, 1) := by decide +kernel
theorem dX10_nights_91 : decode cX10_nights 91 = .ok (.lookupswitch 44 #[(0, 25), (1, 33)], 25) := by decide +kernel
theorem dX10_nights_116 : decode cX10_nights 116 = .ok (.aload_n 0, 1) := by decide +kernel
theorem dX10_nights_117 : decode cX10_nights 117 = .ok (.getfield 37, 3) := by decide +kernel
theorem dX10_nights_120 : decode cX10_nights 120 = .ok (.invokevirtual 184, 3) := by decide +kernel
theorem dX10_nights_123 : decode cX10_nights 123 = .ok (.ireturn, 1) := by decide +kernel
theorem dX10_nights_124 : decode cX10_nights 124 = .ok (.aload_n 0, 1) := by decide +kernel
theorem dX10_nights_125 : decode cX10_nights 125 = .ok (.getfield 37, 3) := by decide +kernel
theorem dX10_nights_128 : decode cX10_nights 128 = .ok (.getfield 102, 3) := by decide +kernel
theorem dX10_nights_131 : decode cX10_nights 131 = .ok (.getfield 114, 3) := by decide +kernel
theorem dX10_nights_134 : decode cX10_nights 134 = .ok (.ireturn, 1) := by decide +kernel
theorem dX10_nights_135 : decode cX10_nights 135 = .ok (.iload 4, 2) := by decide +kernel
theorem dX10_nights_137 : decode cX10_nights 137 = .ok (.ireturn, 1) := by decide +kernel
set_option maxRecDepth 20000 in
theorem ggX10_image_X10_hasTown : GoodIn wsX10_image wsX10_hasTown := goodIn_r _ [10, 11, 12, 39, 40, 41, 42, 43, 44, 45, 46, 47, 48, 49, 63, 64, 65, 66] (by decide +kernel) (by decide +kernel)
set_option maxRecDepth 20000 in
theorem gX10_image_X10_hasTown : GoodIn wsX10_image (wsV RX10 111 RX10 yX10_hasTown wsX10_hasTown) := goodIn_app (goodIn_of _ (by decide +kernel)) ggX10_image_X10_hasTown
set_option maxRecDepth 20000 in
theorem ggX10_image_X5_copyFrom : GoodIn wsX10_image wsX5_copyFrom := goodIn_r _ [17, 18, 19, 20, 21, 22, 23, 24, 25, 26, 27, 28, 29, 30, 31, 32, 33, 34, 35, 36, 37, 38, 50, 51, 52, 53, 54, 55, 56, 57, 58, 59, 60, 61, 62] (by decide +kernel) (by decide +kernel)
set_option maxRecDepth 20000 in
theorem gX10_image_X5_copyFrom : GoodIn wsX10_image (wsV RX10 187 RX5 yX5_copyFrom wsX5_copyFrom) := goodIn_app (goodIn_of _ (by decide +kernel)) ggX10_image_X5_copyFrom
theorem dX10_image_0 : decode cX10_image 0 = .ok (.aload_n 0, 1) := by decide +kernel
theorem dX10_image_1 : decode cX10_image 1 = .ok (.invokevirtual 111, 3) := by decide +kernel
theorem dX10_image_4 : decode cX10_image 4 = .ok (.ifCond .ne 6, 3) := by decide +kernel
theorem dX10_image_7 : decode cX10_image 7 = .ok (.bipush (-103), 2) := by decide +kernel
theorem dX10_image_9 : decode cX10_image 9 = .ok (.ireturn, 1) := by decide +kernel
theorem dX10_image_10 : decode cX10_image 10 = .ok (.aload_n 0, 1) := by decide +kernel
theorem dX10_image_11 : decode cX10_image 11 = .ok (.getfield 34, 3) := by decide +kernel
theorem dX10_image_14 : decode cX10_image 14 = .ok (.aload_n 0, 1) := by decide +kernel
theorem dX10_image_15 : decode cX10_image 15 = .ok (.getfield 30, 3) := by decide +kernel
theorem dX10_image_18 : decode cX10_image 18 = .ok (.invokevirtual 187, 3) := by decide +kernel
theorem dX10_image_21 : decode cX10_image 21 = .ok (.aload_n 0, 1) := by decide +kernel
theorem dX10_image_22 : decode cX10_image 22 = .ok (.iconst 1, 1) := by decide +kernel
theorem dX10_image_23 : decode cX10_image 23 = .ok (.putfield 70, 3) := by decide +kernel
theorem dX10_image_26 : decode cX10_image 26 = .ok (.aload_n 0, 1) := by decide +kernel
theorem dX10_image_27 : decode cX10_image 27 = .ok (.getfield 30, 3) := by decide +kernel
theorem dX10_image_30 : decode cX10_image 30 = .ok (.getfield 102, 3) := by decide +kernel
theorem dX10_image_33 : decode cX10_image 33 = .ok (.getfield 106, 3) := by decide +kernel
theorem dX10_image_36 : decode cX10_image 36 = .ok (.ireturn, 1) := by decide +kernel
set_option maxRecDepth 20000 in
theorem ggX10_restore_X5_copyFrom : GoodIn wsX10_restore wsX5_copyFrom := goodIn_r _ [10, 11, 12, 13, 14, 15, 16, 17, 18, 19, 20, 21, 22, 23, 24, 25, 26, 27, 28, 29, 30, 31, 43, 44, 45, 46, 47, 48, 49, 50, 51, 52, 53, 54, 55] (by decide +kernel) (by decide +kernel)
set_option maxRecDepth 20000 in
theorem gX10_restore_X5_copyFrom : GoodIn wsX10_restore (wsV RX10 187 RX5 yX5_copyFrom wsX5_copyFrom) := goodIn_app (goodIn_of _ (by decide +kernel)) ggX10_restore_X5_copyFrom
theorem dX10_restore_0 : decode cX10_restore 0 = .ok (.aload_n 0, 1) := by decide +kernel
theorem dX10_restore_1 : decode cX10_restore 1 = .ok (.getfield 70, 3) := by decide +kernel
theorem dX10_restore_4 : decode cX10_restore 4 = .ok (.ifCond .ne 6, 3) := by decide +kernel
theorem dX10_restore_7 : decode cX10_restore 7 = .ok (.bipush (-103), 2) := by decide +kernel
theorem dX10_restore_9 : decode cX10_restore 9 = .ok (.ireturn, 1) := by decide +kernel
theorem dX10_restore_10 : decode cX10_restore 10 = .ok (.aload_n 0, 1) := by decide +kernel
theorem dX10_restore_11 : decode cX10_restore 11 = .ok (.getfield 30, 3) := by decide +kernel
theorem dX10_restore_14 : decode cX10_restore 14 = .ok (.aload_n 0, 1) := by decide +kernel
theorem dX10_restore_15 : decode cX10_restore 15 = .ok (.getfield 34, 3) := by decide +kernel
theorem dX10_restore_18 : decode cX10_restore 18 = .ok (.invokevirtual 187, 3) := by decide +kernel
theorem dX10_restore_21 : decode cX10_restore 21 = .ok (.aload_n 0, 1) := by decide +kernel
theorem dX10_restore_22 : decode cX10_restore 22 = .ok (.getfield 30, 3) := by decide +kernel
theorem dX10_restore_25 : decode cX10_restore 25 = .ok (.getfield 102, 3) := by decide +kernel
theorem dX10_restore_28 : decode cX10_restore 28 = .ok (.getfield 106, 3) := by decide +kernel
theorem dX10_restore_31 : decode cX10_restore 31 = .ok (.ireturn, 1) := by decide +kernel
set_option maxRecDepth 20000 in
theorem ggX10_count_X5_outAtDoor : GoodIn wsX10_count wsX5_outAtDoor := goodIn_r _ [17, 18, 19, 20, 16, 21, 22, 23, 24, 25, 26, 27, 28, 29, 55, 56, 57, 58, 59, 60, 61, 62, 63, 64] (by decide +kernel) (by decide +kernel)
set_option maxRecDepth 20000 in
theorem gX10_count_X5_outAtDoor : GoodIn wsX10_count (wsV RX10 191 RX5 yX5_outAtDoor wsX5_outAtDoor) := goodIn_app (goodIn_of _ (by decide +kernel)) ggX10_count_X5_outAtDoor
set_option maxRecDepth 20000 in
theorem ggX10_count_X5_lateOfAll : GoodIn wsX10_count wsX5_lateOfAll := goodIn_r _ [33, 34, 55, 56, 57, 58, 59, 60, 61, 62, 63, 64] (by decide +kernel) (by decide +kernel)
set_option maxRecDepth 20000 in
theorem gX10_count_X5_lateOfAll : GoodIn wsX10_count (wsV RX10 184 RX5 yX5_lateOfAll wsX5_lateOfAll) := goodIn_app (goodIn_of _ (by decide +kernel)) ggX10_count_X5_lateOfAll
set_option maxRecDepth 20000 in
theorem ggX10_count_X5_outOfAll : GoodIn wsX10_count wsX5_outOfAll := goodIn_r _ [38, 39, 55, 56, 57, 58, 59, 60, 61, 62, 63, 64] (by decide +kernel) (by decide +kernel)
set_option maxRecDepth 20000 in
theorem gX10_count_X5_outOfAll : GoodIn wsX10_count (wsV RX10 197 RX5 yX5_outOfAll wsX5_outOfAll) := goodIn_app (goodIn_of _ (by decide +kernel)) ggX10_count_X5_outOfAll
theorem dX10_count_0 : decode cX10_count 0 = .ok (.iload_n 1, 1) := by decide +kernel
theorem dX10_count_1 : decode cX10_count 1 = .ok (.tableswitch 150 0 10 #[59, 67, 75, 86, 97, 108, 116, 124, 132, 140, 145], 59) := by decide +kernel
theorem dX10_count_60 : decode cX10_count 60 = .ok (.aload_n 0, 1) := by decide +kernel
theorem dX10_count_61 : decode cX10_count 61 = .ok (.getfield 21, 3) := by decide +kernel
theorem dX10_count_64 : decode cX10_count 64 = .ok (.getfield 77, 3) := by decide +kernel
theorem dX10_count_67 : decode cX10_count 67 = .ok (.ireturn, 1) := by decide +kernel
theorem dX10_count_68 : decode cX10_count 68 = .ok (.aload_n 0, 1) := by decide +kernel
theorem dX10_count_69 : decode cX10_count 69 = .ok (.getfield 30, 3) := by decide +kernel
theorem dX10_count_72 : decode cX10_count 72 = .ok (.invokevirtual 191, 3) := by decide +kernel
theorem dX10_count_75 : decode cX10_count 75 = .ok (.ireturn, 1) := by decide +kernel
theorem dX10_count_76 : decode cX10_count 76 = .ok (.aload_n 0, 1) := by decide +kernel
theorem dX10_count_77 : decode cX10_count 77 = .ok (.getfield 30, 3) := by decide +kernel
theorem dX10_count_80 : decode cX10_count 80 = .ok (.getfield 102, 3) := by decide +kernel
theorem dX10_count_83 : decode cX10_count 83 = .ok (.getfield 114, 3) := by decide +kernel
theorem dX10_count_86 : decode cX10_count 86 = .ok (.ireturn, 1) := by decide +kernel
theorem dX10_count_87 : decode cX10_count 87 = .ok (.aload_n 0, 1) := by decide +kernel
theorem dX10_count_88 : decode cX10_count 88 = .ok (.getfield 30, 3) := by decide +kernel
theorem dX10_count_91 : decode cX10_count 91 = .ok (.getfield 102, 3) := by decide +kernel
theorem dX10_count_94 : decode cX10_count 94 = .ok (.getfield 106, 3) := by decide +kernel
theorem dX10_count_97 : decode cX10_count 97 = .ok (.ireturn, 1) := by decide +kernel
theorem dX10_count_98 : decode cX10_count 98 = .ok (.aload_n 0, 1) := by decide +kernel
theorem dX10_count_99 : decode cX10_count 99 = .ok (.getfield 30, 3) := by decide +kernel
theorem dX10_count_102 : decode cX10_count 102 = .ok (.getfield 102, 3) := by decide +kernel
theorem dX10_count_105 : decode cX10_count 105 = .ok (.getfield 194, 3) := by decide +kernel
theorem dX10_count_108 : decode cX10_count 108 = .ok (.ireturn, 1) := by decide +kernel
theorem dX10_count_109 : decode cX10_count 109 = .ok (.aload_n 0, 1) := by decide +kernel
theorem dX10_count_110 : decode cX10_count 110 = .ok (.getfield 30, 3) := by decide +kernel
theorem dX10_count_113 : decode cX10_count 113 = .ok (.invokevirtual 184, 3) := by decide +kernel
theorem dX10_count_116 : decode cX10_count 116 = .ok (.ireturn, 1) := by decide +kernel
theorem dX10_count_117 : decode cX10_count 117 = .ok (.aload_n 0, 1) := by decide +kernel
theorem dX10_count_118 : decode cX10_count 118 = .ok (.getfield 30, 3) := by decide +kernel
theorem dX10_count_121 : decode cX10_count 121 = .ok (.invokevirtual 197, 3) := by decide +kernel
theorem dX10_count_124 : decode cX10_count 124 = .ok (.ireturn, 1) := by decide +kernel
theorem dX10_count_125 : decode cX10_count 125 = .ok (.aload_n 0, 1) := by decide +kernel
theorem dX10_count_126 : decode cX10_count 126 = .ok (.getfield 30, 3) := by decide +kernel
theorem dX10_count_129 : decode cX10_count 129 = .ok (.getfield 169, 3) := by decide +kernel
theorem dX10_count_132 : decode cX10_count 132 = .ok (.ireturn, 1) := by decide +kernel
theorem dX10_count_133 : decode cX10_count 133 = .ok (.aload_n 0, 1) := by decide +kernel
theorem dX10_count_134 : decode cX10_count 134 = .ok (.getfield 12, 3) := by decide +kernel
theorem dX10_count_137 : decode cX10_count 137 = .ok (.getfield 51, 3) := by decide +kernel
theorem dX10_count_140 : decode cX10_count 140 = .ok (.ireturn, 1) := by decide +kernel
theorem dX10_count_141 : decode cX10_count 141 = .ok (.aload_n 0, 1) := by decide +kernel
theorem dX10_count_142 : decode cX10_count 142 = .ok (.getfield 74, 3) := by decide +kernel
theorem dX10_count_145 : decode cX10_count 145 = .ok (.ireturn, 1) := by decide +kernel
theorem dX10_count_146 : decode cX10_count 146 = .ok (.aload_n 0, 1) := by decide +kernel
theorem dX10_count_147 : decode cX10_count 147 = .ok (.getfield 155, 3) := by decide +kernel
theorem dX10_count_150 : decode cX10_count 150 = .ok (.ireturn, 1) := by decide +kernel
theorem dX10_count_151 : decode cX10_count 151 = .ok (.bipush (-102), 2) := by decide +kernel
theorem dX10_count_153 : decode cX10_count 153 = .ok (.ireturn, 1) := by decide +kernel
set_option maxRecDepth 20000 in
theorem ggX10_digest_X10_toldOf : GoodIn wsX10_digest wsX10_toldOf := goodIn_r _ [11, 2, 12, 13, 14, 15, 16, 17, 18, 19, 20, 21, 22, 23, 24, 25, 26, 27, 28, 29, 30, 31, 32, 33, 34, 35, 36, 37, 38, 39, 40, 41, 42, 43, 44, 45, 46, 47, 48, 49, 50, 311, 312, 313, 314, 315, 316, 317, 318, 319, 320, 321, 328, 329, 330, 331, 332, 333, 334, 335, 336, 337, 338, 339, 340, 341, 342, 343, 344, 345, 346, 347, 348, 349, 350, 351, 352, 322, 323, 324, 325] (by decide +kernel) (by decide +kernel)
set_option maxRecDepth 20000 in
theorem gX10_digest_X10_toldOf : GoodIn wsX10_digest (wsV RX10 83 RX10 yX10_toldOf wsX10_toldOf) := goodIn_app (goodIn_of _ (by decide +kernel)) ggX10_digest_X10_toldOf
set_option maxRecDepth 20000 in
theorem ggX10_digest_X10_hasTown : GoodIn wsX10_digest wsX10_hasTown := goodIn_r _ [54, 2, 3, 311, 312, 313, 314, 315, 316, 317, 318, 319, 320, 321, 322, 323, 324, 325] (by decide +kernel) (by decide +kernel)
set_option maxRecDepth 20000 in
theorem gX10_digest_X10_hasTown : GoodIn wsX10_digest (wsV RX10 111 RX10 yX10_hasTown wsX10_hasTown) := goodIn_app (goodIn_of _ (by decide +kernel)) ggX10_digest_X10_hasTown
set_option maxRecDepth 20000 in
theorem ggX10_digest_X10_withWhatWouldBe : GoodIn wsX10_digest wsX10_withWhatWouldBe := goodIn_r _ [58, 4, 15, 59, 60, 61, 62, 63, 64, 65, 66, 67, 68, 69, 70, 71, 72, 73, 74, 75, 76, 77, 78, 79, 23, 80, 81, 82, 83, 84, 85, 86, 87, 88, 89, 90, 91, 92, 93, 94, 21, 22, 24, 25, 26, 95, 96, 97, 10, 98, 99, 100, 101, 102, 103, 104, 105, 106, 107, 108, 109, 110, 111, 112, 113, 114, 115, 116, 117, 118, 119, 120, 121, 122, 123, 124, 125, 126, 127, 128, 129, 130, 131, 132, 133, 134, 135, 136, 137, 138, 139, 140, 141, 142, 143, 144, 145, 146, 147, 148, 149, 150, 151, 152, 153, 30, 154, 155, 156, 157, 158, 159, 160, 49, 161, 162, 163, 164, 165, 166, 167, 168, 169, 170, 171, 172, 173, 41, 174, 175, 176, 177, 178, 179, 180, 181, 182, 183, 184, 185, 186, 187, 188, 37, 189, 190, 191, 192, 193, 194, 195, 196, 197, 198, 199, 200, 201, 202, 203, 204, 205, 206, 207, 208, 209, 210, 211, 212, 213, 214, 215, 216, 217, 218, 219, 220, 221, 222, 223, 224, 225, 226, 227, 228, 229, 230, 231, 232, 233, 234, 235, 236, 237, 238, 239, 240, 241, 242, 243, 244, 245, 246, 247, 248, 249, 250, 251, 252, 253, 254, 255, 256, 257, 258, 259, 260, 261, 262, 263, 264, 265, 266, 267, 268, 269, 270, 271, 272, 273, 274, 275, 276, 277, 278, 279, 280, 311, 312, 313, 314, 315, 316, 317, 318, 319, 320, 321, 343, 344, 345, 346, 347, 348, 349, 350, 351, 352, 353, 354, 355, 322, 323, 324, 325, 328, 329, 330, 331, 332, 333, 334, 335, 336, 337, 338, 339, 340, 341, 342, 356, 357, 358, 359, 360, 361, 362, 363, 364] (by decide +kernel) (by decide +kernel)
set_option maxRecDepth 20000 in
theorem gX10_digest_X10_withWhatWouldBe : GoodIn wsX10_digest (wsV RX10 204 RX10 yX10_withWhatWouldBe wsX10_withWhatWouldBe) := goodIn_app (goodIn_of _ (by decide +kernel)) ggX10_digest_X10_withWhatWouldBe
set_option maxRecDepth 20000 in
theorem ggX10_digest_X6_codeAt : GoodIn wsX10_digest wsX6_codeAt := goodIn_r _ [285, 286, 287, 326, 327] (by decide +kernel) (by decide +kernel)
set_option maxRecDepth 20000 in
theorem gX10_digest_X6_codeAt : GoodIn wsX10_digest (wsV RX10 208 RX6 yX6_codeAt wsX6_codeAt) := goodIn_app (goodIn_of _ (by decide +kernel)) ggX10_digest_X6_codeAt
set_option maxRecDepth 20000 in
theorem ggX10_digest_X10_count : GoodIn wsX10_digest wsX10_count := goodIn_r _ [291, 2, 3, 15, 60, 61, 197, 292, 293, 5, 6, 294, 295, 296, 297, 298, 67, 299, 72, 73, 74, 75, 76, 300, 301, 302, 303, 304, 305, 306, 198, 199, 200, 201, 105, 307, 308, 309, 310, 106, 311, 312, 313, 314, 315, 316, 317, 318, 319, 320, 321, 322, 323, 324, 325, 343, 344, 345, 346, 347, 348, 349, 350, 351, 352, 353, 354, 355, 326, 327] (by decide +kernel) (by decide +kernel)
set_option maxRecDepth 20000 in
theorem gX10_digest_X10_count : GoodIn wsX10_digest (wsV RX10 211 RX10 yX10_count wsX10_count) := goodIn_app (goodIn_of _ (by decide +kernel)) ggX10_digest_X10_count
theorem dX10_digest_0 : decode cX10_digest 0 = .ok (.ldc2_w 200, 3) := by decide +kernel
theorem dX10_digest_3 : decode cX10_digest 3 = .ok (.lstore_n 1, 1) := by decide +kernel
theorem dX10_digest_4 : decode cX10_digest 4 = .ok (.iconst 0, 1) := by decide +kernel
theorem dX10_digest_5 : decode cX10_digest 5 = .ok (.istore_n 3, 1) := by decide +kernel
theorem dX10_digest_6 : decode cX10_digest 6 = .ok (.iload_n 3, 1) := by decide +kernel
theorem dX10_digest_7 : decode cX10_digest 7 = .ok (.aload_n 0, 1) := by decide +kernel
theorem dX10_digest_8 : decode cX10_digest 8 = .ok (.getfield 21, 3) := by decide +kernel
theorem dX10_digest_11 : decode cX10_digest 11 = .ok (.getfield 77, 3) := by decide +kernel
theorem dX10_digest_14 : decode cX10_digest 14 = .ok (.if_icmp .ge 40, 3) := by decide +kernel
theorem dX10_digest_17 : decode cX10_digest 17 = .ok (.iconst 0, 1) := by decide +kernel
theorem dX10_digest_18 : decode cX10_digest 18 = .ok (.istore 4, 2) := by decide +kernel
theorem dX10_digest_20 : decode cX10_digest 20 = .ok (.iload 4, 2) := by decide +kernel
theorem dX10_digest_22 : decode cX10_digest 22 = .ok (.bipush 7, 2) := by decide +kernel
theorem dX10_digest_24 : decode cX10_digest 24 = .ok (.if_icmp .gt 24, 3) := by decide +kernel
theorem dX10_digest_27 : decode cX10_digest 27 = .ok (.ldc2_w 202, 3) := by decide +kernel
theorem dX10_digest_30 : decode cX10_digest 30 = .ok (.lload_n 1, 1) := by decide +kernel
theorem dX10_digest_31 : decode cX10_digest 31 = .ok (.lmul, 1) := by decide +kernel
theorem dX10_digest_32 : decode cX10_digest 32 = .ok (.aload_n 0, 1) := by decide +kernel
theorem dX10_digest_33 : decode cX10_digest 33 = .ok (.iload_n 3, 1) := by decide +kernel
theorem dX10_digest_34 : decode cX10_digest 34 = .ok (.iload 4, 2) := by decide +kernel
theorem dX10_digest_36 : decode cX10_digest 36 = .ok (.invokevirtual 83, 3) := by decide +kernel
theorem dX10_digest_39 : decode cX10_digest 39 = .ok (.i2l, 1) := by decide +kernel
theorem dX10_digest_40 : decode cX10_digest 40 = .ok (.ladd, 1) := by decide +kernel
theorem dX10_digest_41 : decode cX10_digest 41 = .ok (.lstore_n 1, 1) := by decide +kernel
theorem dX10_digest_42 : decode cX10_digest 42 = .ok (.iinc 4 1, 3) := by decide +kernel
theorem dX10_digest_45 : decode cX10_digest 45 = .ok (.goto (-25), 3) := by decide +kernel
theorem dX10_digest_48 : decode cX10_digest 48 = .ok (.iinc 3 1, 3) := by decide +kernel
theorem dX10_digest_51 : decode cX10_digest 51 = .ok (.goto (-45), 3) := by decide +kernel
theorem dX10_digest_54 : decode cX10_digest 54 = .ok (.aload_n 0, 1) := by decide +kernel
theorem dX10_digest_55 : decode cX10_digest 55 = .ok (.invokevirtual 111, 3) := by decide +kernel
theorem dX10_digest_58 : decode cX10_digest 58 = .ok (.ifCond .eq 9, 3) := by decide +kernel
theorem dX10_digest_61 : decode cX10_digest 61 = .ok (.aload_n 0, 1) := by decide +kernel
theorem dX10_digest_62 : decode cX10_digest 62 = .ok (.lload_n 1, 1) := by decide +kernel
theorem dX10_digest_63 : decode cX10_digest 63 = .ok (.invokevirtual 204, 3) := by decide +kernel
theorem dX10_digest_66 : decode cX10_digest 66 = .ok (.lstore_n 1, 1) := by decide +kernel
theorem dX10_digest_67 : decode cX10_digest 67 = .ok (.iconst 0, 1) := by decide +kernel
theorem dX10_digest_68 : decode cX10_digest 68 = .ok (.istore_n 3, 1) := by decide +kernel
theorem dX10_digest_69 : decode cX10_digest 69 = .ok (.iload_n 3, 1) := by decide +kernel
theorem dX10_digest_70 : decode cX10_digest 70 = .ok (.aload_n 0, 1) := by decide +kernel
theorem dX10_digest_71 : decode cX10_digest 71 = .ok (.getfield 12, 3) := by decide +kernel
theorem dX10_digest_74 : decode cX10_digest 74 = .ok (.getfield 51, 3) := by decide +kernel
theorem dX10_digest_77 : decode cX10_digest 77 = .ok (.if_icmp .ge 25, 3) := by decide +kernel
theorem dX10_digest_80 : decode cX10_digest 80 = .ok (.ldc2_w 202, 3) := by decide +kernel
theorem dX10_digest_83 : decode cX10_digest 83 = .ok (.lload_n 1, 1) := by decide +kernel
theorem dX10_digest_84 : decode cX10_digest 84 = .ok (.lmul, 1) := by decide +kernel
theorem dX10_digest_85 : decode cX10_digest 85 = .ok (.aload_n 0, 1) := by decide +kernel
theorem dX10_digest_86 : decode cX10_digest 86 = .ok (.getfield 12, 3) := by decide +kernel
theorem dX10_digest_89 : decode cX10_digest 89 = .ok (.iload_n 3, 1) := by decide +kernel
theorem dX10_digest_90 : decode cX10_digest 90 = .ok (.invokevirtual 208, 3) := by decide +kernel
theorem dX10_digest_93 : decode cX10_digest 93 = .ok (.i2l, 1) := by decide +kernel
theorem dX10_digest_94 : decode cX10_digest 94 = .ok (.ladd, 1) := by decide +kernel
theorem dX10_digest_95 : decode cX10_digest 95 = .ok (.lstore_n 1, 1) := by decide +kernel
theorem dX10_digest_96 : decode cX10_digest 96 = .ok (.iinc 3 1, 3) := by decide +kernel
theorem dX10_digest_99 : decode cX10_digest 99 = .ok (.goto (-30), 3) := by decide +kernel
theorem dX10_digest_102 : decode cX10_digest 102 = .ok (.iconst 0, 1) := by decide +kernel
theorem dX10_digest_103 : decode cX10_digest 103 = .ok (.istore_n 3, 1) := by decide +kernel
theorem dX10_digest_104 : decode cX10_digest 104 = .ok (.iload_n 3, 1) := by decide +kernel
theorem dX10_digest_105 : decode cX10_digest 105 = .ok (.bipush 10, 2) := by decide +kernel
theorem dX10_digest_107 : decode cX10_digest 107 = .ok (.if_icmp .gt 22, 3) := by decide +kernel
theorem dX10_digest_110 : decode cX10_digest 110 = .ok (.ldc2_w 202, 3) := by decide +kernel
theorem dX10_digest_113 : decode cX10_digest 113 = .ok (.lload_n 1, 1) := by decide +kernel
theorem dX10_digest_114 : decode cX10_digest 114 = .ok (.lmul, 1) := by decide +kernel
theorem dX10_digest_115 : decode cX10_digest 115 = .ok (.aload_n 0, 1) := by decide +kernel
theorem dX10_digest_116 : decode cX10_digest 116 = .ok (.iload_n 3, 1) := by decide +kernel
theorem dX10_digest_117 : decode cX10_digest 117 = .ok (.invokevirtual 211, 3) := by decide +kernel
theorem dX10_digest_120 : decode cX10_digest 120 = .ok (.i2l, 1) := by decide +kernel
theorem dX10_digest_121 : decode cX10_digest 121 = .ok (.ladd, 1) := by decide +kernel
theorem dX10_digest_122 : decode cX10_digest 122 = .ok (.lstore_n 1, 1) := by decide +kernel
theorem dX10_digest_123 : decode cX10_digest 123 = .ok (.iinc 3 1, 3) := by decide +kernel
theorem dX10_digest_126 : decode cX10_digest 126 = .ok (.goto (-22), 3) := by decide +kernel
theorem dX10_digest_129 : decode cX10_digest 129 = .ok (.lload_n 1, 1) := by decide +kernel
theorem dX10_digest_130 : decode cX10_digest 130 = .ok (.lreturn, 1) := by decide +kernel
set_option maxRecDepth 20000 in
theorem ggX10_withWhatWouldBe_X5_nextBy : GoodIn wsX10_withWhatWouldBe wsX5_nextBy := goodIn_r _ [12, 13, 14, 15, 16, 17, 18, 11, 19, 20, 21, 22, 23, 24, 25, 26, 27, 28, 29, 30, 31, 32, 33, 34, 35, 36, 37, 38, 39, 40, 41, 42, 43, 44, 247, 248, 249, 250, 251, 252, 253, 254, 255, 256, 260, 261, 262, 263, 257, 258, 259, 264, 265, 266, 267, 268, 269, 270, 271, 272, 273, 274, 275, 276, 277, 278] (by decide +kernel) (by decide +kernel)
set_option maxRecDepth 20000 in
theorem gX10_withWhatWouldBe_X5_nextBy : GoodIn wsX10_withWhatWouldBe (wsV RX10 134 RX5 yX5_nextBy wsX5_nextBy) := goodIn_app (goodIn_of _ (by decide +kernel)) ggX10_withWhatWouldBe_X5_nextBy
set_option maxRecDepth 20000 in
theorem ggX10_withWhatWouldBe_X10_goBy : GoodIn wsX10_withWhatWouldBe wsX10_goBy := goodIn_r _ [49, 50, 2, 51, 52, 53, 11, 54, 20, 55, 56, 57, 58, 59, 60, 61, 31, 62, 63, 64, 65, 66, 67, 68, 69, 70, 71, 72, 73, 74, 75, 76, 77, 78, 9, 10, 12, 13, 14, 15, 16, 17, 18, 19, 21, 22, 23, 24, 25, 26, 27, 28, 29, 30, 32, 33, 34, 35, 36, 37, 38, 39, 40, 41, 42, 43, 44, 79, 80, 81, 82, 83, 84, 85, 86, 87, 88, 89, 90, 91, 92, 93, 94, 95, 96, 97, 98, 99, 100, 101, 102, 103, 104, 105, 106, 107, 108, 109, 110, 111, 112, 113, 114, 115, 116, 117, 118, 119, 120, 121, 122, 123, 124, 125, 126, 127, 128, 129, 130, 131, 132, 133, 134, 135, 136, 137, 138, 139, 140, 141, 142, 143, 144, 145, 146, 147, 236, 237, 238, 239, 240, 241, 242, 243, 244, 245, 246, 247, 248, 249, 250, 251, 252, 253, 254, 255, 256, 257, 258, 259, 260, 261, 262, 263, 264, 265, 266, 267, 268, 269, 270, 271, 272, 273, 274, 275, 276, 277, 278] (by decide +kernel) (by decide +kernel)
set_option maxRecDepth 20000 in
theorem gX10_withWhatWouldBe_X10_goBy : GoodIn wsX10_withWhatWouldBe (wsV RX10 138 RX10 yX10_goBy wsX10_goBy) := goodIn_app (goodIn_of _ (by decide +kernel)) ggX10_withWhatWouldBe_X10_goBy
set_option maxRecDepth 20000 in
theorem ggX10_withWhatWouldBe_X10_toldByLaw : GoodIn wsX10_withWhatWouldBe wsX10_toldByLaw := goodIn_r _ [151, 50, 2, 4, 152, 5, 153, 154, 155, 11, 156, 56, 236, 237, 238, 239, 240, 241, 242, 243, 244, 245, 246, 247, 248, 249, 250, 251, 252, 253, 254, 255, 256, 257, 258, 259] (by decide +kernel) (by decide +kernel)
set_option maxRecDepth 20000 in
theorem gX10_withWhatWouldBe_X10_toldByLaw : GoodIn wsX10_withWhatWouldBe (wsV RX10 141 RX10 yX10_toldByLaw wsX10_toldByLaw) := goodIn_app (goodIn_of _ (by decide +kernel)) ggX10_withWhatWouldBe_X10_toldByLaw
set_option maxRecDepth 20000 in
theorem ggX10_withWhatWouldBe_X7_seekBest : GoodIn wsX10_withWhatWouldBe wsX7_seekBest := goodIn_r _ [161, 162, 163, 164, 165, 17, 18, 11, 19, 20, 166, 167, 168, 160, 169, 170, 171, 172, 173, 174, 175, 176, 177, 71, 72, 65, 73, 67, 68, 69, 178, 179, 180, 181, 182, 183, 184, 185, 186, 187, 188, 189, 190, 191, 192, 193, 194, 22, 23, 24, 25, 26, 195, 196, 197, 198, 199, 40, 41, 42, 43, 44, 200, 63, 64, 66, 70, 201, 94, 95, 96, 97, 98, 36, 99, 100, 101, 35, 37, 102, 103, 104, 105, 106, 107, 108, 109, 110, 111, 112, 113, 114, 115, 116, 117, 118, 119, 120, 121, 122, 123, 124, 125, 126, 127, 128, 129, 130, 202, 132, 133, 134, 135, 136, 137, 203, 139, 140, 141, 142, 143, 144, 145, 146, 147, 279, 280, 281, 282, 283, 284, 285, 286, 287, 247, 248, 249, 250, 251, 252, 253, 254, 255, 256, 257, 258, 259, 260, 261, 262, 263, 264, 265, 266, 267, 268, 269, 270, 271, 272, 273, 274, 275, 276, 277, 278] (by decide +kernel) (by decide +kernel)
set_option maxRecDepth 20000 in
theorem gX10_withWhatWouldBe_X7_seekBest : GoodIn wsX10_withWhatWouldBe (wsV RX10 144 RX7 yX7_seekBest wsX7_seekBest) := goodIn_app (goodIn_of _ (by decide +kernel)) ggX10_withWhatWouldBe_X7_seekBest
set_option maxRecDepth 20000 in
theorem ggX10_withWhatWouldBe_X10_toldOfBest : GoodIn wsX10_withWhatWouldBe wsX10_toldOfBest := goodIn_r _ [207, 3, 208, 209, 210, 211, 212, 160, 213, 173, 192, 236, 237, 238, 239, 240, 241, 242, 243, 244, 245, 246, 279, 280, 281, 282, 283, 284, 285, 286, 287] (by decide +kernel) (by decide +kernel)
set_option maxRecDepth 20000 in
theorem gX10_withWhatWouldBe_X10_toldOfBest : GoodIn wsX10_withWhatWouldBe (wsV RX10 148 RX10 yX10_toldOfBest wsX10_toldOfBest) := goodIn_app (goodIn_of _ (by decide +kernel)) ggX10_withWhatWouldBe_X10_toldOfBest
set_option maxRecDepth 20000 in
theorem ggX10_withWhatWouldBe_X7_seekShortest : GoodIn wsX10_withWhatWouldBe wsX7_seekShortest := goodIn_r _ [217, 162, 163, 164, 218, 172, 165, 17, 18, 11, 19, 20, 166, 167, 168, 160, 169, 170, 171, 173, 174, 175, 176, 177, 71, 72, 65, 73, 67, 68, 69, 178, 179, 180, 181, 182, 183, 184, 185, 186, 187, 188, 189, 190, 191, 192, 193, 194, 22, 23, 24, 25, 26, 195, 196, 197, 198, 199, 40, 41, 42, 43, 44, 200, 63, 64, 66, 70, 201, 94, 95, 96, 97, 98, 36, 99, 100, 101, 35, 37, 102, 103, 104, 105, 106, 107, 108, 109, 110, 111, 112, 113, 114, 115, 116, 117, 118, 119, 120, 121, 122, 123, 124, 125, 126, 127, 128, 129, 130, 202, 132, 133, 134, 135, 136, 137, 203, 139, 140, 141, 142, 143, 144, 145, 146, 147, 279, 280, 281, 282, 283, 284, 285, 286, 287, 247, 248, 249, 250, 251, 252, 253, 254, 255, 256, 257, 258, 259, 260, 261, 262, 263, 264, 265, 266, 267, 268, 269, 270, 271, 272, 273, 274, 275, 276, 277, 278] (by decide +kernel) (by decide +kernel)
set_option maxRecDepth 20000 in
theorem gX10_withWhatWouldBe_X7_seekShortest : GoodIn wsX10_withWhatWouldBe (wsV RX10 151 RX7 yX7_seekShortest wsX7_seekShortest) := goodIn_app (goodIn_of _ (by decide +kernel)) ggX10_withWhatWouldBe_X7_seekShortest
set_option maxRecDepth 20000 in
theorem ggX10_withWhatWouldBe_X10_seekGuesses : GoodIn wsX10_withWhatWouldBe wsX10_seekGuesses := goodIn_r _ [222, 6, 7, 50, 2, 4, 51, 52, 53, 11, 54, 20, 55, 56, 57, 58, 59, 60, 61, 31, 62, 63, 64, 65, 66, 67, 68, 69, 70, 71, 72, 73, 223, 224, 225, 226, 227, 74, 75, 76, 77, 78, 9, 10, 12, 13, 14, 15, 16, 17, 18, 19, 21, 22, 23, 24, 25, 26, 27, 28, 29, 30, 32, 33, 34, 35, 36, 37, 38, 39, 40, 41, 42, 43, 44, 79, 80, 81, 82, 83, 84, 85, 86, 87, 88, 89, 90, 91, 92, 93, 94, 95, 96, 97, 98, 99, 100, 101, 102, 103, 104, 105, 106, 107, 108, 109, 110, 111, 112, 113, 114, 115, 116, 117, 118, 119, 120, 121, 122, 123, 124, 125, 126, 127, 128, 129, 130, 131, 132, 133, 134, 135, 136, 137, 138, 139, 140, 141, 142, 143, 144, 145, 146, 147, 228, 229, 230, 231, 232, 233, 234, 235, 236, 237, 238, 239, 240, 241, 242, 243, 244, 245, 246, 247, 248, 249, 250, 251, 252, 253, 254, 255, 256, 257, 258, 259, 260, 261, 262, 263, 264, 265, 266, 267, 268, 269, 270, 271, 272, 273, 274, 275, 276, 277, 278] (by decide +kernel) (by decide +kernel)
set_option maxRecDepth 20000 in
theorem gX10_withWhatWouldBe_X10_seekGuesses : GoodIn wsX10_withWhatWouldBe (wsV RX10 172 RX10 yX10_seekGuesses wsX10_seekGuesses) := goodIn_app (goodIn_of _ (by decide +kernel)) ggX10_withWhatWouldBe_X10_seekGuesses
theorem dX10_withWhatWouldBe_0 : decode cX10_withWhatWouldBe 0 = .ok (.lload_n 1, 1) := by decide +kernel
theorem dX10_withWhatWouldBe_1 : decode cX10_withWhatWouldBe 1 = .ok (.lstore_n 3, 1) := by decide +kernel
theorem dX10_withWhatWouldBe_2 : decode cX10_withWhatWouldBe 2 = .ok (.iconst 0, 1) := by decide +kernel
theorem dX10_withWhatWouldBe_3 : decode cX10_withWhatWouldBe 3 = .ok (.istore 5, 2) := by decide +kernel
theorem dX10_withWhatWouldBe_5 : decode cX10_withWhatWouldBe 5 = .ok (.iload 5, 2) := by decide +kernel
theorem dX10_withWhatWouldBe_7 : decode cX10_withWhatWouldBe 7 = .ok (.iconst 3, 1) := by decide +kernel
theorem dX10_withWhatWouldBe_8 : decode cX10_withWhatWouldBe 8 = .ok (.if_icmp .ge 61, 3) := by decide +kernel
theorem dX10_withWhatWouldBe_11 : decode cX10_withWhatWouldBe 11 = .ok (.ldc2_w 202, 3) := by decide +kernel
theorem dX10_withWhatWouldBe_14 : decode cX10_withWhatWouldBe 14 = .ok (.lload_n 3, 1) := by decide +kernel
theorem dX10_withWhatWouldBe_15 : decode cX10_withWhatWouldBe 15 = .ok (.lmul, 1) := by decide +kernel
theorem dX10_withWhatWouldBe_16 : decode cX10_withWhatWouldBe 16 = .ok (.aload_n 0, 1) := by decide +kernel
theorem dX10_withWhatWouldBe_17 : decode cX10_withWhatWouldBe 17 = .ok (.getfield 30, 3) := by decide +kernel
theorem dX10_withWhatWouldBe_20 : decode cX10_withWhatWouldBe 20 = .ok (.iload 5, 2) := by decide +kernel
theorem dX10_withWhatWouldBe_22 : decode cX10_withWhatWouldBe 22 = .ok (.invokevirtual 134, 3) := by decide +kernel
theorem dX10_withWhatWouldBe_25 : decode cX10_withWhatWouldBe 25 = .ok (.i2l, 1) := by decide +kernel
theorem dX10_withWhatWouldBe_26 : decode cX10_withWhatWouldBe 26 = .ok (.ladd, 1) := by decide +kernel
theorem dX10_withWhatWouldBe_27 : decode cX10_withWhatWouldBe 27 = .ok (.lstore_n 3, 1) := by decide +kernel
theorem dX10_withWhatWouldBe_28 : decode cX10_withWhatWouldBe 28 = .ok (.aload_n 0, 1) := by decide +kernel
theorem dX10_withWhatWouldBe_29 : decode cX10_withWhatWouldBe 29 = .ok (.iload 5, 2) := by decide +kernel
theorem dX10_withWhatWouldBe_31 : decode cX10_withWhatWouldBe 31 = .ok (.invokevirtual 138, 3) := by decide +kernel
theorem dX10_withWhatWouldBe_34 : decode cX10_withWhatWouldBe 34 = .ok (.iconst 0, 1) := by decide +kernel
theorem dX10_withWhatWouldBe_35 : decode cX10_withWhatWouldBe 35 = .ok (.istore 6, 2) := by decide +kernel
theorem dX10_withWhatWouldBe_37 : decode cX10_withWhatWouldBe 37 = .ok (.iload 6, 2) := by decide +kernel
theorem dX10_withWhatWouldBe_39 : decode cX10_withWhatWouldBe 39 = .ok (.iconst 2, 1) := by decide +kernel
theorem dX10_withWhatWouldBe_40 : decode cX10_withWhatWouldBe 40 = .ok (.if_icmp .gt 23, 3) := by decide +kernel
theorem dX10_withWhatWouldBe_43 : decode cX10_withWhatWouldBe 43 = .ok (.ldc2_w 202, 3) := by decide +kernel
theorem dX10_withWhatWouldBe_46 : decode cX10_withWhatWouldBe 46 = .ok (.lload_n 3, 1) := by decide +kernel
theorem dX10_withWhatWouldBe_47 : decode cX10_withWhatWouldBe 47 = .ok (.lmul, 1) := by decide +kernel
theorem dX10_withWhatWouldBe_48 : decode cX10_withWhatWouldBe 48 = .ok (.aload_n 0, 1) := by decide +kernel
theorem dX10_withWhatWouldBe_49 : decode cX10_withWhatWouldBe 49 = .ok (.iload 6, 2) := by decide +kernel
theorem dX10_withWhatWouldBe_51 : decode cX10_withWhatWouldBe 51 = .ok (.invokevirtual 141, 3) := by decide +kernel
theorem dX10_withWhatWouldBe_54 : decode cX10_withWhatWouldBe 54 = .ok (.i2l, 1) := by decide +kernel
theorem dX10_withWhatWouldBe_55 : decode cX10_withWhatWouldBe 55 = .ok (.ladd, 1) := by decide +kernel
theorem dX10_withWhatWouldBe_56 : decode cX10_withWhatWouldBe 56 = .ok (.lstore_n 3, 1) := by decide +kernel
theorem dX10_withWhatWouldBe_57 : decode cX10_withWhatWouldBe 57 = .ok (.iinc 6 1, 3) := by decide +kernel
theorem dX10_withWhatWouldBe_60 : decode cX10_withWhatWouldBe 60 = .ok (.goto (-23), 3) := by decide +kernel
theorem dX10_withWhatWouldBe_63 : decode cX10_withWhatWouldBe 63 = .ok (.iinc 5 1, 3) := by decide +kernel
theorem dX10_withWhatWouldBe_66 : decode cX10_withWhatWouldBe 66 = .ok (.goto (-61), 3) := by decide +kernel
theorem dX10_withWhatWouldBe_69 : decode cX10_withWhatWouldBe 69 = .ok (.aload_n 0, 1) := by decide +kernel
theorem dX10_withWhatWouldBe_70 : decode cX10_withWhatWouldBe 70 = .ok (.getfield 43, 3) := by decide +kernel
theorem dX10_withWhatWouldBe_73 : decode cX10_withWhatWouldBe 73 = .ok (.aload_n 0, 1) := by decide +kernel
theorem dX10_withWhatWouldBe_74 : decode cX10_withWhatWouldBe 74 = .ok (.getfield 30, 3) := by decide +kernel
theorem dX10_withWhatWouldBe_77 : decode cX10_withWhatWouldBe 77 = .ok (.aload_n 0, 1) := by decide +kernel
theorem dX10_withWhatWouldBe_78 : decode cX10_withWhatWouldBe 78 = .ok (.getfield 30, 3) := by decide +kernel
theorem dX10_withWhatWouldBe_81 : decode cX10_withWhatWouldBe 81 = .ok (.getfield 102, 3) := by decide +kernel
theorem dX10_withWhatWouldBe_84 : decode cX10_withWhatWouldBe 84 = .ok (.getfield 114, 3) := by decide +kernel
theorem dX10_withWhatWouldBe_87 : decode cX10_withWhatWouldBe 87 = .ok (.invokevirtual 144, 3) := by decide +kernel
theorem dX10_withWhatWouldBe_90 : decode cX10_withWhatWouldBe 90 = .ok (.ldc2_w 202, 3) := by decide +kernel
theorem dX10_withWhatWouldBe_93 : decode cX10_withWhatWouldBe 93 = .ok (.lload_n 3, 1) := by decide +kernel
theorem dX10_withWhatWouldBe_94 : decode cX10_withWhatWouldBe 94 = .ok (.lmul, 1) := by decide +kernel
theorem dX10_withWhatWouldBe_95 : decode cX10_withWhatWouldBe 95 = .ok (.aload_n 0, 1) := by decide +kernel
theorem dX10_withWhatWouldBe_96 : decode cX10_withWhatWouldBe 96 = .ok (.iconst 0, 1) := by decide +kernel
theorem dX10_withWhatWouldBe_97 : decode cX10_withWhatWouldBe 97 = .ok (.invokevirtual 148, 3) := by decide +kernel
theorem dX10_withWhatWouldBe_100 : decode cX10_withWhatWouldBe 100 = .ok (.i2l, 1) := by decide +kernel
theorem dX10_withWhatWouldBe_101 : decode cX10_withWhatWouldBe 101 = .ok (.ladd, 1) := by decide +kernel
theorem dX10_withWhatWouldBe_102 : decode cX10_withWhatWouldBe 102 = .ok (.lstore_n 3, 1) := by decide +kernel
theorem dX10_withWhatWouldBe_103 : decode cX10_withWhatWouldBe 103 = .ok (.ldc2_w 202, 3) := by decide +kernel
theorem dX10_withWhatWouldBe_106 : decode cX10_withWhatWouldBe 106 = .ok (.lload_n 3, 1) := by decide +kernel
theorem dX10_withWhatWouldBe_107 : decode cX10_withWhatWouldBe 107 = .ok (.lmul, 1) := by decide +kernel
theorem dX10_withWhatWouldBe_108 : decode cX10_withWhatWouldBe 108 = .ok (.aload_n 0, 1) := by decide +kernel
theorem dX10_withWhatWouldBe_109 : decode cX10_withWhatWouldBe 109 = .ok (.iconst 1, 1) := by decide +kernel
theorem dX10_withWhatWouldBe_110 : decode cX10_withWhatWouldBe 110 = .ok (.invokevirtual 148, 3) := by decide +kernel
theorem dX10_withWhatWouldBe_113 : decode cX10_withWhatWouldBe 113 = .ok (.i2l, 1) := by decide +kernel
theorem dX10_withWhatWouldBe_114 : decode cX10_withWhatWouldBe 114 = .ok (.ladd, 1) := by decide +kernel
theorem dX10_withWhatWouldBe_115 : decode cX10_withWhatWouldBe 115 = .ok (.lstore_n 3, 1) := by decide +kernel
theorem dX10_withWhatWouldBe_116 : decode cX10_withWhatWouldBe 116 = .ok (.ldc2_w 202, 3) := by decide +kernel
theorem dX10_withWhatWouldBe_119 : decode cX10_withWhatWouldBe 119 = .ok (.lload_n 3, 1) := by decide +kernel
theorem dX10_withWhatWouldBe_120 : decode cX10_withWhatWouldBe 120 = .ok (.lmul, 1) := by decide +kernel
theorem dX10_withWhatWouldBe_121 : decode cX10_withWhatWouldBe 121 = .ok (.aload_n 0, 1) := by decide +kernel
theorem dX10_withWhatWouldBe_122 : decode cX10_withWhatWouldBe 122 = .ok (.bipush 10, 2) := by decide +kernel
theorem dX10_withWhatWouldBe_124 : decode cX10_withWhatWouldBe 124 = .ok (.invokevirtual 148, 3) := by decide +kernel
theorem dX10_withWhatWouldBe_127 : decode cX10_withWhatWouldBe 127 = .ok (.i2l, 1) := by decide +kernel
theorem dX10_withWhatWouldBe_128 : decode cX10_withWhatWouldBe 128 = .ok (.ladd, 1) := by decide +kernel
theorem dX10_withWhatWouldBe_129 : decode cX10_withWhatWouldBe 129 = .ok (.lstore_n 3, 1) := by decide +kernel
theorem dX10_withWhatWouldBe_130 : decode cX10_withWhatWouldBe 130 = .ok (.ldc2_w 202, 3) := by decide +kernel
theorem dX10_withWhatWouldBe_133 : decode cX10_withWhatWouldBe 133 = .ok (.lload_n 3, 1) := by decide +kernel
theorem dX10_withWhatWouldBe_134 : decode cX10_withWhatWouldBe 134 = .ok (.lmul, 1) := by decide +kernel
theorem dX10_withWhatWouldBe_135 : decode cX10_withWhatWouldBe 135 = .ok (.aload_n 0, 1) := by decide +kernel
theorem dX10_withWhatWouldBe_136 : decode cX10_withWhatWouldBe 136 = .ok (.getfield 43, 3) := by decide +kernel
theorem dX10_withWhatWouldBe_139 : decode cX10_withWhatWouldBe 139 = .ok (.aload_n 0, 1) := by decide +kernel
theorem dX10_withWhatWouldBe_140 : decode cX10_withWhatWouldBe 140 = .ok (.getfield 30, 3) := by decide +kernel
theorem dX10_withWhatWouldBe_143 : decode cX10_withWhatWouldBe 143 = .ok (.invokevirtual 151, 3) := by decide +kernel
theorem dX10_withWhatWouldBe_146 : decode cX10_withWhatWouldBe 146 = .ok (.i2l, 1) := by decide +kernel
theorem dX10_withWhatWouldBe_147 : decode cX10_withWhatWouldBe 147 = .ok (.ladd, 1) := by decide +kernel
theorem dX10_withWhatWouldBe_148 : decode cX10_withWhatWouldBe 148 = .ok (.lstore_n 3, 1) := by decide +kernel
theorem dX10_withWhatWouldBe_149 : decode cX10_withWhatWouldBe 149 = .ok (.aload_n 0, 1) := by decide +kernel
theorem dX10_withWhatWouldBe_150 : decode cX10_withWhatWouldBe 150 = .ok (.invokevirtual 172, 3) := by decide +kernel
theorem dX10_withWhatWouldBe_153 : decode cX10_withWhatWouldBe 153 = .ok (.ldc2_w 202, 3) := by decide +kernel
theorem dX10_withWhatWouldBe_156 : decode cX10_withWhatWouldBe 156 = .ok (.lload_n 3, 1) := by decide +kernel
theorem dX10_withWhatWouldBe_157 : decode cX10_withWhatWouldBe 157 = .ok (.lmul, 1) := by decide +kernel
theorem dX10_withWhatWouldBe_158 : decode cX10_withWhatWouldBe 158 = .ok (.aload_n 0, 1) := by decide +kernel
theorem dX10_withWhatWouldBe_159 : decode cX10_withWhatWouldBe 159 = .ok (.getfield 175, 3) := by decide +kernel
theorem dX10_withWhatWouldBe_162 : decode cX10_withWhatWouldBe 162 = .ok (.i2l, 1) := by decide +kernel
theorem dX10_withWhatWouldBe_163 : decode cX10_withWhatWouldBe 163 = .ok (.ladd, 1) := by decide +kernel
theorem dX10_withWhatWouldBe_164 : decode cX10_withWhatWouldBe 164 = .ok (.lstore_n 3, 1) := by decide +kernel
theorem dX10_withWhatWouldBe_165 : decode cX10_withWhatWouldBe 165 = .ok (.ldc2_w 202, 3) := by decide +kernel
theorem dX10_withWhatWouldBe_168 : decode cX10_withWhatWouldBe 168 = .ok (.lload_n 3, 1) := by decide +kernel
theorem dX10_withWhatWouldBe_169 : decode cX10_withWhatWouldBe 169 = .ok (.lmul, 1) := by decide +kernel
theorem dX10_withWhatWouldBe_170 : decode cX10_withWhatWouldBe 170 = .ok (.aload_n 0, 1) := by decide +kernel
theorem dX10_withWhatWouldBe_171 : decode cX10_withWhatWouldBe 171 = .ok (.getfield 178, 3) := by decide +kernel
theorem dX10_withWhatWouldBe_174 : decode cX10_withWhatWouldBe 174 = .ok (.i2l, 1) := by decide +kernel
theorem dX10_withWhatWouldBe_175 : decode cX10_withWhatWouldBe 175 = .ok (.ladd, 1) := by decide +kernel
theorem dX10_withWhatWouldBe_176 : decode cX10_withWhatWouldBe 176 = .ok (.lreturn, 1) := by decide +kernel
theorem dX10_hasTown_0 : decode cX10_hasTown 0 = .ok (.aload_n 0, 1) := by decide +kernel
theorem dX10_hasTown_1 : decode cX10_hasTown 1 = .ok (.getfield 21, 3) := by decide +kernel
theorem dX10_hasTown_4 : decode cX10_hasTown 4 = .ok (.getfield 77, 3) := by decide +kernel
theorem dX10_hasTown_7 : decode cX10_hasTown 7 = .ok (.ifCond .le 7, 3) := by decide +kernel
theorem dX10_hasTown_10 : decode cX10_hasTown 10 = .ok (.iconst 1, 1) := by decide +kernel
theorem dX10_hasTown_11 : decode cX10_hasTown 11 = .ok (.goto 4, 3) := by decide +kernel
theorem dX10_hasTown_14 : decode cX10_hasTown 14 = .ok (.iconst 0, 1) := by decide +kernel
theorem dX10_hasTown_15 : decode cX10_hasTown 15 = .ok (.ireturn, 1) := by decide +kernel
theorem dX10_isLaw_0 : decode cX10_isLaw 0 = .ok (.iload_n 0, 1) := by decide +kernel
theorem dX10_isLaw_1 : decode cX10_isLaw 1 = .ok (.ifCond .lt 12, 3) := by decide +kernel
theorem dX10_isLaw_4 : decode cX10_isLaw 4 = .ok (.iload_n 0, 1) := by decide +kernel
theorem dX10_isLaw_5 : decode cX10_isLaw 5 = .ok (.iconst 3, 1) := by decide +kernel
theorem dX10_isLaw_6 : decode cX10_isLaw 6 = .ok (.if_icmp .ge 7, 3) := by decide +kernel
theorem dX10_isLaw_9 : decode cX10_isLaw 9 = .ok (.iconst 1, 1) := by decide +kernel
theorem dX10_isLaw_10 : decode cX10_isLaw 10 = .ok (.goto 4, 3) := by decide +kernel
theorem dX10_isLaw_13 : decode cX10_isLaw 13 = .ok (.iconst 0, 1) := by decide +kernel
theorem dX10_isLaw_14 : decode cX10_isLaw 14 = .ok (.ireturn, 1) := by decide +kernel
theorem dX10_isSuch_0 : decode cX10_isSuch 0 = .ok (.iload_n 1, 1) := by decide +kernel
theorem dX10_isSuch_1 : decode cX10_isSuch 1 = .ok (.tableswitch 51 1 4 #[31, 36, 41, 46], 31) := by decide +kernel
theorem dX10_isSuch_32 : decode cX10_isSuch 32 = .ok (.aload_n 0, 1) := by decide +kernel
theorem dX10_isSuch_33 : decode cX10_isSuch 33 = .ok (.instanceof 214, 3) := by decide +kernel
theorem dX10_isSuch_36 : decode cX10_isSuch 36 = .ok (.ireturn, 1) := by decide +kernel
theorem dX10_isSuch_37 : decode cX10_isSuch 37 = .ok (.aload_n 0, 1) := by decide +kernel
theorem dX10_isSuch_38 : decode cX10_isSuch 38 = .ok (.instanceof 216, 3) := by decide +kernel
theorem dX10_isSuch_41 : decode cX10_isSuch 41 = .ok (.ireturn, 1) := by decide +kernel
theorem dX10_isSuch_42 : decode cX10_isSuch 42 = .ok (.aload_n 0, 1) := by decide +kernel
theorem dX10_isSuch_43 : decode cX10_isSuch 43 = .ok (.instanceof 218, 3) := by decide +kernel
theorem dX10_isSuch_46 : decode cX10_isSuch 46 = .ok (.ireturn, 1) := by decide +kernel
theorem dX10_isSuch_47 : decode cX10_isSuch 47 = .ok (.aload_n 0, 1) := by decide +kernel
theorem dX10_isSuch_48 : decode cX10_isSuch 48 = .ok (.instanceof 220, 3) := by decide +kernel
theorem dX10_isSuch_51 : decode cX10_isSuch 51 = .ok (.ireturn, 1) := by decide +kernel
theorem dX10_isSuch_52 : decode cX10_isSuch 52 = .ok (.iconst 1, 1) := by decide +kernel
theorem dX10_isSuch_53 : decode cX10_isSuch 53 = .ok (.ireturn, 1) := by decide +kernel
set_option maxRecDepth 20000 in
theorem ggX10_toldOf_X8_at : GoodIn wsX10_toldOf wsX8_at := goodIn_r _ [14, 15, 16, 77, 78, 79, 80] (by decide +kernel) (by decide +kernel)
set_option maxRecDepth 20000 in
theorem gX10_toldOf_X8_at : GoodIn wsX10_toldOf (wsV RX10 87 RX8 yX8_at wsX8_at) := goodIn_app (goodIn_of _ (by decide +kernel)) ggX10_toldOf_X8_at
set_option maxRecDepth 20000 in
theorem ggX10_toldOf_X0_kind : GoodIn wsX10_toldOf wsX0_kind := goodIn_r _ [21] (by decide +kernel) (by decide +kernel)
set_option maxRecDepth 20000 in
theorem gX10_toldOf_X0_kind : GoodIn wsX10_toldOf (wsV RX10 222 RX0 yX0_kind wsX0_kind) := goodIn_app (goodIn_of _ (by decide +kernel)) ggX10_toldOf_X0_kind
set_option maxRecDepth 20000 in
theorem ggX10_toldOf_X1_kind : GoodIn wsX10_toldOf wsX1_kind := goodIn_r _ [28] (by decide +kernel) (by decide +kernel)
set_option maxRecDepth 20000 in
theorem gX10_toldOf_X1_kind_u222X1 : GoodIn wsX10_toldOf (va_wsO RX10 222 RX1 "KeyOnStreet$House" ⟨"KeyOnStreet$House", "kind", "()I"⟩ yX1_kind wsX1_kind) := goodIn_app (goodIn_of _ (by decide +kernel)) ggX10_toldOf_X1_kind
set_option maxRecDepth 20000 in
theorem ggX10_toldOf_X3_kind : GoodIn wsX10_toldOf wsX3_kind := goodIn_r _ [32] (by decide +kernel) (by decide +kernel)
set_option maxRecDepth 20000 in
theorem gX10_toldOf_X3_kind_u222X3 : GoodIn wsX10_toldOf (va_wsO RX10 222 RX3 "KeyOnStreet$House" ⟨"KeyOnStreet$House", "kind", "()I"⟩ yX3_kind wsX3_kind) := goodIn_app (goodIn_of _ (by decide +kernel)) ggX10_toldOf_X3_kind
set_option maxRecDepth 20000 in
theorem ggX10_toldOf_X4_kind : GoodIn wsX10_toldOf wsX4_kind := goodIn_r _ [36] (by decide +kernel) (by decide +kernel)
set_option maxRecDepth 20000 in
theorem gX10_toldOf_X4_kind_u222X4 : GoodIn wsX10_toldOf (va_wsO RX10 222 RX4 "KeyOnStreet$House" ⟨"KeyOnStreet$House", "kind", "()I"⟩ yX4_kind wsX4_kind) := goodIn_app (goodIn_of _ (by decide +kernel)) ggX10_toldOf_X4_kind
set_option maxRecDepth 20000 in
theorem ggX10_toldOf_X9_kind : GoodIn wsX10_toldOf wsX9_kind := goodIn_r _ [40] (by decide +kernel) (by decide +kernel)
set_option maxRecDepth 20000 in
theorem gX10_toldOf_X9_kind_u222X9 : GoodIn wsX10_toldOf (va_wsO RX10 222 RX9 "KeyOnStreet$House" ⟨"KeyOnStreet$House", "kind", "()I"⟩ yX9_kind wsX9_kind) := goodIn_app (goodIn_of _ (by decide +kernel)) ggX10_toldOf_X9_kind
theorem dX10_toldOf_0 : decode cX10_toldOf 0 = .ok (.aload_n 0, 1) := by decide +kernel
theorem dX10_toldOf_1 : decode cX10_toldOf 1 = .ok (.getfield 21, 3) := by decide +kernel
theorem dX10_toldOf_4 : decode cX10_toldOf 4 = .ok (.iload_n 1, 1) := by decide +kernel
theorem dX10_toldOf_5 : decode cX10_toldOf 5 = .ok (.invokevirtual 87, 3) := by decide +kernel
theorem dX10_toldOf_8 : decode cX10_toldOf 8 = .ok (.astore_n 3, 1) := by decide +kernel
theorem dX10_toldOf_9 : decode cX10_toldOf 9 = .ok (.iload_n 2, 1) := by decide +kernel
theorem dX10_toldOf_10 : decode cX10_toldOf 10 = .ok (.tableswitch 92 0 6 #[42, 47, 52, 57, 62, 72, 82], 42) := by decide +kernel
theorem dX10_toldOf_52 : decode cX10_toldOf 52 = .ok (.aload_n 3, 1) := by decide +kernel
theorem dX10_toldOf_53 : decode cX10_toldOf 53 = .ok (.invokevirtual 222, 3) := by decide +kernel
theorem dX10_toldOf_56 : decode cX10_toldOf 56 = .ok (.ireturn, 1) := by decide +kernel
theorem dX10_toldOf_57 : decode cX10_toldOf 57 = .ok (.aload_n 3, 1) := by decide +kernel
theorem dX10_toldOf_58 : decode cX10_toldOf 58 = .ok (.getfield 227, 3) := by decide +kernel
theorem dX10_toldOf_61 : decode cX10_toldOf 61 = .ok (.ireturn, 1) := by decide +kernel
theorem dX10_toldOf_62 : decode cX10_toldOf 62 = .ok (.aload_n 3, 1) := by decide +kernel
theorem dX10_toldOf_63 : decode cX10_toldOf 63 = .ok (.getfield 228, 3) := by decide +kernel
theorem dX10_toldOf_66 : decode cX10_toldOf 66 = .ok (.ireturn, 1) := by decide +kernel
theorem dX10_toldOf_67 : decode cX10_toldOf 67 = .ok (.aload_n 3, 1) := by decide +kernel
theorem dX10_toldOf_68 : decode cX10_toldOf 68 = .ok (.getfield 231, 3) := by decide +kernel
theorem dX10_toldOf_71 : decode cX10_toldOf 71 = .ok (.ireturn, 1) := by decide +kernel
theorem dX10_toldOf_72 : decode cX10_toldOf 72 = .ok (.aload_n 0, 1) := by decide +kernel
theorem dX10_toldOf_73 : decode cX10_toldOf 73 = .ok (.getfield 30, 3) := by decide +kernel
theorem dX10_toldOf_76 : decode cX10_toldOf 76 = .ok (.getfield 98, 3) := by decide +kernel
theorem dX10_toldOf_79 : decode cX10_toldOf 79 = .ok (.iload_n 1, 1) := by decide +kernel
theorem dX10_toldOf_80 : decode cX10_toldOf 80 = .ok (.iaload, 1) := by decide +kernel
theorem dX10_toldOf_81 : decode cX10_toldOf 81 = .ok (.ireturn, 1) := by decide +kernel
theorem dX10_toldOf_82 : decode cX10_toldOf 82 = .ok (.aload_n 0, 1) := by decide +kernel
theorem dX10_toldOf_83 : decode cX10_toldOf 83 = .ok (.getfield 30, 3) := by decide +kernel
theorem dX10_toldOf_86 : decode cX10_toldOf 86 = .ok (.getfield 234, 3) := by decide +kernel
theorem dX10_toldOf_89 : decode cX10_toldOf 89 = .ok (.iload_n 1, 1) := by decide +kernel
theorem dX10_toldOf_90 : decode cX10_toldOf 90 = .ok (.iaload, 1) := by decide +kernel
theorem dX10_toldOf_91 : decode cX10_toldOf 91 = .ok (.ireturn, 1) := by decide +kernel
theorem dX10_toldOf_92 : decode cX10_toldOf 92 = .ok (.aload_n 0, 1) := by decide +kernel
theorem dX10_toldOf_93 : decode cX10_toldOf 93 = .ok (.getfield 30, 3) := by decide +kernel
theorem dX10_toldOf_96 : decode cX10_toldOf 96 = .ok (.getfield 237, 3) := by decide +kernel
theorem dX10_toldOf_99 : decode cX10_toldOf 99 = .ok (.iload_n 1, 1) := by decide +kernel
theorem dX10_toldOf_100 : decode cX10_toldOf 100 = .ok (.iaload, 1) := by decide +kernel
theorem dX10_toldOf_101 : decode cX10_toldOf 101 = .ok (.ireturn, 1) := by decide +kernel
theorem dX10_toldOf_102 : decode cX10_toldOf 102 = .ok (.aload_n 0, 1) := by decide +kernel
theorem dX10_toldOf_103 : decode cX10_toldOf 103 = .ok (.getfield 30, 3) := by decide +kernel
theorem dX10_toldOf_106 : decode cX10_toldOf 106 = .ok (.getfield 240, 3) := by decide +kernel
theorem dX10_toldOf_109 : decode cX10_toldOf 109 = .ok (.iload_n 1, 1) := by decide +kernel
theorem dX10_toldOf_110 : decode cX10_toldOf 110 = .ok (.iaload, 1) := by decide +kernel
theorem dX10_toldOf_111 : decode cX10_toldOf 111 = .ok (.ireturn, 1) := by decide +kernel
set_option maxRecDepth 20000 in
theorem ggX10_goBy_X5_copyFrom : GoodIn wsX10_goBy wsX5_copyFrom := goodIn_r _ [7, 8, 9, 10, 11, 12, 13, 14, 15, 16, 17, 18, 19, 20, 21, 22, 23, 24, 25, 26, 27, 28, 147, 148, 149, 150, 151, 152, 153, 154, 155, 156, 157, 158, 159] (by decide +kernel) (by decide +kernel)
set_option maxRecDepth 20000 in
theorem gX10_goBy_X5_copyFrom : GoodIn wsX10_goBy (wsV RX10 187 RX5 yX5_copyFrom wsX5_copyFrom) := goodIn_app (goodIn_of _ (by decide +kernel)) ggX10_goBy_X5_copyFrom
set_option maxRecDepth 20000 in
theorem ggX10_goBy_X5_letAllIn : GoodIn wsX10_goBy wsX5_letAllIn := goodIn_r _ [32, 33, 34, 35, 6, 36, 37, 38, 39, 40, 41, 42, 43, 8, 44, 45, 46, 47, 48, 49, 50, 51, 52, 53, 16, 54, 55, 56, 57, 58, 59, 60, 61, 62, 63, 64, 65, 66, 67, 68, 69, 70, 9, 71, 10, 72, 73, 74, 75, 76, 77, 78, 79, 80, 81, 82, 83, 20, 84, 23, 24, 85, 86, 87, 22, 88, 89, 90, 91, 92, 93, 94, 95, 96, 97, 98, 99, 100, 101, 102, 103, 104, 105, 106, 107, 108, 109, 110, 111, 112, 113, 114, 115, 116, 117, 118, 25, 26, 27, 28, 119, 120, 121, 122, 123, 124, 125, 126, 127, 128, 129, 130, 131, 132, 133, 134, 135, 147, 148, 149, 150, 151, 152, 153, 154, 155, 156, 160, 161, 162, 163, 157, 158, 159, 164, 165, 166, 167, 168, 169, 170, 171, 172, 173, 174, 175, 176, 177, 178] (by decide +kernel) (by decide +kernel)
set_option maxRecDepth 20000 in
theorem gX10_goBy_X5_letAllIn : GoodIn wsX10_goBy (wsV RX10 243 RX5 yX5_letAllIn wsX5_letAllIn) := goodIn_app (goodIn_of _ (by decide +kernel)) ggX10_goBy_X5_letAllIn
theorem dX10_goBy_0 : decode cX10_goBy 0 = .ok (.aload_n 0, 1) := by decide +kernel
theorem dX10_goBy_1 : decode cX10_goBy 1 = .ok (.getfield 37, 3) := by decide +kernel
theorem dX10_goBy_4 : decode cX10_goBy 4 = .ok (.aload_n 0, 1) := by decide +kernel
theorem dX10_goBy_5 : decode cX10_goBy 5 = .ok (.getfield 30, 3) := by decide +kernel
theorem dX10_goBy_8 : decode cX10_goBy 8 = .ok (.invokevirtual 187, 3) := by decide +kernel
theorem dX10_goBy_11 : decode cX10_goBy 11 = .ok (.aload_n 0, 1) := by decide +kernel
theorem dX10_goBy_12 : decode cX10_goBy 12 = .ok (.getfield 37, 3) := by decide +kernel
theorem dX10_goBy_15 : decode cX10_goBy 15 = .ok (.iload_n 1, 1) := by decide +kernel
theorem dX10_goBy_16 : decode cX10_goBy 16 = .ok (.invokevirtual 243, 3) := by decide +kernel
theorem dX10_goBy_19 : decode cX10_goBy 19 = .ok (.return_, 1) := by decide +kernel
set_option maxRecDepth 20000 in
theorem ggX10_toldByLaw_X5_lateOfAll : GoodIn wsX10_toldByLaw wsX5_lateOfAll := goodIn_r _ [10, 11, 23, 24, 25, 26, 27, 28, 29, 30, 31, 32] (by decide +kernel) (by decide +kernel)
set_option maxRecDepth 20000 in
theorem gX10_toldByLaw_X5_lateOfAll : GoodIn wsX10_toldByLaw (wsV RX10 184 RX5 yX5_lateOfAll wsX5_lateOfAll) := goodIn_app (goodIn_of _ (by decide +kernel)) ggX10_toldByLaw_X5_lateOfAll
theorem dX10_toldByLaw_0 : decode cX10_toldByLaw 0 = .ok (.iload_n 1, 1) := by decide +kernel
theorem dX10_toldByLaw_1 : decode cX10_toldByLaw 1 = .ok (.lookupswitch 54 #[(0, 27), (1, 43)], 27) := by decide +kernel
theorem dX10_toldByLaw_28 : decode cX10_toldByLaw 28 = .ok (.aload_n 0, 1) := by decide +kernel
theorem dX10_toldByLaw_29 : decode cX10_toldByLaw 29 = .ok (.getfield 37, 3) := by decide +kernel
theorem dX10_toldByLaw_32 : decode cX10_toldByLaw 32 = .ok (.invokevirtual 184, 3) := by decide +kernel
theorem dX10_toldByLaw_35 : decode cX10_toldByLaw 35 = .ok (.aload_n 0, 1) := by decide +kernel
theorem dX10_toldByLaw_36 : decode cX10_toldByLaw 36 = .ok (.getfield 30, 3) := by decide +kernel
theorem dX10_toldByLaw_39 : decode cX10_toldByLaw 39 = .ok (.invokevirtual 184, 3) := by decide +kernel
theorem dX10_toldByLaw_42 : decode cX10_toldByLaw 42 = .ok (.isub, 1) := by decide +kernel
theorem dX10_toldByLaw_43 : decode cX10_toldByLaw 43 = .ok (.ireturn, 1) := by decide +kernel
theorem dX10_toldByLaw_44 : decode cX10_toldByLaw 44 = .ok (.aload_n 0, 1) := by decide +kernel
theorem dX10_toldByLaw_45 : decode cX10_toldByLaw 45 = .ok (.getfield 37, 3) := by decide +kernel
theorem dX10_toldByLaw_48 : decode cX10_toldByLaw 48 = .ok (.getfield 102, 3) := by decide +kernel
theorem dX10_toldByLaw_51 : decode cX10_toldByLaw 51 = .ok (.getfield 106, 3) := by decide +kernel
theorem dX10_toldByLaw_54 : decode cX10_toldByLaw 54 = .ok (.ireturn, 1) := by decide +kernel
theorem dX10_toldByLaw_55 : decode cX10_toldByLaw 55 = .ok (.aload_n 0, 1) := by decide +kernel
theorem dX10_toldByLaw_56 : decode cX10_toldByLaw 56 = .ok (.getfield 37, 3) := by decide +kernel
theorem dX10_toldByLaw_59 : decode cX10_toldByLaw 59 = .ok (.getfield 102, 3) := by decide +kernel
theorem dX10_toldByLaw_62 : decode cX10_toldByLaw 62 = .ok (.getfield 114, 3) := by decide +kernel
theorem dX10_toldByLaw_65 : decode cX10_toldByLaw 65 = .ok (.ireturn, 1) := by decide +kernel
set_option maxRecDepth 20000 in
theorem ggX10_toldOfBest_X7_bestHouse : GoodIn wsX10_toldOfBest wsX7_bestHouse := goodIn_r _ [8, 9, 10, 22, 23, 24, 25, 26, 27, 28, 29, 30] (by decide +kernel) (by decide +kernel)
set_option maxRecDepth 20000 in
theorem gX10_toldOfBest_X7_bestHouse : GoodIn wsX10_toldOfBest (wsV RX10 249 RX7 yX7_bestHouse wsX7_bestHouse) := goodIn_app (goodIn_of _ (by decide +kernel)) ggX10_toldOfBest_X7_bestHouse
theorem dX10_toldOfBest_0 : decode cX10_toldOfBest 0 = .ok (.iload_n 1, 1) := by decide +kernel
theorem dX10_toldOfBest_1 : decode cX10_toldOfBest 1 = .ok (.lookupswitch 43 #[(0, 27), (1, 35)], 27) := by decide +kernel
theorem dX10_toldOfBest_28 : decode cX10_toldOfBest 28 = .ok (.aload_n 0, 1) := by decide +kernel
theorem dX10_toldOfBest_29 : decode cX10_toldOfBest 29 = .ok (.getfield 43, 3) := by decide +kernel
theorem dX10_toldOfBest_32 : decode cX10_toldOfBest 32 = .ok (.getfield 159, 3) := by decide +kernel
theorem dX10_toldOfBest_35 : decode cX10_toldOfBest 35 = .ok (.ireturn, 1) := by decide +kernel
theorem dX10_toldOfBest_36 : decode cX10_toldOfBest 36 = .ok (.aload_n 0, 1) := by decide +kernel
theorem dX10_toldOfBest_37 : decode cX10_toldOfBest 37 = .ok (.getfield 43, 3) := by decide +kernel
theorem dX10_toldOfBest_40 : decode cX10_toldOfBest 40 = .ok (.getfield 246, 3) := by decide +kernel
theorem dX10_toldOfBest_43 : decode cX10_toldOfBest 43 = .ok (.ireturn, 1) := by decide +kernel
theorem dX10_toldOfBest_44 : decode cX10_toldOfBest 44 = .ok (.aload_n 0, 1) := by decide +kernel
theorem dX10_toldOfBest_45 : decode cX10_toldOfBest 45 = .ok (.getfield 43, 3) := by decide +kernel
theorem dX10_toldOfBest_48 : decode cX10_toldOfBest 48 = .ok (.iload_n 1, 1) := by decide +kernel
theorem dX10_toldOfBest_49 : decode cX10_toldOfBest 49 = .ok (.bipush 10, 2) := by decide +kernel
theorem dX10_toldOfBest_51 : decode cX10_toldOfBest 51 = .ok (.isub, 1) := by decide +kernel
theorem dX10_toldOfBest_52 : decode cX10_toldOfBest 52 = .ok (.invokevirtual 249, 3) := by decide +kernel
theorem dX10_toldOfBest_55 : decode cX10_toldOfBest 55 = .ok (.ireturn, 1) := by decide +kernel
set_option maxRecDepth 20000 in
theorem ggX10_seekGuesses_X5_copyFrom : GoodIn wsX10_seekGuesses wsX5_copyFrom := goodIn_r _ [10, 11, 12, 13, 14, 15, 16, 17, 18, 19, 20, 21, 22, 23, 24, 25, 26, 27, 28, 29, 30, 31, 163, 164, 165, 166, 167, 168, 169, 170, 171, 172, 173, 174, 175] (by decide +kernel) (by decide +kernel)
set_option maxRecDepth 20000 in
theorem gX10_seekGuesses_X5_copyFrom : GoodIn wsX10_seekGuesses (wsV RX10 187 RX5 yX5_copyFrom wsX5_copyFrom) := goodIn_app (goodIn_of _ (by decide +kernel)) ggX10_seekGuesses_X5_copyFrom
set_option maxRecDepth 20000 in
theorem ggX10_seekGuesses_X5_nobodyWasIn : GoodIn wsX10_seekGuesses wsX5_nobodyWasIn := goodIn_r _ [35, 12, 163, 164, 165, 166, 167, 168, 169, 170, 171, 172] (by decide +kernel) (by decide +kernel)
set_option maxRecDepth 20000 in
theorem gX10_seekGuesses_X5_nobodyWasIn : GoodIn wsX10_seekGuesses (wsV RX10 252 RX5 yX5_nobodyWasIn wsX5_nobodyWasIn) := goodIn_app (goodIn_of _ (by decide +kernel)) ggX10_seekGuesses_X5_nobodyWasIn
set_option maxRecDepth 20000 in
theorem ggX10_seekGuesses_X2_put : GoodIn wsX10_seekGuesses wsX2_put := goodIn_r _ [31, 25, 26, 27, 173, 174, 175] (by decide +kernel) (by decide +kernel)
set_option maxRecDepth 20000 in
theorem gX10_seekGuesses_X2_put : GoodIn wsX10_seekGuesses (wsV RX10 117 RX2 yX2_put wsX2_put) := goodIn_app (goodIn_of _ (by decide +kernel)) ggX10_seekGuesses_X2_put
set_option maxRecDepth 20000 in
theorem ggX10_seekGuesses_X5_letAllIn : GoodIn wsX10_seekGuesses wsX5_letAllIn := goodIn_r _ [40, 41, 42, 43, 9, 44, 45, 46, 47, 48, 49, 50, 51, 11, 52, 53, 54, 55, 56, 57, 58, 59, 60, 61, 19, 62, 63, 64, 65, 66, 67, 68, 69, 70, 71, 72, 73, 74, 75, 76, 77, 78, 12, 79, 13, 80, 81, 82, 83, 84, 85, 86, 87, 88, 89, 90, 91, 23, 92, 26, 27, 93, 94, 95, 25, 96, 97, 98, 99, 100, 101, 102, 103, 104, 105, 106, 107, 108, 109, 110, 111, 112, 113, 114, 115, 116, 117, 118, 119, 120, 121, 122, 123, 124, 125, 126, 28, 29, 30, 31, 127, 128, 129, 130, 131, 132, 133, 134, 135, 136, 137, 138, 139, 140, 141, 142, 143, 163, 164, 165, 166, 167, 168, 169, 170, 171, 172, 176, 177, 178, 179, 173, 174, 175, 180, 181, 182, 183, 184, 185, 186, 187, 188, 189, 190, 191, 192, 193, 194] (by decide +kernel) (by decide +kernel)
set_option maxRecDepth 20000 in
theorem gX10_seekGuesses_X5_letAllIn : GoodIn wsX10_seekGuesses (wsV RX10 243 RX5 yX5_letAllIn wsX5_letAllIn) := goodIn_app (goodIn_of _ (by decide +kernel)) ggX10_seekGuesses_X5_letAllIn
set_option maxRecDepth 20000 in
theorem ggX10_seekGuesses_X5_isAsSeen : GoodIn wsX10_seekGuesses wsX5_isAsSeen := goodIn_r _ [147, 18, 15, 16, 17, 148, 149, 150, 9, 151, 45, 12, 84, 85, 86, 55, 87, 88, 163, 164, 165, 166, 167, 168, 169, 170, 171, 172, 176, 177, 178, 179] (by decide +kernel) (by decide +kernel)
