theorem dX0_init_0 : decode cX0_init 0 = .ok (.aload_n 0, 1) := by decide +kernel
theorem dX0_init_1 : decode cX0_init 1 = .ok (.invokespecial 1, 3) := by decide +kernel
theorem dX0_init_4 : decode cX0_init 4 = .ok (.aload_n 0, 1) := by decide +kernel
theorem dX0_init_5 : decode cX0_init 5 = .ok (.iload_n 1, 1) := by decide +kernel
theorem dX0_init_6 : decode cX0_init 6 = .ok (.putfield 7, 3) := by decide +kernel
theorem dX0_init_9 : decode cX0_init 9 = .ok (.aload_n 0, 1) := by decide +kernel
theorem dX0_init_10 : decode cX0_init 10 = .ok (.iload_n 2, 1) := by decide +kernel
theorem dX0_init_11 : decode cX0_init 11 = .ok (.putfield 13, 3) := by decide +kernel
theorem dX0_init_14 : decode cX0_init 14 = .ok (.aload_n 0, 1) := by decide +kernel
theorem dX0_init_15 : decode cX0_init 15 = .ok (.iload_n 3, 1) := by decide +kernel
theorem dX0_init_16 : decode cX0_init 16 = .ok (.putfield 16, 3) := by decide +kernel
theorem dX0_init_19 : decode cX0_init 19 = .ok (.return_, 1) := by decide +kernel
theorem dX0_kind_0 : decode cX0_kind 0 = .ok (.iconst 0, 1) := by decide +kernel
theorem dX0_kind_1 : decode cX0_kind 1 = .ok (.ireturn, 1) := by decide +kernel
theorem dX0_openingTakes_0 : decode cX0_openingTakes 0 = .ok (.iconst 1, 1) := by decide +kernel
theorem dX0_openingTakes_1 : decode cX0_openingTakes 1 = .ok (.ireturn, 1) := by decide +kernel
theorem dX0_keepsKeyUntil_0 : decode cX0_keepsKeyUntil 0 = .ok (.iconst 0, 1) := by decide +kernel
theorem dX0_keepsKeyUntil_1 : decode cX0_keepsKeyUntil 1 = .ok (.ireturn, 1) := by decide +kernel
theorem dX0_lateAt_0 : decode cX0_lateAt 0 = .ok (.iconst 0, 1) := by decide +kernel
theorem dX0_lateAt_1 : decode cX0_lateAt 1 = .ok (.iload_n 1, 1) := by decide +kernel
theorem dX0_lateAt_2 : decode cX0_lateAt 2 = .ok (.iconst 4, 1) := by decide +kernel
theorem dX0_lateAt_3 : decode cX0_lateAt 3 = .ok (.aload_n 0, 1) := by decide +kernel
theorem dX0_lateAt_4 : decode cX0_lateAt 4 = .ok (.getfield 13, 3) := by decide +kernel
theorem dX0_lateAt_7 : decode cX0_lateAt 7 = .ok (.imul, 1) := by decide +kernel
theorem dX0_lateAt_8 : decode cX0_lateAt 8 = .ok (.isub, 1) := by decide +kernel
theorem dX0_lateAt_9 : decode cX0_lateAt 9 = .ok (.invokestatic 19, 3) := by decide +kernel
theorem dX0_lateAt_12 : decode cX0_lateAt 12 = .ok (.aload_n 0, 1) := by decide +kernel
theorem dX0_lateAt_13 : decode cX0_lateAt 13 = .ok (.getfield 16, 3) := by decide +kernel
theorem dX0_lateAt_16 : decode cX0_lateAt 16 = .ok (.imul, 1) := by decide +kernel
theorem dX0_lateAt_17 : decode cX0_lateAt 17 = .ok (.ireturn, 1) := by decide +kernel
theorem dX0_sleepersOut_0 : decode cX0_sleepersOut 0 = .ok (.aload_n 0, 1) := by decide +kernel
theorem dX0_sleepersOut_1 : decode cX0_sleepersOut 1 = .ok (.getfield 16, 3) := by decide +kernel
theorem dX0_sleepersOut_4 : decode cX0_sleepersOut 4 = .ok (.ireturn, 1) := by decide +kernel
set_option maxRecDepth 20000 in
theorem ggX1_init_X0_init : GoodIn wsX1_init wsX0_init := goodIn_r _ [4, 5, 6, 7, 8, 9, 10, 11, 12, 13, 14, 15, 16, 17, 18, 19, 20, 21, 22, 23, 24, 25] (by decide +kernel) (by decide +kernel)
set_option maxRecDepth 20000 in
theorem gX1_init_X0_init : GoodIn wsX1_init (wsX0_init) := ggX1_init_X0_init
theorem dX1_init_0 : decode cX1_init 0 = .ok (.aload_n 0, 1) := by decide +kernel
theorem dX1_init_1 : decode cX1_init 1 = .ok (.iload_n 1, 1) := by decide +kernel
theorem dX1_init_2 : decode cX1_init 2 = .ok (.iload_n 2, 1) := by decide +kernel
theorem dX1_init_3 : decode cX1_init 3 = .ok (.iload_n 3, 1) := by decide +kernel
theorem dX1_init_4 : decode cX1_init 4 = .ok (.invokespecial 1, 3) := by decide +kernel
theorem dX1_init_7 : decode cX1_init 7 = .ok (.return_, 1) := by decide +kernel
theorem dX1_kind_0 : decode cX1_kind 0 = .ok (.iconst 2, 1) := by decide +kernel
theorem dX1_kind_1 : decode cX1_kind 1 = .ok (.ireturn, 1) := by decide +kernel
theorem dX1_lateAt_0 : decode cX1_lateAt 0 = .ok (.iconst 0, 1) := by decide +kernel
theorem dX1_lateAt_1 : decode cX1_lateAt 1 = .ok (.ireturn, 1) := by decide +kernel
theorem dX1_sleepersOut_0 : decode cX1_sleepersOut 0 = .ok (.iconst 0, 1) := by decide +kernel
theorem dX1_sleepersOut_1 : decode cX1_sleepersOut 1 = .ok (.ireturn, 1) := by decide +kernel
theorem dX2_init_0 : decode cX2_init 0 = .ok (.aload_n 0, 1) := by decide +kernel
theorem dX2_init_1 : decode cX2_init 1 = .ok (.invokespecial 1, 3) := by decide +kernel
theorem dX2_init_4 : decode cX2_init 4 = .ok (.return_, 1) := by decide +kernel
theorem dX2_put_0 : decode cX2_put 0 = .ok (.aload_n 0, 1) := by decide +kernel
theorem dX2_put_1 : decode cX2_put 1 = .ok (.iload_n 1, 1) := by decide +kernel
theorem dX2_put_2 : decode cX2_put 2 = .ok (.putfield 7, 3) := by decide +kernel
theorem dX2_put_5 : decode cX2_put 5 = .ok (.aload_n 0, 1) := by decide +kernel
theorem dX2_put_6 : decode cX2_put 6 = .ok (.iload_n 2, 1) := by decide +kernel
theorem dX2_put_7 : decode cX2_put 7 = .ok (.putfield 13, 3) := by decide +kernel
theorem dX2_put_10 : decode cX2_put 10 = .ok (.aload_n 0, 1) := by decide +kernel
theorem dX2_put_11 : decode cX2_put 11 = .ok (.iload_n 3, 1) := by decide +kernel
theorem dX2_put_12 : decode cX2_put 12 = .ok (.putfield 16, 3) := by decide +kernel
theorem dX2_put_15 : decode cX2_put 15 = .ok (.return_, 1) := by decide +kernel
set_option maxRecDepth 20000 in
theorem ggX2_copyFrom_X2_put : GoodIn wsX2_copyFrom wsX2_put := goodIn_r _ [8, 1, 2, 3, 9, 10, 11] (by decide +kernel) (by decide +kernel)
set_option maxRecDepth 20000 in
theorem gX2_copyFrom_X2_put : GoodIn wsX2_copyFrom (wsV RX2 19 RX2 yX2_put wsX2_put) := goodIn_app (goodIn_of _ (by decide +kernel)) ggX2_copyFrom_X2_put
theorem dX2_copyFrom_0 : decode cX2_copyFrom 0 = .ok (.aload_n 0, 1) := by decide +kernel
theorem dX2_copyFrom_1 : decode cX2_copyFrom 1 = .ok (.aload_n 1, 1) := by decide +kernel
theorem dX2_copyFrom_2 : decode cX2_copyFrom 2 = .ok (.getfield 7, 3) := by decide +kernel
theorem dX2_copyFrom_5 : decode cX2_copyFrom 5 = .ok (.aload_n 1, 1) := by decide +kernel
theorem dX2_copyFrom_6 : decode cX2_copyFrom 6 = .ok (.getfield 13, 3) := by decide +kernel
theorem dX2_copyFrom_9 : decode cX2_copyFrom 9 = .ok (.aload_n 1, 1) := by decide +kernel
theorem dX2_copyFrom_10 : decode cX2_copyFrom 10 = .ok (.getfield 16, 3) := by decide +kernel
theorem dX2_copyFrom_13 : decode cX2_copyFrom 13 = .ok (.invokevirtual 19, 3) := by decide +kernel
theorem dX2_copyFrom_16 : decode cX2_copyFrom 16 = .ok (.return_, 1) := by decide +kernel
set_option maxRecDepth 20000 in
theorem ggX2_bringTo_X0_openingTakes : GoodIn wsX2_bringTo wsX0_openingTakes := goodIn_r _ [16] (by decide +kernel) (by decide +kernel)
set_option maxRecDepth 20000 in
theorem gX2_bringTo_X0_openingTakes : GoodIn wsX2_bringTo (wsV RX2 36 RX0 yX0_openingTakes wsX0_openingTakes) := goodIn_app (goodIn_of _ (by decide +kernel)) ggX2_bringTo_X0_openingTakes
set_option maxRecDepth 20000 in
theorem gX2_bringTo_X0_openingTakes_u36X1 : GoodIn wsX2_bringTo (va_wsU RX2 36 RX1 "KeyOnStreet$House" ⟨"KeyOnStreet$House", "openingTakes", "()I"⟩ yX0_openingTakes wsX0_openingTakes) := goodIn_app (goodIn_of _ (by decide +kernel)) ggX2_bringTo_X0_openingTakes
set_option maxRecDepth 20000 in
theorem ggX2_bringTo_X9_openingTakes : GoodIn wsX2_bringTo wsX9_openingTakes := goodIn_r _ [24] (by decide +kernel) (by decide +kernel)
set_option maxRecDepth 20000 in
theorem gX2_bringTo_X9_openingTakes_u36X3 : GoodIn wsX2_bringTo (va_wsO RX2 36 RX3 "KeyOnStreet$House" ⟨"KeyOnStreet$House", "openingTakes", "()I"⟩ yX9_openingTakes wsX9_openingTakes) := goodIn_app (goodIn_of _ (by decide +kernel)) ggX2_bringTo_X9_openingTakes
set_option maxRecDepth 20000 in
theorem gX2_bringTo_X0_openingTakes_u36X4 : GoodIn wsX2_bringTo (va_wsU RX2 36 RX4 "KeyOnStreet$House" ⟨"KeyOnStreet$House", "openingTakes", "()I"⟩ yX0_openingTakes wsX0_openingTakes) := goodIn_app (goodIn_of _ (by decide +kernel)) ggX2_bringTo_X0_openingTakes
set_option maxRecDepth 20000 in
theorem gX2_bringTo_X9_openingTakes_u36X9 : GoodIn wsX2_bringTo (va_wsO RX2 36 RX9 "KeyOnStreet$House" ⟨"KeyOnStreet$House", "openingTakes", "()I"⟩ yX9_openingTakes wsX9_openingTakes) := goodIn_app (goodIn_of _ (by decide +kernel)) ggX2_bringTo_X9_openingTakes
set_option maxRecDepth 20000 in
theorem ggX2_bringTo_X0_keepsKeyUntil : GoodIn wsX2_bringTo wsX0_keepsKeyUntil := goodIn_r _ [30] (by decide +kernel) (by decide +kernel)
set_option maxRecDepth 20000 in
theorem gX2_bringTo_X0_keepsKeyUntil : GoodIn wsX2_bringTo (wsV RX2 40 RX0 yX0_keepsKeyUntil wsX0_keepsKeyUntil) := goodIn_app (goodIn_of _ (by decide +kernel)) ggX2_bringTo_X0_keepsKeyUntil
set_option maxRecDepth 20000 in
theorem gX2_bringTo_X0_keepsKeyUntil_u40X1 : GoodIn wsX2_bringTo (va_wsU RX2 40 RX1 "KeyOnStreet$House" ⟨"KeyOnStreet$House", "keepsKeyUntil", "(I)I"⟩ yX0_keepsKeyUntil wsX0_keepsKeyUntil) := goodIn_app (goodIn_of _ (by decide +kernel)) ggX2_bringTo_X0_keepsKeyUntil
set_option maxRecDepth 20000 in
theorem ggX2_bringTo_X3_keepsKeyUntil : GoodIn wsX2_bringTo wsX3_keepsKeyUntil := goodIn_r _ [38] (by decide +kernel) (by decide +kernel)
set_option maxRecDepth 20000 in
theorem gX2_bringTo_X3_keepsKeyUntil_u40X3 : GoodIn wsX2_bringTo (va_wsO RX2 40 RX3 "KeyOnStreet$House" ⟨"KeyOnStreet$House", "keepsKeyUntil", "(I)I"⟩ yX3_keepsKeyUntil wsX3_keepsKeyUntil) := goodIn_app (goodIn_of _ (by decide +kernel)) ggX2_bringTo_X3_keepsKeyUntil
set_option maxRecDepth 20000 in
theorem gX2_bringTo_X0_keepsKeyUntil_u40X4 : GoodIn wsX2_bringTo (va_wsU RX2 40 RX4 "KeyOnStreet$House" ⟨"KeyOnStreet$House", "keepsKeyUntil", "(I)I"⟩ yX0_keepsKeyUntil wsX0_keepsKeyUntil) := goodIn_app (goodIn_of _ (by decide +kernel)) ggX2_bringTo_X0_keepsKeyUntil
set_option maxRecDepth 20000 in
theorem gX2_bringTo_X0_keepsKeyUntil_u40X9 : GoodIn wsX2_bringTo (va_wsU RX2 40 RX9 "KeyOnStreet$House" ⟨"KeyOnStreet$House", "keepsKeyUntil", "(I)I"⟩ yX0_keepsKeyUntil wsX0_keepsKeyUntil) := goodIn_app (goodIn_of _ (by decide +kernel)) ggX2_bringTo_X0_keepsKeyUntil
set_option maxRecDepth 20000 in
theorem ggX2_bringTo_X2_put : GoodIn wsX2_bringTo wsX2_put := goodIn_r _ [45, 7, 1, 2, 46, 47, 48] (by decide +kernel) (by decide +kernel)
set_option maxRecDepth 20000 in
theorem gX2_bringTo_X2_put : GoodIn wsX2_bringTo (wsV RX2 19 RX2 yX2_put wsX2_put) := goodIn_app (goodIn_of _ (by decide +kernel)) ggX2_bringTo_X2_put
theorem dX2_bringTo_0 : decode cX2_bringTo 0 = .ok (.aload_n 0, 1) := by decide +kernel
theorem dX2_bringTo_1 : decode cX2_bringTo 1 = .ok (.getfield 13, 3) := by decide +kernel
theorem dX2_bringTo_4 : decode cX2_bringTo 4 = .ok (.aload_n 0, 1) := by decide +kernel
theorem dX2_bringTo_5 : decode cX2_bringTo 5 = .ok (.getfield 16, 3) := by decide +kernel
theorem dX2_bringTo_8 : decode cX2_bringTo 8 = .ok (.invokestatic 23, 3) := by decide +kernel
theorem dX2_bringTo_11 : decode cX2_bringTo 11 = .ok (.istore_n 2, 1) := by decide +kernel
theorem dX2_bringTo_12 : decode cX2_bringTo 12 = .ok (.aload_n 0, 1) := by decide +kernel
theorem dX2_bringTo_13 : decode cX2_bringTo 13 = .ok (.getfield 7, 3) := by decide +kernel
theorem dX2_bringTo_16 : decode cX2_bringTo 16 = .ok (.aload_n 1, 1) := by decide +kernel
theorem dX2_bringTo_17 : decode cX2_bringTo 17 = .ok (.getfield 29, 3) := by decide +kernel
theorem dX2_bringTo_20 : decode cX2_bringTo 20 = .ok (.isub, 1) := by decide +kernel
theorem dX2_bringTo_21 : decode cX2_bringTo 21 = .ok (.invokestatic 32, 3) := by decide +kernel
theorem dX2_bringTo_24 : decode cX2_bringTo 24 = .ok (.istore_n 3, 1) := by decide +kernel
theorem dX2_bringTo_25 : decode cX2_bringTo 25 = .ok (.iload_n 2, 1) := by decide +kernel
theorem dX2_bringTo_26 : decode cX2_bringTo 26 = .ok (.iload_n 3, 1) := by decide +kernel
theorem dX2_bringTo_27 : decode cX2_bringTo 27 = .ok (.iadd, 1) := by decide +kernel
theorem dX2_bringTo_28 : decode cX2_bringTo 28 = .ok (.aload_n 1, 1) := by decide +kernel
theorem dX2_bringTo_29 : decode cX2_bringTo 29 = .ok (.invokevirtual 36, 3) := by decide +kernel
theorem dX2_bringTo_32 : decode cX2_bringTo 32 = .ok (.iadd, 1) := by decide +kernel
theorem dX2_bringTo_33 : decode cX2_bringTo 33 = .ok (.istore 4, 2) := by decide +kernel
theorem dX2_bringTo_35 : decode cX2_bringTo 35 = .ok (.aload_n 0, 1) := by decide +kernel
theorem dX2_bringTo_36 : decode cX2_bringTo 36 = .ok (.aload_n 1, 1) := by decide +kernel
theorem dX2_bringTo_37 : decode cX2_bringTo 37 = .ok (.getfield 29, 3) := by decide +kernel
theorem dX2_bringTo_40 : decode cX2_bringTo 40 = .ok (.iload 4, 2) := by decide +kernel
theorem dX2_bringTo_42 : decode cX2_bringTo 42 = .ok (.aload_n 1, 1) := by decide +kernel
theorem dX2_bringTo_43 : decode cX2_bringTo 43 = .ok (.iload 4, 2) := by decide +kernel
theorem dX2_bringTo_45 : decode cX2_bringTo 45 = .ok (.invokevirtual 40, 3) := by decide +kernel
theorem dX2_bringTo_48 : decode cX2_bringTo 48 = .ok (.invokevirtual 19, 3) := by decide +kernel
theorem dX2_bringTo_51 : decode cX2_bringTo 51 = .ok (.return_, 1) := by decide +kernel
set_option maxRecDepth 20000 in
theorem ggX3_init_X9_init : GoodIn wsX3_init wsX9_init := goodIn_r _ [4, 5, 6, 7, 8, 9, 10, 11, 12, 13, 14, 15, 16, 17, 18, 19, 20, 21, 22, 23, 24, 25, 26, 27, 28, 29] (by decide +kernel) (by decide +kernel)
set_option maxRecDepth 20000 in
theorem gX3_init_X9_init : GoodIn wsX3_init (wsX9_init) := ggX3_init_X9_init
theorem dX3_init_0 : decode cX3_init 0 = .ok (.aload_n 0, 1) := by decide +kernel
theorem dX3_init_1 : decode cX3_init 1 = .ok (.iload_n 1, 1) := by decide +kernel
theorem dX3_init_2 : decode cX3_init 2 = .ok (.iload_n 2, 1) := by decide +kernel
theorem dX3_init_3 : decode cX3_init 3 = .ok (.iload_n 3, 1) := by decide +kernel
theorem dX3_init_4 : decode cX3_init 4 = .ok (.invokespecial 1, 3) := by decide +kernel
theorem dX3_init_7 : decode cX3_init 7 = .ok (.return_, 1) := by decide +kernel
theorem dX3_kind_0 : decode cX3_kind 0 = .ok (.iconst 4, 1) := by decide +kernel
theorem dX3_kind_1 : decode cX3_kind 1 = .ok (.ireturn, 1) := by decide +kernel
theorem dX3_keepsKeyUntil_0 : decode cX3_keepsKeyUntil 0 = .ok (.iload_n 1, 1) := by decide +kernel
theorem dX3_keepsKeyUntil_1 : decode cX3_keepsKeyUntil 1 = .ok (.iconst 5, 1) := by decide +kernel
theorem dX3_keepsKeyUntil_2 : decode cX3_keepsKeyUntil 2 = .ok (.iadd, 1) := by decide +kernel
theorem dX3_keepsKeyUntil_3 : decode cX3_keepsKeyUntil 3 = .ok (.ireturn, 1) := by decide +kernel
set_option maxRecDepth 20000 in
theorem ggX4_init_X0_init : GoodIn wsX4_init wsX0_init := goodIn_r _ [4, 5, 6, 7, 8, 9, 10, 11, 12, 13, 14, 15, 16, 17, 18, 19, 20, 21, 22, 23, 24, 25] (by decide +kernel) (by decide +kernel)
set_option maxRecDepth 20000 in
theorem gX4_init_X0_init : GoodIn wsX4_init (wsX0_init) := ggX4_init_X0_init
theorem dX4_init_0 : decode cX4_init 0 = .ok (.aload_n 0, 1) := by decide +kernel
theorem dX4_init_1 : decode cX4_init 1 = .ok (.iload_n 1, 1) := by decide +kernel
theorem dX4_init_2 : decode cX4_init 2 = .ok (.iload_n 2, 1) := by decide +kernel
theorem dX4_init_3 : decode cX4_init 3 = .ok (.iload_n 3, 1) := by decide +kernel
theorem dX4_init_4 : decode cX4_init 4 = .ok (.invokespecial 1, 3) := by decide +kernel
theorem dX4_init_7 : decode cX4_init 7 = .ok (.return_, 1) := by decide +kernel
theorem dX4_kind_0 : decode cX4_kind 0 = .ok (.iconst 1, 1) := by decide +kernel
theorem dX4_kind_1 : decode cX4_kind 1 = .ok (.ireturn, 1) := by decide +kernel
set_option maxRecDepth 20000 in
theorem ggX5_init_X2_init : GoodIn wsX5_init wsX2_init := goodIn_r _ [19, 20, 2, 3] (by decide +kernel) (by decide +kernel)
set_option maxRecDepth 20000 in
theorem gX5_init_X2_init_n11 : GoodIn wsX5_init (wsX2_init) := ggX5_init_X2_init
theorem dX5_init_0 : decode cX5_init 0 = .ok (.aload_n 0, 1) := by decide +kernel
theorem dX5_init_1 : decode cX5_init 1 = .ok (.invokespecial 3, 3) := by decide +kernel
theorem dX5_init_4 : decode cX5_init 4 = .ok (.aload_n 0, 1) := by decide +kernel
theorem dX5_init_5 : decode cX5_init 5 = .ok (.new 9, 3) := by decide +kernel
theorem dX5_init_8 : decode cX5_init 8 = .ok (.dup, 1) := by decide +kernel
theorem dX5_init_9 : decode cX5_init 9 = .ok (.invokespecial 11, 3) := by decide +kernel
theorem dX5_init_12 : decode cX5_init 12 = .ok (.putfield 12, 3) := by decide +kernel
theorem dX5_init_15 : decode cX5_init 15 = .ok (.aload_n 0, 1) := by decide +kernel
theorem dX5_init_16 : decode cX5_init 16 = .ok (.bipush 6, 2) := by decide +kernel
theorem dX5_init_18 : decode cX5_init 18 = .ok (.newarray .int, 2) := by decide +kernel
theorem dX5_init_20 : decode cX5_init 20 = .ok (.putfield 18, 3) := by decide +kernel
theorem dX5_init_23 : decode cX5_init 23 = .ok (.aload_n 0, 1) := by decide +kernel
theorem dX5_init_24 : decode cX5_init 24 = .ok (.bipush 6, 2) := by decide +kernel
theorem dX5_init_26 : decode cX5_init 26 = .ok (.newarray .int, 2) := by decide +kernel
theorem dX5_init_28 : decode cX5_init 28 = .ok (.putfield 22, 3) := by decide +kernel
theorem dX5_init_31 : decode cX5_init 31 = .ok (.aload_n 0, 1) := by decide +kernel
theorem dX5_init_32 : decode cX5_init 32 = .ok (.bipush 6, 2) := by decide +kernel
theorem dX5_init_34 : decode cX5_init 34 = .ok (.newarray .int, 2) := by decide +kernel
theorem dX5_init_36 : decode cX5_init 36 = .ok (.putfield 25, 3) := by decide +kernel
theorem dX5_init_39 : decode cX5_init 39 = .ok (.aload_n 0, 1) := by decide +kernel
theorem dX5_init_40 : decode cX5_init 40 = .ok (.bipush 6, 2) := by decide +kernel
theorem dX5_init_42 : decode cX5_init 42 = .ok (.newarray .int, 2) := by decide +kernel
theorem dX5_init_44 : decode cX5_init 44 = .ok (.putfield 28, 3) := by decide +kernel
theorem dX5_init_47 : decode cX5_init 47 = .ok (.aload_n 0, 1) := by decide +kernel
theorem dX5_init_48 : decode cX5_init 48 = .ok (.bipush 6, 2) := by decide +kernel
theorem dX5_init_50 : decode cX5_init 50 = .ok (.newarray .int, 2) := by decide +kernel
theorem dX5_init_52 : decode cX5_init 52 = .ok (.putfield 31, 3) := by decide +kernel
theorem dX5_init_55 : decode cX5_init 55 = .ok (.aload_n 0, 1) := by decide +kernel
theorem dX5_init_56 : decode cX5_init 56 = .ok (.bipush 6, 2) := by decide +kernel
theorem dX5_init_58 : decode cX5_init 58 = .ok (.newarray .int, 2) := by decide +kernel
theorem dX5_init_60 : decode cX5_init 60 = .ok (.putfield 34, 3) := by decide +kernel
theorem dX5_init_63 : decode cX5_init 63 = .ok (.aload_n 0, 1) := by decide +kernel
theorem dX5_init_64 : decode cX5_init 64 = .ok (.bipush 6, 2) := by decide +kernel
theorem dX5_init_66 : decode cX5_init 66 = .ok (.newarray .boolean, 2) := by decide +kernel
theorem dX5_init_68 : decode cX5_init 68 = .ok (.putfield 37, 3) := by decide +kernel
theorem dX5_init_71 : decode cX5_init 71 = .ok (.aload_n 0, 1) := by decide +kernel
theorem dX5_init_72 : decode cX5_init 72 = .ok (.aload_n 1, 1) := by decide +kernel
theorem dX5_init_73 : decode cX5_init 73 = .ok (.putfield 41, 3) := by decide +kernel
theorem dX5_init_76 : decode cX5_init 76 = .ok (.iconst 0, 1) := by decide +kernel
theorem dX5_init_77 : decode cX5_init 77 = .ok (.istore_n 2, 1) := by decide +kernel
theorem dX5_init_78 : decode cX5_init 78 = .ok (.iload_n 2, 1) := by decide +kernel
theorem dX5_init_79 : decode cX5_init 79 = .ok (.bipush 6, 2) := by decide +kernel
theorem dX5_init_81 : decode cX5_init 81 = .ok (.if_icmp .ge 23, 3) := by decide +kernel
theorem dX5_init_84 : decode cX5_init 84 = .ok (.aload_n 0, 1) := by decide +kernel
theorem dX5_init_85 : decode cX5_init 85 = .ok (.getfield 18, 3) := by decide +kernel
theorem dX5_init_88 : decode cX5_init 88 = .ok (.iload_n 2, 1) := by decide +kernel
theorem dX5_init_89 : decode cX5_init 89 = .ok (.iconst (-1), 1) := by decide +kernel
theorem dX5_init_90 : decode cX5_init 90 = .ok (.iastore, 1) := by decide +kernel
theorem dX5_init_91 : decode cX5_init 91 = .ok (.aload_n 0, 1) := by decide +kernel
theorem dX5_init_92 : decode cX5_init 92 = .ok (.getfield 22, 3) := by decide +kernel
theorem dX5_init_95 : decode cX5_init 95 = .ok (.iload_n 2, 1) := by decide +kernel
theorem dX5_init_96 : decode cX5_init 96 = .ok (.iconst (-1), 1) := by decide +kernel
theorem dX5_init_97 : decode cX5_init 97 = .ok (.iastore, 1) := by decide +kernel
theorem dX5_init_98 : decode cX5_init 98 = .ok (.iinc 2 1, 3) := by decide +kernel
theorem dX5_init_101 : decode cX5_init 101 = .ok (.goto (-23), 3) := by decide +kernel
theorem dX5_init_104 : decode cX5_init 104 = .ok (.return_, 1) := by decide +kernel
set_option maxRecDepth 20000 in
theorem ggX5_begin_X2_put : GoodIn wsX5_begin wsX2_put := goodIn_r _ [11, 12, 13, 14, 25, 26, 27] (by decide +kernel) (by decide +kernel)
set_option maxRecDepth 20000 in
theorem gX5_begin_X2_put : GoodIn wsX5_begin (wsV RX5 45 RX2 yX2_put wsX2_put) := goodIn_app (goodIn_of _ (by decide +kernel)) ggX5_begin_X2_put
theorem dX5_begin_0 : decode cX5_begin 0 = .ok (.iconst 0, 1) := by decide +kernel
theorem dX5_begin_1 : decode cX5_begin 1 = .ok (.istore_n 1, 1) := by decide +kernel
theorem dX5_begin_2 : decode cX5_begin 2 = .ok (.iload_n 1, 1) := by decide +kernel
theorem dX5_begin_3 : decode cX5_begin 3 = .ok (.bipush 6, 2) := by decide +kernel
theorem dX5_begin_5 : decode cX5_begin 5 = .ok (.if_icmp .ge 37, 3) := by decide +kernel
theorem dX5_begin_8 : decode cX5_begin 8 = .ok (.aload_n 0, 1) := by decide +kernel
theorem dX5_begin_9 : decode cX5_begin 9 = .ok (.getfield 18, 3) := by decide +kernel
theorem dX5_begin_12 : decode cX5_begin 12 = .ok (.iload_n 1, 1) := by decide +kernel
theorem dX5_begin_13 : decode cX5_begin 13 = .ok (.iconst (-1), 1) := by decide +kernel
theorem dX5_begin_14 : decode cX5_begin 14 = .ok (.iastore, 1) := by decide +kernel
theorem dX5_begin_15 : decode cX5_begin 15 = .ok (.aload_n 0, 1) := by decide +kernel
theorem dX5_begin_16 : decode cX5_begin 16 = .ok (.getfield 22, 3) := by decide +kernel
theorem dX5_begin_19 : decode cX5_begin 19 = .ok (.iload_n 1, 1) := by decide +kernel
theorem dX5_begin_20 : decode cX5_begin 20 = .ok (.iconst (-1), 1) := by decide +kernel
theorem dX5_begin_21 : decode cX5_begin 21 = .ok (.iastore, 1) := by decide +kernel
theorem dX5_begin_22 : decode cX5_begin 22 = .ok (.aload_n 0, 1) := by decide +kernel
theorem dX5_begin_23 : decode cX5_begin 23 = .ok (.getfield 25, 3) := by decide +kernel
theorem dX5_begin_26 : decode cX5_begin 26 = .ok (.iload_n 1, 1) := by decide +kernel
theorem dX5_begin_27 : decode cX5_begin 27 = .ok (.iconst 0, 1) := by decide +kernel
theorem dX5_begin_28 : decode cX5_begin 28 = .ok (.iastore, 1) := by decide +kernel
theorem dX5_begin_29 : decode cX5_begin 29 = .ok (.aload_n 0, 1) := by decide +kernel
theorem dX5_begin_30 : decode cX5_begin 30 = .ok (.getfield 28, 3) := by decide +kernel
theorem dX5_begin_33 : decode cX5_begin 33 = .ok (.iload_n 1, 1) := by decide +kernel
theorem dX5_begin_34 : decode cX5_begin 34 = .ok (.iconst 0, 1) := by decide +kernel
theorem dX5_begin_35 : decode cX5_begin 35 = .ok (.iastore, 1) := by decide +kernel
theorem dX5_begin_36 : decode cX5_begin 36 = .ok (.iinc 1 1, 3) := by decide +kernel
theorem dX5_begin_39 : decode cX5_begin 39 = .ok (.goto (-37), 3) := by decide +kernel
theorem dX5_begin_42 : decode cX5_begin 42 = .ok (.aload_n 0, 1) := by decide +kernel
theorem dX5_begin_43 : decode cX5_begin 43 = .ok (.getfield 12, 3) := by decide +kernel
theorem dX5_begin_46 : decode cX5_begin 46 = .ok (.iconst 0, 1) := by decide +kernel
theorem dX5_begin_47 : decode cX5_begin 47 = .ok (.iconst 0, 1) := by decide +kernel
theorem dX5_begin_48 : decode cX5_begin 48 = .ok (.iconst 0, 1) := by decide +kernel
theorem dX5_begin_49 : decode cX5_begin 49 = .ok (.invokevirtual 45, 3) := by decide +kernel
theorem dX5_begin_52 : decode cX5_begin 52 = .ok (.aload_n 0, 1) := by decide +kernel
theorem dX5_begin_53 : decode cX5_begin 53 = .ok (.iconst 0, 1) := by decide +kernel
theorem dX5_begin_54 : decode cX5_begin 54 = .ok (.putfield 49, 3) := by decide +kernel
theorem dX5_begin_57 : decode cX5_begin 57 = .ok (.return_, 1) := by decide +kernel
set_option maxRecDepth 20000 in
theorem ggX5_copyFrom_X2_copyFrom : GoodIn wsX5_copyFrom wsX2_copyFrom := goodIn_r _ [14, 15, 16, 17, 18, 19, 20, 13, 21, 32, 33, 34] (by decide +kernel) (by decide +kernel)
set_option maxRecDepth 20000 in
theorem gX5_copyFrom_X2_copyFrom : GoodIn wsX5_copyFrom (wsV RX5 53 RX2 yX2_copyFrom wsX2_copyFrom) := goodIn_app (goodIn_of _ (by decide +kernel)) ggX5_copyFrom_X2_copyFrom
theorem dX5_copyFrom_0 : decode cX5_copyFrom 0 = .ok (.iconst 0, 1) := by decide +kernel
theorem dX5_copyFrom_1 : decode cX5_copyFrom 1 = .ok (.istore_n 2, 1) := by decide +kernel
theorem dX5_copyFrom_2 : decode cX5_copyFrom 2 = .ok (.iload_n 2, 1) := by decide +kernel
theorem dX5_copyFrom_3 : decode cX5_copyFrom 3 = .ok (.bipush 6, 2) := by decide +kernel
theorem dX5_copyFrom_5 : decode cX5_copyFrom 5 = .ok (.if_icmp .ge 57, 3) := by decide +kernel
theorem dX5_copyFrom_8 : decode cX5_copyFrom 8 = .ok (.aload_n 0, 1) := by decide +kernel
theorem dX5_copyFrom_9 : decode cX5_copyFrom 9 = .ok (.getfield 18, 3) := by decide +kernel
theorem dX5_copyFrom_12 : decode cX5_copyFrom 12 = .ok (.iload_n 2, 1) := by decide +kernel
theorem dX5_copyFrom_13 : decode cX5_copyFrom 13 = .ok (.aload_n 1, 1) := by decide +kernel
theorem dX5_copyFrom_14 : decode cX5_copyFrom 14 = .ok (.getfield 18, 3) := by decide +kernel
theorem dX5_copyFrom_17 : decode cX5_copyFrom 17 = .ok (.iload_n 2, 1) := by decide +kernel
theorem dX5_copyFrom_18 : decode cX5_copyFrom 18 = .ok (.iaload, 1) := by decide +kernel
theorem dX5_copyFrom_19 : decode cX5_copyFrom 19 = .ok (.iastore, 1) := by decide +kernel
theorem dX5_copyFrom_20 : decode cX5_copyFrom 20 = .ok (.aload_n 0, 1) := by decide +kernel
theorem dX5_copyFrom_21 : decode cX5_copyFrom 21 = .ok (.getfield 22, 3) := by decide +kernel
theorem dX5_copyFrom_24 : decode cX5_copyFrom 24 = .ok (.iload_n 2, 1) := by decide +kernel
theorem dX5_copyFrom_25 : decode cX5_copyFrom 25 = .ok (.aload_n 1, 1) := by decide +kernel
theorem dX5_copyFrom_26 : decode cX5_copyFrom 26 = .ok (.getfield 22, 3) := by decide +kernel
theorem dX5_copyFrom_29 : decode cX5_copyFrom 29 = .ok (.iload_n 2, 1) := by decide +kernel
theorem dX5_copyFrom_30 : decode cX5_copyFrom 30 = .ok (.iaload, 1) := by decide +kernel
theorem dX5_copyFrom_31 : decode cX5_copyFrom 31 = .ok (.iastore, 1) := by decide +kernel
theorem dX5_copyFrom_32 : decode cX5_copyFrom 32 = .ok (.aload_n 0, 1) := by decide +kernel
theorem dX5_copyFrom_33 : decode cX5_copyFrom 33 = .ok (.getfield 25, 3) := by decide +kernel
theorem dX5_copyFrom_36 : decode cX5_copyFrom 36 = .ok (.iload_n 2, 1) := by decide +kernel
theorem dX5_copyFrom_37 : decode cX5_copyFrom 37 = .ok (.aload_n 1, 1) := by decide +kernel
theorem dX5_copyFrom_38 : decode cX5_copyFrom 38 = .ok (.getfield 25, 3) := by decide +kernel
theorem dX5_copyFrom_41 : decode cX5_copyFrom 41 = .ok (.iload_n 2, 1) := by decide +kernel
theorem dX5_copyFrom_42 : decode cX5_copyFrom 42 = .ok (.iaload, 1) := by decide +kernel
theorem dX5_copyFrom_43 : decode cX5_copyFrom 43 = .ok (.iastore, 1) := by decide +kernel
theorem dX5_copyFrom_44 : decode cX5_copyFrom 44 = .ok (.aload_n 0, 1) := by decide +kernel
theorem dX5_copyFrom_45 : decode cX5_copyFrom 45 = .ok (.getfield 28, 3) := by decide +kernel
theorem dX5_copyFrom_48 : decode cX5_copyFrom 48 = .ok (.iload_n 2, 1) := by decide +kernel
theorem dX5_copyFrom_49 : decode cX5_copyFrom 49 = .ok (.aload_n 1, 1) := by decide +kernel
theorem dX5_copyFrom_50 : decode cX5_copyFrom 50 = .ok (.getfield 28, 3) := by decide +kernel
theorem dX5_copyFrom_53 : decode cX5_copyFrom 53 = .ok (.iload_n 2, 1) := by decide +kernel
theorem dX5_copyFrom_54 : decode cX5_copyFrom 54 = .ok (.iaload, 1) := by decide +kernel
theorem dX5_copyFrom_55 : decode cX5_copyFrom 55 = .ok (.iastore, 1) := by decide +kernel
theorem dX5_copyFrom_56 : decode cX5_copyFrom 56 = .ok (.iinc 2 1, 3) := by decide +kernel
theorem dX5_copyFrom_59 : decode cX5_copyFrom 59 = .ok (.goto (-57), 3) := by decide +kernel
theorem dX5_copyFrom_62 : decode cX5_copyFrom 62 = .ok (.iconst 0, 1) := by decide +kernel
theorem dX5_copyFrom_63 : decode cX5_copyFrom 63 = .ok (.istore_n 2, 1) := by decide +kernel
theorem dX5_copyFrom_64 : decode cX5_copyFrom 64 = .ok (.iload_n 2, 1) := by decide +kernel
theorem dX5_copyFrom_65 : decode cX5_copyFrom 65 = .ok (.bipush 6, 2) := by decide +kernel
theorem dX5_copyFrom_67 : decode cX5_copyFrom 67 = .ok (.if_icmp .ge 45, 3) := by decide +kernel
theorem dX5_copyFrom_70 : decode cX5_copyFrom 70 = .ok (.aload_n 0, 1) := by decide +kernel
theorem dX5_copyFrom_71 : decode cX5_copyFrom 71 = .ok (.getfield 31, 3) := by decide +kernel
theorem dX5_copyFrom_74 : decode cX5_copyFrom 74 = .ok (.iload_n 2, 1) := by decide +kernel
theorem dX5_copyFrom_75 : decode cX5_copyFrom 75 = .ok (.aload_n 1, 1) := by decide +kernel
theorem dX5_copyFrom_76 : decode cX5_copyFrom 76 = .ok (.getfield 31, 3) := by decide +kernel
theorem dX5_copyFrom_79 : decode cX5_copyFrom 79 = .ok (.iload_n 2, 1) := by decide +kernel
theorem dX5_copyFrom_80 : decode cX5_copyFrom 80 = .ok (.iaload, 1) := by decide +kernel
theorem dX5_copyFrom_81 : decode cX5_copyFrom 81 = .ok (.iastore, 1) := by decide +kernel
theorem dX5_copyFrom_82 : decode cX5_copyFrom 82 = .ok (.aload_n 0, 1) := by decide +kernel
theorem dX5_copyFrom_83 : decode cX5_copyFrom 83 = .ok (.getfield 34, 3) := by decide +kernel
theorem dX5_copyFrom_86 : decode cX5_copyFrom 86 = .ok (.iload_n 2, 1) := by decide +kernel
theorem dX5_copyFrom_87 : decode cX5_copyFrom 87 = .ok (.aload_n 1, 1) := by decide +kernel
theorem dX5_copyFrom_88 : decode cX5_copyFrom 88 = .ok (.getfield 34, 3) := by decide +kernel
theorem dX5_copyFrom_91 : decode cX5_copyFrom 91 = .ok (.iload_n 2, 1) := by decide +kernel
theorem dX5_copyFrom_92 : decode cX5_copyFrom 92 = .ok (.iaload, 1) := by decide +kernel
theorem dX5_copyFrom_93 : decode cX5_copyFrom 93 = .ok (.iastore, 1) := by decide +kernel
theorem dX5_copyFrom_94 : decode cX5_copyFrom 94 = .ok (.aload_n 0, 1) := by decide +kernel
theorem dX5_copyFrom_95 : decode cX5_copyFrom 95 = .ok (.getfield 37, 3) := by decide +kernel
theorem dX5_copyFrom_98 : decode cX5_copyFrom 98 = .ok (.iload_n 2, 1) := by decide +kernel
theorem dX5_copyFrom_99 : decode cX5_copyFrom 99 = .ok (.aload_n 1, 1) := by decide +kernel
theorem dX5_copyFrom_100 : decode cX5_copyFrom 100 = .ok (.getfield 37, 3) := by decide +kernel
theorem dX5_copyFrom_103 : decode cX5_copyFrom 103 = .ok (.iload_n 2, 1) := by decide +kernel
theorem dX5_copyFrom_104 : decode cX5_copyFrom 104 = .ok (.baload, 1) := by decide +kernel
theorem dX5_copyFrom_105 : decode cX5_copyFrom 105 = .ok (.bastore, 1) := by decide +kernel
theorem dX5_copyFrom_106 : decode cX5_copyFrom 106 = .ok (.iinc 2 1, 3) := by decide +kernel
theorem dX5_copyFrom_109 : decode cX5_copyFrom 109 = .ok (.goto (-45), 3) := by decide +kernel
theorem dX5_copyFrom_112 : decode cX5_copyFrom 112 = .ok (.aload_n 0, 1) := by decide +kernel
theorem dX5_copyFrom_113 : decode cX5_copyFrom 113 = .ok (.aload_n 1, 1) := by decide +kernel
theorem dX5_copyFrom_114 : decode cX5_copyFrom 114 = .ok (.getfield 49, 3) := by decide +kernel
theorem dX5_copyFrom_117 : decode cX5_copyFrom 117 = .ok (.putfield 49, 3) := by decide +kernel
theorem dX5_copyFrom_120 : decode cX5_copyFrom 120 = .ok (.aload_n 0, 1) := by decide +kernel
theorem dX5_copyFrom_121 : decode cX5_copyFrom 121 = .ok (.getfield 12, 3) := by decide +kernel
theorem dX5_copyFrom_124 : decode cX5_copyFrom 124 = .ok (.aload_n 1, 1) := by decide +kernel
theorem dX5_copyFrom_125 : decode cX5_copyFrom 125 = .ok (.getfield 12, 3) := by decide +kernel
theorem dX5_copyFrom_128 : decode cX5_copyFrom 128 = .ok (.invokevirtual 53, 3) := by decide +kernel
theorem dX5_copyFrom_131 : decode cX5_copyFrom 131 = .ok (.return_, 1) := by decide +kernel
theorem dX5_nobodyWasIn_0 : decode cX5_nobodyWasIn 0 = .ok (.iconst 0, 1) := by decide +kernel
theorem dX5_nobodyWasIn_1 : decode cX5_nobodyWasIn 1 = .ok (.istore_n 1, 1) := by decide +kernel
theorem dX5_nobodyWasIn_2 : decode cX5_nobodyWasIn 2 = .ok (.iload_n 1, 1) := by decide +kernel
theorem dX5_nobodyWasIn_3 : decode cX5_nobodyWasIn 3 = .ok (.bipush 6, 2) := by decide +kernel
theorem dX5_nobodyWasIn_5 : decode cX5_nobodyWasIn 5 = .ok (.if_icmp .ge 16, 3) := by decide +kernel
theorem dX5_nobodyWasIn_8 : decode cX5_nobodyWasIn 8 = .ok (.aload_n 0, 1) := by decide +kernel
theorem dX5_nobodyWasIn_9 : decode cX5_nobodyWasIn 9 = .ok (.getfield 22, 3) := by decide +kernel
theorem dX5_nobodyWasIn_12 : decode cX5_nobodyWasIn 12 = .ok (.iload_n 1, 1) := by decide +kernel
theorem dX5_nobodyWasIn_13 : decode cX5_nobodyWasIn 13 = .ok (.iconst (-1), 1) := by decide +kernel
theorem dX5_nobodyWasIn_14 : decode cX5_nobodyWasIn 14 = .ok (.iastore, 1) := by decide +kernel
theorem dX5_nobodyWasIn_15 : decode cX5_nobodyWasIn 15 = .ok (.iinc 1 1, 3) := by decide +kernel
theorem dX5_nobodyWasIn_18 : decode cX5_nobodyWasIn 18 = .ok (.goto (-16), 3) := by decide +kernel
theorem dX5_nobodyWasIn_21 : decode cX5_nobodyWasIn 21 = .ok (.return_, 1) := by decide +kernel
set_option maxRecDepth 20000 in
theorem ggX5_isOut_X8_has : GoodIn wsX5_isOut wsX8_has := goodIn_r _ [7, 8, 19, 20, 21, 22] (by decide +kernel) (by decide +kernel)
set_option maxRecDepth 20000 in
theorem gX5_isOut_X8_has : GoodIn wsX5_isOut (wsV RX5 57 RX8 yX8_has wsX8_has) := goodIn_app (goodIn_of _ (by decide +kernel)) ggX5_isOut_X8_has
theorem dX5_isOut_0 : decode cX5_isOut 0 = .ok (.aload_n 0, 1) := by decide +kernel
theorem dX5_isOut_1 : decode cX5_isOut 1 = .ok (.getfield 41, 3) := by decide +kernel
theorem dX5_isOut_4 : decode cX5_isOut 4 = .ok (.iload_n 1, 1) := by decide +kernel
theorem dX5_isOut_5 : decode cX5_isOut 5 = .ok (.invokevirtual 57, 3) := by decide +kernel
theorem dX5_isOut_8 : decode cX5_isOut 8 = .ok (.ifCond .eq 17, 3) := by decide +kernel
theorem dX5_isOut_11 : decode cX5_isOut 11 = .ok (.aload_n 0, 1) := by decide +kernel
theorem dX5_isOut_12 : decode cX5_isOut 12 = .ok (.getfield 18, 3) := by decide +kernel
theorem dX5_isOut_15 : decode cX5_isOut 15 = .ok (.iload_n 1, 1) := by decide +kernel
theorem dX5_isOut_16 : decode cX5_isOut 16 = .ok (.iaload, 1) := by decide +kernel
theorem dX5_isOut_17 : decode cX5_isOut 17 = .ok (.iconst (-1), 1) := by decide +kernel
theorem dX5_isOut_18 : decode cX5_isOut 18 = .ok (.if_icmp .eq 7, 3) := by decide +kernel
theorem dX5_isOut_21 : decode cX5_isOut 21 = .ok (.iconst 1, 1) := by decide +kernel
theorem dX5_isOut_22 : decode cX5_isOut 22 = .ok (.goto 4, 3) := by decide +kernel
theorem dX5_isOut_25 : decode cX5_isOut 25 = .ok (.iconst 0, 1) := by decide +kernel
theorem dX5_isOut_26 : decode cX5_isOut 26 = .ok (.ireturn, 1) := by decide +kernel
theorem dX5_waiting_0 : decode cX5_waiting 0 = .ok (.iconst 0, 1) := by decide +kernel
theorem dX5_waiting_1 : decode cX5_waiting 1 = .ok (.istore_n 1, 1) := by decide +kernel
theorem dX5_waiting_2 : decode cX5_waiting 2 = .ok (.iconst 0, 1) := by decide +kernel
theorem dX5_waiting_3 : decode cX5_waiting 3 = .ok (.istore_n 2, 1) := by decide +kernel
theorem dX5_waiting_4 : decode cX5_waiting 4 = .ok (.iload_n 2, 1) := by decide +kernel
theorem dX5_waiting_5 : decode cX5_waiting 5 = .ok (.bipush 6, 2) := by decide +kernel
theorem dX5_waiting_7 : decode cX5_waiting 7 = .ok (.if_icmp .ge 25, 3) := by decide +kernel
theorem dX5_waiting_10 : decode cX5_waiting 10 = .ok (.aload_n 0, 1) := by decide +kernel
theorem dX5_waiting_11 : decode cX5_waiting 11 = .ok (.getfield 18, 3) := by decide +kernel
theorem dX5_waiting_14 : decode cX5_waiting 14 = .ok (.iload_n 2, 1) := by decide +kernel
theorem dX5_waiting_15 : decode cX5_waiting 15 = .ok (.iaload, 1) := by decide +kernel
theorem dX5_waiting_16 : decode cX5_waiting 16 = .ok (.iconst (-1), 1) := by decide +kernel
theorem dX5_waiting_17 : decode cX5_waiting 17 = .ok (.if_icmp .eq 9, 3) := by decide +kernel
theorem dX5_waiting_20 : decode cX5_waiting 20 = .ok (.iload_n 1, 1) := by decide +kernel
theorem dX5_waiting_21 : decode cX5_waiting 21 = .ok (.iconst 1, 1) := by decide +kernel
theorem dX5_waiting_22 : decode cX5_waiting 22 = .ok (.iload_n 2, 1) := by decide +kernel
theorem dX5_waiting_23 : decode cX5_waiting 23 = .ok (.ishl, 1) := by decide +kernel
theorem dX5_waiting_24 : decode cX5_waiting 24 = .ok (.ior, 1) := by decide +kernel
theorem dX5_waiting_25 : decode cX5_waiting 25 = .ok (.istore_n 1, 1) := by decide +kernel
theorem dX5_waiting_26 : decode cX5_waiting 26 = .ok (.iinc 2 1, 3) := by decide +kernel
theorem dX5_waiting_29 : decode cX5_waiting 29 = .ok (.goto (-25), 3) := by decide +kernel
theorem dX5_waiting_32 : decode cX5_waiting 32 = .ok (.iload_n 1, 1) := by decide +kernel
theorem dX5_waiting_33 : decode cX5_waiting 33 = .ok (.ireturn, 1) := by decide +kernel
set_option maxRecDepth 20000 in
theorem ggX5_outAtDoor_X5_waiting : GoodIn wsX5_outAtDoor wsX5_waiting := goodIn_r _ [5, 6, 14, 15, 16, 17, 18, 19, 20, 21, 22, 23] (by decide +kernel) (by decide +kernel)
set_option maxRecDepth 20000 in
theorem gX5_outAtDoor_X5_waiting : GoodIn wsX5_outAtDoor (wsV RX5 63 RX5 yX5_waiting wsX5_waiting) := goodIn_app (goodIn_of _ (by decide +kernel)) ggX5_outAtDoor_X5_waiting
set_option maxRecDepth 20000 in
theorem ggX5_outAtDoor_J6_bitCount_0f7a4 : GoodIn wsX5_outAtDoor wsJ6_bitCount_0f7a4 := goodIn_r _ [10, 11, 12, 13] (by decide +kernel) (by decide +kernel)
set_option maxRecDepth 20000 in
theorem gX5_outAtDoor_J6_bitCount_0f7a4 : GoodIn wsX5_outAtDoor (va_wsS RX5 67 yJ6_bitCount_0f7a4 wsJ6_bitCount_0f7a4) := goodIn_app (goodIn_of _ (by decide +kernel)) ggX5_outAtDoor_J6_bitCount_0f7a4
theorem dX5_outAtDoor_0 : decode cX5_outAtDoor 0 = .ok (.aload_n 0, 1) := by decide +kernel
theorem dX5_outAtDoor_1 : decode cX5_outAtDoor 1 = .ok (.invokevirtual 63, 3) := by decide +kernel
theorem dX5_outAtDoor_4 : decode cX5_outAtDoor 4 = .ok (.invokestatic 67, 3) := by decide +kernel
theorem dX5_outAtDoor_7 : decode cX5_outAtDoor 7 = .ok (.ireturn, 1) := by decide +kernel
set_option maxRecDepth 20000 in
theorem ggX5_mayOpen_X5_isOut : GoodIn wsX5_mayOpen wsX5_isOut := goodIn_r _ [6, 1, 7, 8, 9, 10, 11, 12, 13, 23, 24, 25, 26, 27, 28, 29, 30, 31, 32, 33, 34, 35, 36] (by decide +kernel) (by decide +kernel)
set_option maxRecDepth 20000 in
theorem gX5_mayOpen_X5_isOut : GoodIn wsX5_mayOpen (wsV RX5 73 RX5 yX5_isOut wsX5_isOut) := goodIn_app (goodIn_of _ (by decide +kernel)) ggX5_mayOpen_X5_isOut
set_option maxRecDepth 20000 in
theorem ggX5_mayOpen_X5_waiting : GoodIn wsX5_mayOpen wsX5_waiting := goodIn_r _ [17, 7, 23, 24, 25, 26, 27, 28, 29, 30, 31, 32] (by decide +kernel) (by decide +kernel)
set_option maxRecDepth 20000 in
theorem gX5_mayOpen_X5_waiting : GoodIn wsX5_mayOpen (wsV RX5 63 RX5 yX5_waiting wsX5_waiting) := goodIn_app (goodIn_of _ (by decide +kernel)) ggX5_mayOpen_X5_waiting
set_option maxRecDepth 20000 in
theorem ggX5_mayOpen_X8_mayBeOpened : GoodIn wsX5_mayOpen wsX8_mayBeOpened := goodIn_r _ [21, 22, 33, 34, 35, 36] (by decide +kernel) (by decide +kernel)
set_option maxRecDepth 20000 in
theorem gX5_mayOpen_X8_mayBeOpened : GoodIn wsX5_mayOpen (wsV RX5 76 RX8 yX8_mayBeOpened wsX8_mayBeOpened) := goodIn_app (goodIn_of _ (by decide +kernel)) ggX5_mayOpen_X8_mayBeOpened
theorem dX5_mayOpen_0 : decode cX5_mayOpen 0 = .ok (.aload_n 0, 1) := by decide +kernel
theorem dX5_mayOpen_1 : decode cX5_mayOpen 1 = .ok (.iload_n 1, 1) := by decide +kernel
theorem dX5_mayOpen_2 : decode cX5_mayOpen 2 = .ok (.invokevirtual 73, 3) := by decide +kernel
theorem dX5_mayOpen_5 : decode cX5_mayOpen 5 = .ok (.ifCond .eq 26, 3) := by decide +kernel
theorem dX5_mayOpen_8 : decode cX5_mayOpen 8 = .ok (.aload_n 0, 1) := by decide +kernel
theorem dX5_mayOpen_9 : decode cX5_mayOpen 9 = .ok (.getfield 41, 3) := by decide +kernel
theorem dX5_mayOpen_12 : decode cX5_mayOpen 12 = .ok (.aload_n 0, 1) := by decide +kernel
theorem dX5_mayOpen_13 : decode cX5_mayOpen 13 = .ok (.invokevirtual 63, 3) := by decide +kernel
theorem dX5_mayOpen_16 : decode cX5_mayOpen 16 = .ok (.invokevirtual 76, 3) := by decide +kernel
theorem dX5_mayOpen_19 : decode cX5_mayOpen 19 = .ok (.iload_n 1, 1) := by decide +kernel
theorem dX5_mayOpen_20 : decode cX5_mayOpen 20 = .ok (.ishr, 1) := by decide +kernel
theorem dX5_mayOpen_21 : decode cX5_mayOpen 21 = .ok (.iconst 1, 1) := by decide +kernel
theorem dX5_mayOpen_22 : decode cX5_mayOpen 22 = .ok (.iand, 1) := by decide +kernel
theorem dX5_mayOpen_23 : decode cX5_mayOpen 23 = .ok (.iconst 1, 1) := by decide +kernel
theorem dX5_mayOpen_24 : decode cX5_mayOpen 24 = .ok (.if_icmp .ne 7, 3) := by decide +kernel
theorem dX5_mayOpen_27 : decode cX5_mayOpen 27 = .ok (.iconst 1, 1) := by decide +kernel
theorem dX5_mayOpen_28 : decode cX5_mayOpen 28 = .ok (.goto 4, 3) := by decide +kernel
theorem dX5_mayOpen_31 : decode cX5_mayOpen 31 = .ok (.iconst 0, 1) := by decide +kernel
theorem dX5_mayOpen_32 : decode cX5_mayOpen 32 = .ok (.ireturn, 1) := by decide +kernel
set_option maxRecDepth 20000 in
theorem ggX5_letIn_X5_isOut : GoodIn wsX5_letIn wsX5_isOut := goodIn_r _ [11, 1, 3, 12, 13, 14, 15, 16, 17, 90, 91, 92, 93, 94, 95, 96, 97, 98, 99, 103, 104, 105, 106] (by decide +kernel) (by decide +kernel)
set_option maxRecDepth 20000 in
theorem gX5_letIn_X5_isOut : GoodIn wsX5_letIn (wsV RX5 73 RX5 yX5_isOut wsX5_isOut) := goodIn_app (goodIn_of _ (by decide +kernel)) ggX5_letIn_X5_isOut
set_option maxRecDepth 20000 in
theorem ggX5_letIn_X8_at : GoodIn wsX5_letIn wsX8_at := goodIn_r _ [21, 22, 23, 103, 104, 105, 106] (by decide +kernel) (by decide +kernel)
set_option maxRecDepth 20000 in
theorem gX5_letIn_X8_at : GoodIn wsX5_letIn (wsV RX5 79 RX8 yX8_at wsX8_at) := goodIn_app (goodIn_of _ (by decide +kernel)) ggX5_letIn_X8_at
set_option maxRecDepth 20000 in
theorem ggX5_letIn_X2_bringTo : GoodIn wsX5_letIn wsX2_bringTo := goodIn_r _ [28, 29, 30, 31, 32, 33, 34, 35, 36, 37, 38, 39, 40, 41, 42, 43, 44, 45, 46, 47, 48, 49, 50, 51, 52, 53, 54, 55, 56, 57, 58, 59, 60, 61, 62, 63, 64, 65, 66, 67, 68, 69, 70, 71, 27, 72, 100, 101, 102, 107, 108, 109, 110, 111, 112, 113, 114, 115, 116, 117, 118, 119, 120, 121] (by decide +kernel) (by decide +kernel)
set_option maxRecDepth 20000 in
theorem gX5_letIn_X2_bringTo : GoodIn wsX5_letIn (wsV RX5 83 RX2 yX2_bringTo wsX2_bringTo) := goodIn_app (goodIn_of _ (by decide +kernel)) ggX5_letIn_X2_bringTo
set_option maxRecDepth 20000 in
theorem ggX5_letIn_X0_lateAt : GoodIn wsX5_letIn wsX0_lateAt := goodIn_r _ [76, 77, 78, 32, 33, 34, 79, 107, 108, 109, 110, 111, 112, 113, 114, 115, 116, 117, 118, 119, 120, 121] (by decide +kernel) (by decide +kernel)
set_option maxRecDepth 20000 in
theorem gX5_letIn_X0_lateAt : GoodIn wsX5_letIn (wsV RX5 90 RX0 yX0_lateAt wsX0_lateAt) := goodIn_app (goodIn_of _ (by decide +kernel)) ggX5_letIn_X0_lateAt
set_option maxRecDepth 20000 in
theorem ggX5_letIn_X1_lateAt : GoodIn wsX5_letIn wsX1_lateAt := goodIn_r _ [86] (by decide +kernel) (by decide +kernel)
set_option maxRecDepth 20000 in
theorem gX5_letIn_X1_lateAt_u90X1 : GoodIn wsX5_letIn (va_wsO RX5 90 RX1 "KeyOnStreet$House" ⟨"KeyOnStreet$House", "lateAt", "(I)I"⟩ yX1_lateAt wsX1_lateAt) := goodIn_app (goodIn_of _ (by decide +kernel)) ggX5_letIn_X1_lateAt
set_option maxRecDepth 20000 in
theorem gX5_letIn_X0_lateAt_u90X3 : GoodIn wsX5_letIn (va_wsU RX5 90 RX3 "KeyOnStreet$House" ⟨"KeyOnStreet$House", "lateAt", "(I)I"⟩ yX0_lateAt wsX0_lateAt) := goodIn_app (goodIn_of _ (by decide +kernel)) ggX5_letIn_X0_lateAt
set_option maxRecDepth 20000 in
theorem gX5_letIn_X0_lateAt_u90X4 : GoodIn wsX5_letIn (va_wsU RX5 90 RX4 "KeyOnStreet$House" ⟨"KeyOnStreet$House", "lateAt", "(I)I"⟩ yX0_lateAt wsX0_lateAt) := goodIn_app (goodIn_of _ (by decide +kernel)) ggX5_letIn_X0_lateAt
set_option maxRecDepth 20000 in
theorem gX5_letIn_X0_lateAt_u90X9 : GoodIn wsX5_letIn (va_wsU RX5 90 RX9 "KeyOnStreet$House" ⟨"KeyOnStreet$House", "lateAt", "(I)I"⟩ yX0_lateAt wsX0_lateAt) := goodIn_app (goodIn_of _ (by decide +kernel)) ggX5_letIn_X0_lateAt
theorem dX5_letIn_0 : decode cX5_letIn 0 = .ok (.aload_n 0, 1) := by decide +kernel
theorem dX5_letIn_1 : decode cX5_letIn 1 = .ok (.iload_n 1, 1) := by decide +kernel
theorem dX5_letIn_2 : decode cX5_letIn 2 = .ok (.invokevirtual 73, 3) := by decide +kernel
theorem dX5_letIn_5 : decode cX5_letIn 5 = .ok (.ifCond .ne 4, 3) := by decide +kernel
theorem dX5_letIn_8 : decode cX5_letIn 8 = .ok (.return_, 1) := by decide +kernel
theorem dX5_letIn_9 : decode cX5_letIn 9 = .ok (.aload_n 0, 1) := by decide +kernel
theorem dX5_letIn_10 : decode cX5_letIn 10 = .ok (.getfield 41, 3) := by decide +kernel
theorem dX5_letIn_13 : decode cX5_letIn 13 = .ok (.iload_n 1, 1) := by decide +kernel
theorem dX5_letIn_14 : decode cX5_letIn 14 = .ok (.invokevirtual 79, 3) := by decide +kernel
theorem dX5_letIn_17 : decode cX5_letIn 17 = .ok (.astore_n 2, 1) := by decide +kernel
theorem dX5_letIn_18 : decode cX5_letIn 18 = .ok (.aload_n 0, 1) := by decide +kernel
theorem dX5_letIn_19 : decode cX5_letIn 19 = .ok (.getfield 12, 3) := by decide +kernel
theorem dX5_letIn_22 : decode cX5_letIn 22 = .ok (.aload_n 2, 1) := by decide +kernel
theorem dX5_letIn_23 : decode cX5_letIn 23 = .ok (.invokevirtual 83, 3) := by decide +kernel
theorem dX5_letIn_26 : decode cX5_letIn 26 = .ok (.aload_n 0, 1) := by decide +kernel
theorem dX5_letIn_27 : decode cX5_letIn 27 = .ok (.getfield 18, 3) := by decide +kernel
theorem dX5_letIn_30 : decode cX5_letIn 30 = .ok (.iload_n 1, 1) := by decide +kernel
theorem dX5_letIn_31 : decode cX5_letIn 31 = .ok (.iconst (-1), 1) := by decide +kernel
theorem dX5_letIn_32 : decode cX5_letIn 32 = .ok (.iastore, 1) := by decide +kernel
theorem dX5_letIn_33 : decode cX5_letIn 33 = .ok (.aload_n 0, 1) := by decide +kernel
theorem dX5_letIn_34 : decode cX5_letIn 34 = .ok (.getfield 22, 3) := by decide +kernel
theorem dX5_letIn_37 : decode cX5_letIn 37 = .ok (.iload_n 1, 1) := by decide +kernel
theorem dX5_letIn_38 : decode cX5_letIn 38 = .ok (.aload_n 0, 1) := by decide +kernel
theorem dX5_letIn_39 : decode cX5_letIn 39 = .ok (.getfield 12, 3) := by decide +kernel
theorem dX5_letIn_42 : decode cX5_letIn 42 = .ok (.getfield 87, 3) := by decide +kernel
theorem dX5_letIn_45 : decode cX5_letIn 45 = .ok (.iastore, 1) := by decide +kernel
theorem dX5_letIn_46 : decode cX5_letIn 46 = .ok (.aload_n 0, 1) := by decide +kernel
theorem dX5_letIn_47 : decode cX5_letIn 47 = .ok (.getfield 25, 3) := by decide +kernel
theorem dX5_letIn_50 : decode cX5_letIn 50 = .ok (.iload_n 1, 1) := by decide +kernel
theorem dX5_letIn_51 : decode cX5_letIn 51 = .ok (.dup2, 1) := by decide +kernel
theorem dX5_letIn_52 : decode cX5_letIn 52 = .ok (.iaload, 1) := by decide +kernel
theorem dX5_letIn_53 : decode cX5_letIn 53 = .ok (.aload_n 2, 1) := by decide +kernel
theorem dX5_letIn_54 : decode cX5_letIn 54 = .ok (.aload_n 0, 1) := by decide +kernel
theorem dX5_letIn_55 : decode cX5_letIn 55 = .ok (.getfield 12, 3) := by decide +kernel
theorem dX5_letIn_58 : decode cX5_letIn 58 = .ok (.getfield 87, 3) := by decide +kernel
theorem dX5_letIn_61 : decode cX5_letIn 61 = .ok (.invokevirtual 90, 3) := by decide +kernel
theorem dX5_letIn_64 : decode cX5_letIn 64 = .ok (.iadd, 1) := by decide +kernel
theorem dX5_letIn_65 : decode cX5_letIn 65 = .ok (.iastore, 1) := by decide +kernel
theorem dX5_letIn_66 : decode cX5_letIn 66 = .ok (.return_, 1) := by decide +kernel
set_option maxRecDepth 20000 in
theorem ggX5_fall_X5_isOut : GoodIn wsX5_fall wsX5_isOut := goodIn_r _ [11, 1, 4, 12, 13, 14, 15, 16, 17, 48, 49, 50, 51, 52, 53, 54, 55, 56, 57, 58, 59, 60, 61] (by decide +kernel) (by decide +kernel)
set_option maxRecDepth 20000 in
theorem gX5_fall_X5_isOut : GoodIn wsX5_fall (wsV RX5 73 RX5 yX5_isOut wsX5_isOut) := goodIn_app (goodIn_of _ (by decide +kernel)) ggX5_fall_X5_isOut
set_option maxRecDepth 20000 in
theorem ggX5_fall_X8_at : GoodIn wsX5_fall wsX8_at := goodIn_r _ [21, 22, 23, 58, 59, 60, 61] (by decide +kernel) (by decide +kernel)
set_option maxRecDepth 20000 in
theorem gX5_fall_X8_at : GoodIn wsX5_fall (wsV RX5 79 RX8 yX8_at wsX8_at) := goodIn_app (goodIn_of _ (by decide +kernel)) ggX5_fall_X8_at
set_option maxRecDepth 20000 in
theorem ggX5_fall_X0_sleepersOut : GoodIn wsX5_fall wsX0_sleepersOut := goodIn_r _ [28, 29, 65, 66, 67, 68, 69, 70, 71, 72, 73, 74, 75, 76, 77, 78, 79] (by decide +kernel) (by decide +kernel)
set_option maxRecDepth 20000 in
theorem gX5_fall_X0_sleepersOut : GoodIn wsX5_fall (wsV RX5 98 RX0 yX0_sleepersOut wsX0_sleepersOut) := goodIn_app (goodIn_of _ (by decide +kernel)) ggX5_fall_X0_sleepersOut
set_option maxRecDepth 20000 in
theorem ggX5_fall_X1_sleepersOut : GoodIn wsX5_fall wsX1_sleepersOut := goodIn_r _ [36] (by decide +kernel) (by decide +kernel)
set_option maxRecDepth 20000 in
theorem gX5_fall_X1_sleepersOut_u98X1 : GoodIn wsX5_fall (va_wsO RX5 98 RX1 "KeyOnStreet$House" ⟨"KeyOnStreet$House", "sleepersOut", "()I"⟩ yX1_sleepersOut wsX1_sleepersOut) := goodIn_app (goodIn_of _ (by decide +kernel)) ggX5_fall_X1_sleepersOut
set_option maxRecDepth 20000 in
theorem gX5_fall_X0_sleepersOut_u98X3 : GoodIn wsX5_fall (va_wsU RX5 98 RX3 "KeyOnStreet$House" ⟨"KeyOnStreet$House", "sleepersOut", "()I"⟩ yX0_sleepersOut wsX0_sleepersOut) := goodIn_app (goodIn_of _ (by decide +kernel)) ggX5_fall_X0_sleepersOut
set_option maxRecDepth 20000 in
theorem gX5_fall_X0_sleepersOut_u98X4 : GoodIn wsX5_fall (va_wsU RX5 98 RX4 "KeyOnStreet$House" ⟨"KeyOnStreet$House", "sleepersOut", "()I"⟩ yX0_sleepersOut wsX0_sleepersOut) := goodIn_app (goodIn_of _ (by decide +kernel)) ggX5_fall_X0_sleepersOut
set_option maxRecDepth 20000 in
theorem gX5_fall_X0_sleepersOut_u98X9 : GoodIn wsX5_fall (va_wsU RX5 98 RX9 "KeyOnStreet$House" ⟨"KeyOnStreet$House", "sleepersOut", "()I"⟩ yX0_sleepersOut wsX0_sleepersOut) := goodIn_app (goodIn_of _ (by decide +kernel)) ggX5_fall_X0_sleepersOut
set_option maxRecDepth 20000 in
theorem ggX5_fall_X2_put : GoodIn wsX5_fall wsX2_put := goodIn_r _ [44, 45, 46, 47, 62, 63, 64] (by decide +kernel) (by decide +kernel)
set_option maxRecDepth 20000 in
theorem gX5_fall_X2_put : GoodIn wsX5_fall (wsV RX5 45 RX2 yX2_put wsX2_put) := goodIn_app (goodIn_of _ (by decide +kernel)) ggX5_fall_X2_put
theorem dX5_fall_0 : decode cX5_fall 0 = .ok (.iconst 0, 1) := by decide +kernel
theorem dX5_fall_1 : decode cX5_fall 1 = .ok (.istore_n 1, 1) := by decide +kernel
theorem dX5_fall_2 : decode cX5_fall 2 = .ok (.iconst 0, 1) := by decide +kernel
theorem dX5_fall_3 : decode cX5_fall 3 = .ok (.istore_n 2, 1) := by decide +kernel
theorem dX5_fall_4 : decode cX5_fall 4 = .ok (.iload_n 2, 1) := by decide +kernel
theorem dX5_fall_5 : decode cX5_fall 5 = .ok (.aload_n 0, 1) := by decide +kernel
theorem dX5_fall_6 : decode cX5_fall 6 = .ok (.getfield 41, 3) := by decide +kernel
theorem dX5_fall_9 : decode cX5_fall 9 = .ok (.getfield 95, 3) := by decide +kernel
theorem dX5_fall_12 : decode cX5_fall 12 = .ok (.if_icmp .ge 50, 3) := by decide +kernel
theorem dX5_fall_15 : decode cX5_fall 15 = .ok (.aload_n 0, 1) := by decide +kernel
theorem dX5_fall_16 : decode cX5_fall 16 = .ok (.iload_n 2, 1) := by decide +kernel
theorem dX5_fall_17 : decode cX5_fall 17 = .ok (.invokevirtual 73, 3) := by decide +kernel
theorem dX5_fall_20 : decode cX5_fall 20 = .ok (.ifCond .eq 36, 3) := by decide +kernel
theorem dX5_fall_23 : decode cX5_fall 23 = .ok (.aload_n 0, 1) := by decide +kernel
theorem dX5_fall_24 : decode cX5_fall 24 = .ok (.getfield 41, 3) := by decide +kernel
theorem dX5_fall_27 : decode cX5_fall 27 = .ok (.iload_n 2, 1) := by decide +kernel
theorem dX5_fall_28 : decode cX5_fall 28 = .ok (.invokevirtual 79, 3) := by decide +kernel
theorem dX5_fall_31 : decode cX5_fall 31 = .ok (.invokevirtual 98, 3) := by decide +kernel
theorem dX5_fall_34 : decode cX5_fall 34 = .ok (.istore_n 3, 1) := by decide +kernel
theorem dX5_fall_35 : decode cX5_fall 35 = .ok (.aload_n 0, 1) := by decide +kernel
theorem dX5_fall_36 : decode cX5_fall 36 = .ok (.getfield 28, 3) := by decide +kernel
theorem dX5_fall_39 : decode cX5_fall 39 = .ok (.iload_n 2, 1) := by decide +kernel
theorem dX5_fall_40 : decode cX5_fall 40 = .ok (.dup2, 1) := by decide +kernel
theorem dX5_fall_41 : decode cX5_fall 41 = .ok (.iaload, 1) := by decide +kernel
theorem dX5_fall_42 : decode cX5_fall 42 = .ok (.iload_n 3, 1) := by decide +kernel
theorem dX5_fall_43 : decode cX5_fall 43 = .ok (.iadd, 1) := by decide +kernel
theorem dX5_fall_44 : decode cX5_fall 44 = .ok (.iastore, 1) := by decide +kernel
theorem dX5_fall_45 : decode cX5_fall 45 = .ok (.iload_n 1, 1) := by decide +kernel
theorem dX5_fall_46 : decode cX5_fall 46 = .ok (.iload_n 3, 1) := by decide +kernel
theorem dX5_fall_47 : decode cX5_fall 47 = .ok (.iadd, 1) := by decide +kernel
theorem dX5_fall_48 : decode cX5_fall 48 = .ok (.istore_n 1, 1) := by decide +kernel
theorem dX5_fall_49 : decode cX5_fall 49 = .ok (.aload_n 0, 1) := by decide +kernel
theorem dX5_fall_50 : decode cX5_fall 50 = .ok (.getfield 18, 3) := by decide +kernel
theorem dX5_fall_53 : decode cX5_fall 53 = .ok (.iload_n 2, 1) := by decide +kernel
theorem dX5_fall_54 : decode cX5_fall 54 = .ok (.iconst 0, 1) := by decide +kernel
theorem dX5_fall_55 : decode cX5_fall 55 = .ok (.iastore, 1) := by decide +kernel
theorem dX5_fall_56 : decode cX5_fall 56 = .ok (.iinc 2 1, 3) := by decide +kernel
theorem dX5_fall_59 : decode cX5_fall 59 = .ok (.goto (-55), 3) := by decide +kernel
theorem dX5_fall_62 : decode cX5_fall 62 = .ok (.aload_n 0, 1) := by decide +kernel
theorem dX5_fall_63 : decode cX5_fall 63 = .ok (.getfield 12, 3) := by decide +kernel
theorem dX5_fall_66 : decode cX5_fall 66 = .ok (.aload_n 0, 1) := by decide +kernel
theorem dX5_fall_67 : decode cX5_fall 67 = .ok (.getfield 12, 3) := by decide +kernel
theorem dX5_fall_70 : decode cX5_fall 70 = .ok (.getfield 101, 3) := by decide +kernel
theorem dX5_fall_73 : decode cX5_fall 73 = .ok (.iconst 0, 1) := by decide +kernel
theorem dX5_fall_74 : decode cX5_fall 74 = .ok (.iconst 0, 1) := by decide +kernel
theorem dX5_fall_75 : decode cX5_fall 75 = .ok (.invokevirtual 45, 3) := by decide +kernel
theorem dX5_fall_78 : decode cX5_fall 78 = .ok (.iload_n 1, 1) := by decide +kernel
theorem dX5_fall_79 : decode cX5_fall 79 = .ok (.ireturn, 1) := by decide +kernel
set_option maxRecDepth 20000 in
theorem ggX5_nextBy_X5_waiting : GoodIn wsX5_nextBy wsX5_waiting := goodIn_r _ [8, 9, 34, 35, 36, 37, 38, 39, 40, 41, 42, 43] (by decide +kernel) (by decide +kernel)
set_option maxRecDepth 20000 in
theorem gX5_nextBy_X5_waiting : GoodIn wsX5_nextBy (wsV RX5 63 RX5 yX5_waiting wsX5_waiting) := goodIn_app (goodIn_of _ (by decide +kernel)) ggX5_nextBy_X5_waiting
set_option maxRecDepth 20000 in
theorem ggX5_nextBy_X8_mayBeOpened : GoodIn wsX5_nextBy wsX8_mayBeOpened := goodIn_r _ [14, 15, 44, 45, 46, 47] (by decide +kernel) (by decide +kernel)
set_option maxRecDepth 20000 in
theorem gX5_nextBy_X8_mayBeOpened : GoodIn wsX5_nextBy (wsV RX5 76 RX8 yX8_mayBeOpened wsX8_mayBeOpened) := goodIn_app (goodIn_of _ (by decide +kernel)) ggX5_nextBy_X8_mayBeOpened
set_option maxRecDepth 20000 in
theorem ggX5_nextBy_X5_rankBy : GoodIn wsX5_nextBy wsX5_rankBy := goodIn_r _ [19, 9, 20, 21, 1, 22, 23, 24, 25, 26, 27, 28, 29, 30, 13, 31, 32, 33, 34, 35, 36, 37, 38, 39, 40, 41, 42, 43, 48, 49, 50, 51, 52, 53, 54, 55, 56, 57, 58, 59, 60, 61, 62, 63, 64, 65, 44, 45, 46, 47] (by decide +kernel) (by decide +kernel)
set_option maxRecDepth 20000 in
theorem gX5_nextBy_X5_rankBy : GoodIn wsX5_nextBy (wsV RX5 105 RX5 yX5_rankBy wsX5_rankBy) := goodIn_app (goodIn_of _ (by decide +kernel)) ggX5_nextBy_X5_rankBy
theorem dX5_nextBy_0 : decode cX5_nextBy 0 = .ok (.aload_n 0, 1) := by decide +kernel
theorem dX5_nextBy_1 : decode cX5_nextBy 1 = .ok (.getfield 41, 3) := by decide +kernel
theorem dX5_nextBy_4 : decode cX5_nextBy 4 = .ok (.aload_n 0, 1) := by decide +kernel
theorem dX5_nextBy_5 : decode cX5_nextBy 5 = .ok (.invokevirtual 63, 3) := by decide +kernel
theorem dX5_nextBy_8 : decode cX5_nextBy 8 = .ok (.invokevirtual 76, 3) := by decide +kernel
theorem dX5_nextBy_11 : decode cX5_nextBy 11 = .ok (.istore_n 2, 1) := by decide +kernel
theorem dX5_nextBy_12 : decode cX5_nextBy 12 = .ok (.iconst (-1), 1) := by decide +kernel
theorem dX5_nextBy_13 : decode cX5_nextBy 13 = .ok (.istore_n 3, 1) := by decide +kernel
theorem dX5_nextBy_14 : decode cX5_nextBy 14 = .ok (.ldc 104, 2) := by decide +kernel
theorem dX5_nextBy_16 : decode cX5_nextBy 16 = .ok (.istore 4, 2) := by decide +kernel
theorem dX5_nextBy_18 : decode cX5_nextBy 18 = .ok (.iconst 0, 1) := by decide +kernel
theorem dX5_nextBy_19 : decode cX5_nextBy 19 = .ok (.istore 5, 2) := by decide +kernel
theorem dX5_nextBy_21 : decode cX5_nextBy 21 = .ok (.iload 5, 2) := by decide +kernel
theorem dX5_nextBy_23 : decode cX5_nextBy 23 = .ok (.aload_n 0, 1) := by decide +kernel
theorem dX5_nextBy_24 : decode cX5_nextBy 24 = .ok (.getfield 41, 3) := by decide +kernel
theorem dX5_nextBy_27 : decode cX5_nextBy 27 = .ok (.getfield 95, 3) := by decide +kernel
theorem dX5_nextBy_30 : decode cX5_nextBy 30 = .ok (.if_icmp .ge 42, 3) := by decide +kernel
theorem dX5_nextBy_33 : decode cX5_nextBy 33 = .ok (.aload_n 0, 1) := by decide +kernel
theorem dX5_nextBy_34 : decode cX5_nextBy 34 = .ok (.iload_n 1, 1) := by decide +kernel
theorem dX5_nextBy_35 : decode cX5_nextBy 35 = .ok (.iload 5, 2) := by decide +kernel
theorem dX5_nextBy_37 : decode cX5_nextBy 37 = .ok (.invokevirtual 105, 3) := by decide +kernel
theorem dX5_nextBy_40 : decode cX5_nextBy 40 = .ok (.istore 6, 2) := by decide +kernel
theorem dX5_nextBy_42 : decode cX5_nextBy 42 = .ok (.iload_n 2, 1) := by decide +kernel
theorem dX5_nextBy_43 : decode cX5_nextBy 43 = .ok (.iload 5, 2) := by decide +kernel
theorem dX5_nextBy_45 : decode cX5_nextBy 45 = .ok (.ishr, 1) := by decide +kernel
theorem dX5_nextBy_46 : decode cX5_nextBy 46 = .ok (.iconst 1, 1) := by decide +kernel
theorem dX5_nextBy_47 : decode cX5_nextBy 47 = .ok (.iand, 1) := by decide +kernel
theorem dX5_nextBy_48 : decode cX5_nextBy 48 = .ok (.iconst 1, 1) := by decide +kernel
theorem dX5_nextBy_49 : decode cX5_nextBy 49 = .ok (.if_icmp .ne 17, 3) := by decide +kernel
theorem dX5_nextBy_52 : decode cX5_nextBy 52 = .ok (.iload 6, 2) := by decide +kernel
theorem dX5_nextBy_54 : decode cX5_nextBy 54 = .ok (.iload 4, 2) := by decide +kernel
theorem dX5_nextBy_56 : decode cX5_nextBy 56 = .ok (.if_icmp .ge 10, 3) := by decide +kernel
theorem dX5_nextBy_59 : decode cX5_nextBy 59 = .ok (.iload 6, 2) := by decide +kernel
theorem dX5_nextBy_61 : decode cX5_nextBy 61 = .ok (.istore 4, 2) := by decide +kernel
theorem dX5_nextBy_63 : decode cX5_nextBy 63 = .ok (.iload 5, 2) := by decide +kernel
theorem dX5_nextBy_65 : decode cX5_nextBy 65 = .ok (.istore_n 3, 1) := by decide +kernel
theorem dX5_nextBy_66 : decode cX5_nextBy 66 = .ok (.iinc 5 1, 3) := by decide +kernel
theorem dX5_nextBy_69 : decode cX5_nextBy 69 = .ok (.goto (-48), 3) := by decide +kernel
theorem dX5_nextBy_72 : decode cX5_nextBy 72 = .ok (.iload_n 3, 1) := by decide +kernel
theorem dX5_nextBy_73 : decode cX5_nextBy 73 = .ok (.ireturn, 1) := by decide +kernel
set_option maxRecDepth 20000 in
theorem ggX5_rankBy_X8_at : GoodIn wsX5_rankBy wsX8_at := goodIn_r _ [15, 16, 17, 46, 47, 48, 49] (by decide +kernel) (by decide +kernel)
set_option maxRecDepth 20000 in
theorem gX5_rankBy_X8_at : GoodIn wsX5_rankBy (wsV RX5 79 RX8 yX8_at wsX8_at) := goodIn_app (goodIn_of _ (by decide +kernel)) ggX5_rankBy_X8_at
theorem dX5_rankBy_0 : decode cX5_rankBy 0 = .ok (.iload_n 1, 1) := by decide +kernel
theorem dX5_rankBy_1 : decode cX5_rankBy 1 = .ok (.lookupswitch 57 #[(0, 27), (1, 34)], 27) := by decide +kernel
theorem dX5_rankBy_28 : decode cX5_rankBy 28 = .ok (.aload_n 0, 1) := by decide +kernel
theorem dX5_rankBy_29 : decode cX5_rankBy 29 = .ok (.getfield 18, 3) := by decide +kernel
theorem dX5_rankBy_32 : decode cX5_rankBy 32 = .ok (.iload_n 2, 1) := by decide +kernel
theorem dX5_rankBy_33 : decode cX5_rankBy 33 = .ok (.iaload, 1) := by decide +kernel
theorem dX5_rankBy_34 : decode cX5_rankBy 34 = .ok (.ireturn, 1) := by decide +kernel
theorem dX5_rankBy_35 : decode cX5_rankBy 35 = .ok (.aload_n 0, 1) := by decide +kernel
theorem dX5_rankBy_36 : decode cX5_rankBy 36 = .ok (.getfield 12, 3) := by decide +kernel
theorem dX5_rankBy_39 : decode cX5_rankBy 39 = .ok (.getfield 101, 3) := by decide +kernel
theorem dX5_rankBy_42 : decode cX5_rankBy 42 = .ok (.aload_n 0, 1) := by decide +kernel
theorem dX5_rankBy_43 : decode cX5_rankBy 43 = .ok (.getfield 41, 3) := by decide +kernel
theorem dX5_rankBy_46 : decode cX5_rankBy 46 = .ok (.iload_n 2, 1) := by decide +kernel
theorem dX5_rankBy_47 : decode cX5_rankBy 47 = .ok (.invokevirtual 79, 3) := by decide +kernel
theorem dX5_rankBy_50 : decode cX5_rankBy 50 = .ok (.getfield 109, 3) := by decide +kernel
theorem dX5_rankBy_53 : decode cX5_rankBy 53 = .ok (.isub, 1) := by decide +kernel
theorem dX5_rankBy_54 : decode cX5_rankBy 54 = .ok (.invokestatic 110, 3) := by decide +kernel
theorem dX5_rankBy_57 : decode cX5_rankBy 57 = .ok (.ireturn, 1) := by decide +kernel
theorem dX5_rankBy_58 : decode cX5_rankBy 58 = .ok (.aload_n 0, 1) := by decide +kernel
theorem dX5_rankBy_59 : decode cX5_rankBy 59 = .ok (.getfield 41, 3) := by decide +kernel
theorem dX5_rankBy_62 : decode cX5_rankBy 62 = .ok (.iload_n 2, 1) := by decide +kernel
theorem dX5_rankBy_63 : decode cX5_rankBy 63 = .ok (.invokevirtual 79, 3) := by decide +kernel
theorem dX5_rankBy_66 : decode cX5_rankBy 66 = .ok (.getfield 115, 3) := by decide +kernel
theorem dX5_rankBy_69 : decode cX5_rankBy 69 = .ok (.ireturn, 1) := by decide +kernel
set_option maxRecDepth 20000 in
theorem ggX5_letAllIn_X5_nextBy : GoodIn wsX5_letAllIn wsX5_nextBy := goodIn_r _ [5, 6, 7, 8, 9, 10, 11, 4, 12, 13, 14, 15, 16, 17, 18, 19, 20, 21, 22, 23, 24, 25, 26, 27, 28, 29, 30, 31, 32, 33, 34, 35, 36, 37, 117, 118, 119, 120, 121, 122, 123, 124, 125, 126, 127, 128, 129, 130, 131, 132, 133, 134, 135, 136, 137, 138, 139, 140, 141, 142, 143, 144, 145, 146, 147, 148] (by decide +kernel) (by decide +kernel)
set_option maxRecDepth 20000 in
theorem gX5_letAllIn_X5_nextBy : GoodIn wsX5_letAllIn (wsV RX5 118 RX5 yX5_nextBy wsX5_nextBy) := goodIn_app (goodIn_of _ (by decide +kernel)) ggX5_letAllIn_X5_nextBy
set_option maxRecDepth 20000 in
theorem ggX5_letAllIn_X5_letIn : GoodIn wsX5_letAllIn wsX5_letIn := goodIn_r _ [41, 6, 24, 13, 42, 43, 44, 45, 46, 47, 4, 48, 49, 50, 51, 17, 52, 53, 32, 33, 34, 35, 36, 37, 54, 55, 56, 57, 58, 59, 60, 61, 62, 29, 63, 64, 65, 66, 28, 30, 67, 68, 69, 70, 71, 72, 73, 74, 75, 76, 77, 78, 79, 80, 81, 82, 83, 84, 85, 86, 87, 88, 89, 90, 91, 92, 93, 94, 95, 96, 97, 98, 99, 100, 101, 102, 103, 104, 105, 106, 107, 108, 109, 110, 111, 112, 113, 114, 115, 116, 117, 118, 119, 120, 121, 122, 123, 124, 125, 126, 131, 132, 133, 127, 128, 129, 130, 134, 135, 136, 137, 138, 139, 140, 141, 142, 143, 144, 145, 146, 147, 148] (by decide +kernel) (by decide +kernel)
set_option maxRecDepth 20000 in
theorem gX5_letAllIn_X5_letIn : GoodIn wsX5_letAllIn (wsV RX5 121 RX5 yX5_letIn wsX5_letIn) := goodIn_app (goodIn_of _ (by decide +kernel)) ggX5_letAllIn_X5_letIn
theorem dX5_letAllIn_0 : decode cX5_letAllIn 0 = .ok (.iconst 0, 1) := by decide +kernel
theorem dX5_letAllIn_1 : decode cX5_letAllIn 1 = .ok (.istore_n 2, 1) := by decide +kernel
theorem dX5_letAllIn_2 : decode cX5_letAllIn 2 = .ok (.iload_n 2, 1) := by decide +kernel
theorem dX5_letAllIn_3 : decode cX5_letAllIn 3 = .ok (.bipush 6, 2) := by decide +kernel
theorem dX5_letAllIn_5 : decode cX5_letAllIn 5 = .ok (.if_icmp .ge 26, 3) := by decide +kernel
theorem dX5_letAllIn_8 : decode cX5_letAllIn 8 = .ok (.aload_n 0, 1) := by decide +kernel
theorem dX5_letAllIn_9 : decode cX5_letAllIn 9 = .ok (.iload_n 1, 1) := by decide +kernel
theorem dX5_letAllIn_10 : decode cX5_letAllIn 10 = .ok (.invokevirtual 118, 3) := by decide +kernel
theorem dX5_letAllIn_13 : decode cX5_letAllIn 13 = .ok (.istore_n 3, 1) := by decide +kernel
theorem dX5_letAllIn_14 : decode cX5_letAllIn 14 = .ok (.iload_n 3, 1) := by decide +kernel
theorem dX5_letAllIn_15 : decode cX5_letAllIn 15 = .ok (.iconst (-1), 1) := by decide +kernel
theorem dX5_letAllIn_16 : decode cX5_letAllIn 16 = .ok (.if_icmp .ne 4, 3) := by decide +kernel
theorem dX5_letAllIn_19 : decode cX5_letAllIn 19 = .ok (.return_, 1) := by decide +kernel
theorem dX5_letAllIn_20 : decode cX5_letAllIn 20 = .ok (.aload_n 0, 1) := by decide +kernel
theorem dX5_letAllIn_21 : decode cX5_letAllIn 21 = .ok (.iload_n 3, 1) := by decide +kernel
theorem dX5_letAllIn_22 : decode cX5_letAllIn 22 = .ok (.invokevirtual 121, 3) := by decide +kernel
theorem dX5_letAllIn_25 : decode cX5_letAllIn 25 = .ok (.iinc 2 1, 3) := by decide +kernel
theorem dX5_letAllIn_28 : decode cX5_letAllIn 28 = .ok (.goto (-26), 3) := by decide +kernel
theorem dX5_letAllIn_31 : decode cX5_letAllIn 31 = .ok (.return_, 1) := by decide +kernel
theorem dX5_lateOfAll_0 : decode cX5_lateOfAll 0 = .ok (.iconst 0, 1) := by decide +kernel
theorem dX5_lateOfAll_1 : decode cX5_lateOfAll 1 = .ok (.istore_n 1, 1) := by decide +kernel
theorem dX5_lateOfAll_2 : decode cX5_lateOfAll 2 = .ok (.iconst 0, 1) := by decide +kernel
theorem dX5_lateOfAll_3 : decode cX5_lateOfAll 3 = .ok (.istore_n 2, 1) := by decide +kernel
theorem dX5_lateOfAll_4 : decode cX5_lateOfAll 4 = .ok (.iload_n 2, 1) := by decide +kernel
theorem dX5_lateOfAll_5 : decode cX5_lateOfAll 5 = .ok (.bipush 6, 2) := by decide +kernel
theorem dX5_lateOfAll_7 : decode cX5_lateOfAll 7 = .ok (.if_icmp .ge 18, 3) := by decide +kernel
theorem dX5_lateOfAll_10 : decode cX5_lateOfAll 10 = .ok (.iload_n 1, 1) := by decide +kernel
theorem dX5_lateOfAll_11 : decode cX5_lateOfAll 11 = .ok (.aload_n 0, 1) := by decide +kernel
theorem dX5_lateOfAll_12 : decode cX5_lateOfAll 12 = .ok (.getfield 25, 3) := by decide +kernel
theorem dX5_lateOfAll_15 : decode cX5_lateOfAll 15 = .ok (.iload_n 2, 1) := by decide +kernel
theorem dX5_lateOfAll_16 : decode cX5_lateOfAll 16 = .ok (.iaload, 1) := by decide +kernel
theorem dX5_lateOfAll_17 : decode cX5_lateOfAll 17 = .ok (.iadd, 1) := by decide +kernel
theorem dX5_lateOfAll_18 : decode cX5_lateOfAll 18 = .ok (.istore_n 1, 1) := by decide +kernel
theorem dX5_lateOfAll_19 : decode cX5_lateOfAll 19 = .ok (.iinc 2 1, 3) := by decide +kernel
theorem dX5_lateOfAll_22 : decode cX5_lateOfAll 22 = .ok (.goto (-18), 3) := by decide +kernel
theorem dX5_lateOfAll_25 : decode cX5_lateOfAll 25 = .ok (.iload_n 1, 1) := by decide +kernel
theorem dX5_lateOfAll_26 : decode cX5_lateOfAll 26 = .ok (.ireturn, 1) := by decide +kernel
theorem dX5_outOfAll_0 : decode cX5_outOfAll 0 = .ok (.iconst 0, 1) := by decide +kernel
theorem dX5_outOfAll_1 : decode cX5_outOfAll 1 = .ok (.istore_n 1, 1) := by decide +kernel
theorem dX5_outOfAll_2 : decode cX5_outOfAll 2 = .ok (.iconst 0, 1) := by decide +kernel
theorem dX5_outOfAll_3 : decode cX5_outOfAll 3 = .ok (.istore_n 2, 1) := by decide +kernel
theorem dX5_outOfAll_4 : decode cX5_outOfAll 4 = .ok (.iload_n 2, 1) := by decide +kernel
theorem dX5_outOfAll_5 : decode cX5_outOfAll 5 = .ok (.bipush 6, 2) := by decide +kernel
theorem dX5_outOfAll_7 : decode cX5_outOfAll 7 = .ok (.if_icmp .ge 18, 3) := by decide +kernel
theorem dX5_outOfAll_10 : decode cX5_outOfAll 10 = .ok (.iload_n 1, 1) := by decide +kernel
theorem dX5_outOfAll_11 : decode cX5_outOfAll 11 = .ok (.aload_n 0, 1) := by decide +kernel
theorem dX5_outOfAll_12 : decode cX5_outOfAll 12 = .ok (.getfield 28, 3) := by decide +kernel
theorem dX5_outOfAll_15 : decode cX5_outOfAll 15 = .ok (.iload_n 2, 1) := by decide +kernel
theorem dX5_outOfAll_16 : decode cX5_outOfAll 16 = .ok (.iaload, 1) := by decide +kernel
theorem dX5_outOfAll_17 : decode cX5_outOfAll 17 = .ok (.iadd, 1) := by decide +kernel
theorem dX5_outOfAll_18 : decode cX5_outOfAll 18 = .ok (.istore_n 1, 1) := by decide +kernel
theorem dX5_outOfAll_19 : decode cX5_outOfAll 19 = .ok (.iinc 2 1, 3) := by decide +kernel
theorem dX5_outOfAll_22 : decode cX5_outOfAll 22 = .ok (.goto (-18), 3) := by decide +kernel
theorem dX5_outOfAll_25 : decode cX5_outOfAll 25 = .ok (.iload_n 1, 1) := by decide +kernel
theorem dX5_outOfAll_26 : decode cX5_outOfAll 26 = .ok (.ireturn, 1) := by decide +kernel
theorem dX5_note_0 : decode cX5_note 0 = .ok (.aload_n 0, 1) := by decide +kernel
theorem dX5_note_1 : decode cX5_note 1 = .ok (.getfield 49, 3) := by decide +kernel
theorem dX5_note_4 : decode cX5_note 4 = .ok (.bipush 6, 2) := by decide +kernel
theorem dX5_note_6 : decode cX5_note 6 = .ok (.if_icmp .lt 5, 3) := by decide +kernel
theorem dX5_note_9 : decode cX5_note 9 = .ok (.iconst 0, 1) := by decide +kernel
theorem dX5_note_10 : decode cX5_note 10 = .ok (.ireturn, 1) := by decide +kernel
theorem dX5_note_11 : decode cX5_note 11 = .ok (.aload_n 0, 1) := by decide +kernel
theorem dX5_note_12 : decode cX5_note 12 = .ok (.getfield 31, 3) := by decide +kernel
theorem dX5_note_15 : decode cX5_note 15 = .ok (.aload_n 0, 1) := by decide +kernel
theorem dX5_note_16 : decode cX5_note 16 = .ok (.getfield 49, 3) := by decide +kernel
theorem dX5_note_19 : decode cX5_note 19 = .ok (.iload_n 1, 1) := by decide +kernel
theorem dX5_note_20 : decode cX5_note 20 = .ok (.iastore, 1) := by decide +kernel
theorem dX5_note_21 : decode cX5_note 21 = .ok (.aload_n 0, 1) := by decide +kernel
theorem dX5_note_22 : decode cX5_note 22 = .ok (.getfield 34, 3) := by decide +kernel
theorem dX5_note_25 : decode cX5_note 25 = .ok (.aload_n 0, 1) := by decide +kernel
theorem dX5_note_26 : decode cX5_note 26 = .ok (.getfield 49, 3) := by decide +kernel
theorem dX5_note_29 : decode cX5_note 29 = .ok (.iload_n 2, 1) := by decide +kernel
theorem dX5_note_30 : decode cX5_note 30 = .ok (.iastore, 1) := by decide +kernel
theorem dX5_note_31 : decode cX5_note 31 = .ok (.aload_n 0, 1) := by decide +kernel
theorem dX5_note_32 : decode cX5_note 32 = .ok (.getfield 37, 3) := by decide +kernel
theorem dX5_note_35 : decode cX5_note 35 = .ok (.aload_n 0, 1) := by decide +kernel
theorem dX5_note_36 : decode cX5_note 36 = .ok (.getfield 49, 3) := by decide +kernel
theorem dX5_note_39 : decode cX5_note 39 = .ok (.iload_n 3, 1) := by decide +kernel
theorem dX5_note_40 : decode cX5_note 40 = .ok (.bastore, 1) := by decide +kernel
theorem dX5_note_41 : decode cX5_note 41 = .ok (.aload_n 0, 1) := by decide +kernel
theorem dX5_note_42 : decode cX5_note 42 = .ok (.dup, 1) := by decide +kernel
theorem dX5_note_43 : decode cX5_note 43 = .ok (.getfield 49, 3) := by decide +kernel
theorem dX5_note_46 : decode cX5_note 46 = .ok (.iconst 1, 1) := by decide +kernel
theorem dX5_note_47 : decode cX5_note 47 = .ok (.iadd, 1) := by decide +kernel
theorem dX5_note_48 : decode cX5_note 48 = .ok (.putfield 49, 3) := by decide +kernel
theorem dX5_note_51 : decode cX5_note 51 = .ok (.iconst 1, 1) := by decide +kernel
theorem dX5_note_52 : decode cX5_note 52 = .ok (.ireturn, 1) := by decide +kernel
set_option maxRecDepth 20000 in
theorem ggX5_isAsSeen_X5_wasInBy : GoodIn wsX5_isAsSeen wsX5_wasInBy := goodIn_r _ [9, 10, 11, 12, 13, 14, 15, 16, 17, 18, 19, 20, 21, 22, 23, 24, 25, 26, 27, 28, 29, 30, 31] (by decide +kernel) (by decide +kernel)
set_option maxRecDepth 20000 in
theorem gX5_isAsSeen_X5_wasInBy : GoodIn wsX5_isAsSeen (wsV RX5 125 RX5 yX5_wasInBy wsX5_wasInBy) := goodIn_app (goodIn_of _ (by decide +kernel)) ggX5_isAsSeen_X5_wasInBy
theorem dX5_isAsSeen_0 : decode cX5_isAsSeen 0 = .ok (.iconst 0, 1) := by decide +kernel
theorem dX5_isAsSeen_1 : decode cX5_isAsSeen 1 = .ok (.istore_n 1, 1) := by decide +kernel
theorem dX5_isAsSeen_2 : decode cX5_isAsSeen 2 = .ok (.iload_n 1, 1) := by decide +kernel
theorem dX5_isAsSeen_3 : decode cX5_isAsSeen 3 = .ok (.aload_n 0, 1) := by decide +kernel
theorem dX5_isAsSeen_4 : decode cX5_isAsSeen 4 = .ok (.getfield 49, 3) := by decide +kernel
theorem dX5_isAsSeen_7 : decode cX5_isAsSeen 7 = .ok (.if_icmp .ge 42, 3) := by decide +kernel
theorem dX5_isAsSeen_10 : decode cX5_isAsSeen 10 = .ok (.iload_n 1, 1) := by decide +kernel
theorem dX5_isAsSeen_11 : decode cX5_isAsSeen 11 = .ok (.bipush 6, 2) := by decide +kernel
theorem dX5_isAsSeen_13 : decode cX5_isAsSeen 13 = .ok (.if_icmp .ge 36, 3) := by decide +kernel
theorem dX5_isAsSeen_16 : decode cX5_isAsSeen 16 = .ok (.aload_n 0, 1) := by decide +kernel
theorem dX5_isAsSeen_17 : decode cX5_isAsSeen 17 = .ok (.aload_n 0, 1) := by decide +kernel
theorem dX5_isAsSeen_18 : decode cX5_isAsSeen 18 = .ok (.getfield 31, 3) := by decide +kernel
theorem dX5_isAsSeen_21 : decode cX5_isAsSeen 21 = .ok (.iload_n 1, 1) := by decide +kernel
theorem dX5_isAsSeen_22 : decode cX5_isAsSeen 22 = .ok (.iaload, 1) := by decide +kernel
theorem dX5_isAsSeen_23 : decode cX5_isAsSeen 23 = .ok (.aload_n 0, 1) := by decide +kernel
theorem dX5_isAsSeen_24 : decode cX5_isAsSeen 24 = .ok (.getfield 34, 3) := by decide +kernel
theorem dX5_isAsSeen_27 : decode cX5_isAsSeen 27 = .ok (.iload_n 1, 1) := by decide +kernel
theorem dX5_isAsSeen_28 : decode cX5_isAsSeen 28 = .ok (.iaload, 1) := by decide +kernel
theorem dX5_isAsSeen_29 : decode cX5_isAsSeen 29 = .ok (.invokevirtual 125, 3) := by decide +kernel
theorem dX5_isAsSeen_32 : decode cX5_isAsSeen 32 = .ok (.aload_n 0, 1) := by decide +kernel
theorem dX5_isAsSeen_33 : decode cX5_isAsSeen 33 = .ok (.getfield 37, 3) := by decide +kernel
theorem dX5_isAsSeen_36 : decode cX5_isAsSeen 36 = .ok (.iload_n 1, 1) := by decide +kernel
theorem dX5_isAsSeen_37 : decode cX5_isAsSeen 37 = .ok (.baload, 1) := by decide +kernel
theorem dX5_isAsSeen_38 : decode cX5_isAsSeen 38 = .ok (.if_icmp .eq 5, 3) := by decide +kernel
theorem dX5_isAsSeen_41 : decode cX5_isAsSeen 41 = .ok (.iconst 0, 1) := by decide +kernel
theorem dX5_isAsSeen_42 : decode cX5_isAsSeen 42 = .ok (.ireturn, 1) := by decide +kernel
theorem dX5_isAsSeen_43 : decode cX5_isAsSeen 43 = .ok (.iinc 1 1, 3) := by decide +kernel
theorem dX5_isAsSeen_46 : decode cX5_isAsSeen 46 = .ok (.goto (-44), 3) := by decide +kernel
theorem dX5_isAsSeen_49 : decode cX5_isAsSeen 49 = .ok (.iconst 1, 1) := by decide +kernel
theorem dX5_isAsSeen_50 : decode cX5_isAsSeen 50 = .ok (.ireturn, 1) := by decide +kernel
set_option maxRecDepth 20000 in
theorem ggX5_wasInBy_X8_has : GoodIn wsX5_wasInBy wsX8_has := goodIn_r _ [7, 8, 19, 20, 21, 22] (by decide +kernel) (by decide +kernel)
set_option maxRecDepth 20000 in
theorem gX5_wasInBy_X8_has : GoodIn wsX5_wasInBy (wsV RX5 57 RX8 yX8_has wsX8_has) := goodIn_app (goodIn_of _ (by decide +kernel)) ggX5_wasInBy_X8_has
theorem dX5_wasInBy_0 : decode cX5_wasInBy 0 = .ok (.aload_n 0, 1) := by decide +kernel
theorem dX5_wasInBy_1 : decode cX5_wasInBy 1 = .ok (.getfield 41, 3) := by decide +kernel
theorem dX5_wasInBy_4 : decode cX5_wasInBy 4 = .ok (.iload_n 1, 1) := by decide +kernel
theorem dX5_wasInBy_5 : decode cX5_wasInBy 5 = .ok (.invokevirtual 57, 3) := by decide +kernel
theorem dX5_wasInBy_8 : decode cX5_wasInBy 8 = .ok (.ifCond .eq 27, 3) := by decide +kernel
theorem dX5_wasInBy_11 : decode cX5_wasInBy 11 = .ok (.aload_n 0, 1) := by decide +kernel
theorem dX5_wasInBy_12 : decode cX5_wasInBy 12 = .ok (.getfield 22, 3) := by decide +kernel
theorem dX5_wasInBy_15 : decode cX5_wasInBy 15 = .ok (.iload_n 1, 1) := by decide +kernel
theorem dX5_wasInBy_16 : decode cX5_wasInBy 16 = .ok (.iaload, 1) := by decide +kernel
theorem dX5_wasInBy_17 : decode cX5_wasInBy 17 = .ok (.iconst (-1), 1) := by decide +kernel
theorem dX5_wasInBy_18 : decode cX5_wasInBy 18 = .ok (.if_icmp .eq 17, 3) := by decide +kernel
theorem dX5_wasInBy_21 : decode cX5_wasInBy 21 = .ok (.aload_n 0, 1) := by decide +kernel
theorem dX5_wasInBy_22 : decode cX5_wasInBy 22 = .ok (.getfield 22, 3) := by decide +kernel
theorem dX5_wasInBy_25 : decode cX5_wasInBy 25 = .ok (.iload_n 1, 1) := by decide +kernel
theorem dX5_wasInBy_26 : decode cX5_wasInBy 26 = .ok (.iaload, 1) := by decide +kernel
theorem dX5_wasInBy_27 : decode cX5_wasInBy 27 = .ok (.iload_n 2, 1) := by decide +kernel
theorem dX5_wasInBy_28 : decode cX5_wasInBy 28 = .ok (.if_icmp .gt 7, 3) := by decide +kernel
theorem dX5_wasInBy_31 : decode cX5_wasInBy 31 = .ok (.iconst 1, 1) := by decide +kernel
theorem dX5_wasInBy_32 : decode cX5_wasInBy 32 = .ok (.goto 4, 3) := by decide +kernel
theorem dX5_wasInBy_35 : decode cX5_wasInBy 35 = .ok (.iconst 0, 1) := by decide +kernel
theorem dX5_wasInBy_36 : decode cX5_wasInBy 36 = .ok (.ireturn, 1) := by decide +kernel
theorem dX6_init_0 : decode cX6_init 0 = .ok (.aload_n 0, 1) := by decide +kernel
theorem dX6_init_1 : decode cX6_init 1 = .ok (.invokespecial 3, 3) := by decide +kernel
theorem dX6_init_4 : decode cX6_init 4 = .ok (.aload_n 0, 1) := by decide +kernel
theorem dX6_init_5 : decode cX6_init 5 = .ok (.bipush 30, 2) := by decide +kernel
theorem dX6_init_7 : decode cX6_init 7 = .ok (.newarray .int, 2) := by decide +kernel
theorem dX6_init_9 : decode cX6_init 9 = .ok (.putfield 9, 3) := by decide +kernel
theorem dX6_init_12 : decode cX6_init 12 = .ok (.return_, 1) := by decide +kernel
theorem dX6_write_0 : decode cX6_write 0 = .ok (.aload_n 0, 1) := by decide +kernel
theorem dX6_write_1 : decode cX6_write 1 = .ok (.getfield 15, 3) := by decide +kernel
theorem dX6_write_4 : decode cX6_write 4 = .ok (.bipush 30, 2) := by decide +kernel
theorem dX6_write_6 : decode cX6_write 6 = .ok (.if_icmp .lt 5, 3) := by decide +kernel
theorem dX6_write_9 : decode cX6_write 9 = .ok (.iconst 0, 1) := by decide +kernel
theorem dX6_write_10 : decode cX6_write 10 = .ok (.ireturn, 1) := by decide +kernel
theorem dX6_write_11 : decode cX6_write 11 = .ok (.aload_n 0, 1) := by decide +kernel
theorem dX6_write_12 : decode cX6_write 12 = .ok (.getfield 9, 3) := by decide +kernel
theorem dX6_write_15 : decode cX6_write 15 = .ok (.aload_n 0, 1) := by decide +kernel
theorem dX6_write_16 : decode cX6_write 16 = .ok (.getfield 15, 3) := by decide +kernel
theorem dX6_write_19 : decode cX6_write 19 = .ok (.iload_n 1, 1) := by decide +kernel
theorem dX6_write_20 : decode cX6_write 20 = .ok (.iastore, 1) := by decide +kernel
theorem dX6_write_21 : decode cX6_write 21 = .ok (.aload_n 0, 1) := by decide +kernel
theorem dX6_write_22 : decode cX6_write 22 = .ok (.dup, 1) := by decide +kernel
theorem dX6_write_23 : decode cX6_write 23 = .ok (.getfield 15, 3) := by decide +kernel
theorem dX6_write_26 : decode cX6_write 26 = .ok (.iconst 1, 1) := by decide +kernel
theorem dX6_write_27 : decode cX6_write 27 = .ok (.iadd, 1) := by decide +kernel
theorem dX6_write_28 : decode cX6_write 28 = .ok (.putfield 15, 3) := by decide +kernel
theorem dX6_write_31 : decode cX6_write 31 = .ok (.iconst 1, 1) := by decide +kernel
theorem dX6_write_32 : decode cX6_write 32 = .ok (.ireturn, 1) := by decide +kernel
theorem dX6_codeAt_0 : decode cX6_codeAt 0 = .ok (.iload_n 1, 1) := by decide +kernel
theorem dX6_codeAt_1 : decode cX6_codeAt 1 = .ok (.ifCond .lt 11, 3) := by decide +kernel
theorem dX6_codeAt_4 : decode cX6_codeAt 4 = .ok (.iload_n 1, 1) := by decide +kernel
theorem dX6_codeAt_5 : decode cX6_codeAt 5 = .ok (.aload_n 0, 1) := by decide +kernel
theorem dX6_codeAt_6 : decode cX6_codeAt 6 = .ok (.getfield 15, 3) := by decide +kernel
theorem dX6_codeAt_9 : decode cX6_codeAt 9 = .ok (.if_icmp .lt 7, 3) := by decide +kernel
theorem dX6_codeAt_12 : decode cX6_codeAt 12 = .ok (.iconst 0, 1) := by decide +kernel
theorem dX6_codeAt_13 : decode cX6_codeAt 13 = .ok (.goto 9, 3) := by decide +kernel
theorem dX6_codeAt_16 : decode cX6_codeAt 16 = .ok (.aload_n 0, 1) := by decide +kernel
theorem dX6_codeAt_17 : decode cX6_codeAt 17 = .ok (.getfield 9, 3) := by decide +kernel
theorem dX6_codeAt_20 : decode cX6_codeAt 20 = .ok (.iload_n 1, 1) := by decide +kernel
theorem dX6_codeAt_21 : decode cX6_codeAt 21 = .ok (.iaload, 1) := by decide +kernel
theorem dX6_codeAt_22 : decode cX6_codeAt 22 = .ok (.ireturn, 1) := by decide +kernel
set_option maxRecDepth 20000 in
theorem ggX6_firstFault_X6_fits : GoodIn wsX6_firstFault wsX6_fits := goodIn_r _ [6, 7, 8, 9, 10, 11, 12, 13, 14, 15, 16, 17, 18, 19, 20, 21, 22, 23, 24, 25, 26, 27, 28, 29, 30, 31, 32, 33, 34, 35, 36, 37, 38, 39, 40, 41, 42, 43, 44, 45, 46, 47, 48, 49, 50, 51, 52, 53, 54, 55, 56, 57, 58, 59, 60, 61, 62, 63, 64, 65, 66, 67, 68, 69, 70, 71, 72, 73, 74, 75, 76, 77, 78, 79, 80, 81, 82, 83, 84, 85, 86, 87, 88, 89, 90, 91, 92, 93, 94, 95] (by decide +kernel) (by decide +kernel)
set_option maxRecDepth 20000 in
theorem gX6_firstFault_X6_fits : GoodIn wsX6_firstFault (va_wsS RX6 19 yX6_fits wsX6_fits) := goodIn_app (goodIn_of _ (by decide +kernel)) ggX6_firstFault_X6_fits
theorem dX6_firstFault_0 : decode cX6_firstFault 0 = .ok (.iconst 0, 1) := by decide +kernel
theorem dX6_firstFault_1 : decode cX6_firstFault 1 = .ok (.istore_n 1, 1) := by decide +kernel
theorem dX6_firstFault_2 : decode cX6_firstFault 2 = .ok (.iload_n 1, 1) := by decide +kernel
theorem dX6_firstFault_3 : decode cX6_firstFault 3 = .ok (.aload_n 0, 1) := by decide +kernel
theorem dX6_firstFault_4 : decode cX6_firstFault 4 = .ok (.getfield 15, 3) := by decide +kernel
theorem dX6_firstFault_7 : decode cX6_firstFault 7 = .ok (.if_icmp .ge 24, 3) := by decide +kernel
theorem dX6_firstFault_10 : decode cX6_firstFault 10 = .ok (.iload_n 1, 1) := by decide +kernel
theorem dX6_firstFault_11 : decode cX6_firstFault 11 = .ok (.aload_n 0, 1) := by decide +kernel
theorem dX6_firstFault_12 : decode cX6_firstFault 12 = .ok (.getfield 9, 3) := by decide +kernel
theorem dX6_firstFault_15 : decode cX6_firstFault 15 = .ok (.iload_n 1, 1) := by decide +kernel
theorem dX6_firstFault_16 : decode cX6_firstFault 16 = .ok (.iaload, 1) := by decide +kernel
theorem dX6_firstFault_17 : decode cX6_firstFault 17 = .ok (.invokestatic 19, 3) := by decide +kernel
theorem dX6_firstFault_20 : decode cX6_firstFault 20 = .ok (.ifCond .ne 5, 3) := by decide +kernel
theorem dX6_firstFault_23 : decode cX6_firstFault 23 = .ok (.iload_n 1, 1) := by decide +kernel
theorem dX6_firstFault_24 : decode cX6_firstFault 24 = .ok (.ireturn, 1) := by decide +kernel
theorem dX6_firstFault_25 : decode cX6_firstFault 25 = .ok (.iinc 1 1, 3) := by decide +kernel
theorem dX6_firstFault_28 : decode cX6_firstFault 28 = .ok (.goto (-26), 3) := by decide +kernel
theorem dX6_firstFault_31 : decode cX6_firstFault 31 = .ok (.aload_n 0, 1) := by decide +kernel
theorem dX6_firstFault_32 : decode cX6_firstFault 32 = .ok (.getfield 15, 3) := by decide +kernel
theorem dX6_firstFault_35 : decode cX6_firstFault 35 = .ok (.ireturn, 1) := by decide +kernel
set_option maxRecDepth 20000 in
theorem ggX6_fits_J0_indexOf_0f7a4 : GoodIn wsX6_fits wsJ0_indexOf_0f7a4 := goodIn_r _ [5, 6, 7, 8, 4, 9, 10, 11, 12, 13, 14, 15, 16, 17, 18, 19, 20, 21, 22, 23, 24, 25, 26, 27, 28, 29, 30, 31, 32, 33, 34, 35, 36, 37, 38, 39, 40, 41, 42, 43, 44, 45, 46, 47, 48, 49, 50, 51, 52, 53, 54, 55, 56, 57, 58, 59, 60, 61, 62, 63, 64, 65, 66, 67, 68, 69, 70, 71, 72, 73, 74, 75, 76, 77, 78, 79, 80, 81, 82, 83, 84, 85, 86, 87, 88, 89] (by decide +kernel) (by decide +kernel)
set_option maxRecDepth 20000 in
theorem gX6_fits_J0_indexOf_0f7a4 : GoodIn wsX6_fits (wsV RX6 25 RJ0 yJ0_indexOf_0f7a4 wsJ0_indexOf_0f7a4) := goodIn_app (goodIn_of _ (by decide +kernel)) ggX6_fits_J0_indexOf_0f7a4
theorem dX6_fits_0 : decode cX6_fits 0 = .ok (.iload_n 0, 1) := by decide +kernel
theorem dX6_fits_1 : decode cX6_fits 1 = .ok (.bipush 29, 2) := by decide +kernel
theorem dX6_fits_3 : decode cX6_fits 3 = .ok (.if_icmp .lt 5, 3) := by decide +kernel
theorem dX6_fits_6 : decode cX6_fits 6 = .ok (.iconst 0, 1) := by decide +kernel
theorem dX6_fits_7 : decode cX6_fits 7 = .ok (.ireturn, 1) := by decide +kernel
theorem dX6_fits_8 : decode cX6_fits 8 = .ok (.iload_n 0, 1) := by decide +kernel
theorem dX6_fits_9 : decode cX6_fits 9 = .ok (.iconst 5, 1) := by decide +kernel
theorem dX6_fits_10 : decode cX6_fits 10 = .ok (.irem, 1) := by decide +kernel
theorem dX6_fits_11 : decode cX6_fits 11 = .ok (.tableswitch 79 0 4 #[33, 49, 79, 79, 67], 33) := by decide +kernel
theorem dX6_fits_44 : decode cX6_fits 44 = .ok (.ldc 23, 2) := by decide +kernel
theorem dX6_fits_46 : decode cX6_fits 46 = .ok (.iload_n 1, 1) := by decide +kernel
theorem dX6_fits_47 : decode cX6_fits 47 = .ok (.i2c, 1) := by decide +kernel
theorem dX6_fits_48 : decode cX6_fits 48 = .ok (.invokevirtual 25, 3) := by decide +kernel
theorem dX6_fits_51 : decode cX6_fits 51 = .ok (.ifCond .lt 7, 3) := by decide +kernel
theorem dX6_fits_54 : decode cX6_fits 54 = .ok (.iconst 1, 1) := by decide +kernel
theorem dX6_fits_55 : decode cX6_fits 55 = .ok (.goto 4, 3) := by decide +kernel
theorem dX6_fits_58 : decode cX6_fits 58 = .ok (.iconst 0, 1) := by decide +kernel
theorem dX6_fits_59 : decode cX6_fits 59 = .ok (.ireturn, 1) := by decide +kernel
theorem dX6_fits_60 : decode cX6_fits 60 = .ok (.iload_n 1, 1) := by decide +kernel
theorem dX6_fits_61 : decode cX6_fits 61 = .ok (.bipush 48, 2) := by decide +kernel
theorem dX6_fits_63 : decode cX6_fits 63 = .ok (.if_icmp .lt 13, 3) := by decide +kernel
theorem dX6_fits_66 : decode cX6_fits 66 = .ok (.iload_n 1, 1) := by decide +kernel
theorem dX6_fits_67 : decode cX6_fits 67 = .ok (.bipush 57, 2) := by decide +kernel
theorem dX6_fits_69 : decode cX6_fits 69 = .ok (.if_icmp .gt 7, 3) := by decide +kernel
theorem dX6_fits_72 : decode cX6_fits 72 = .ok (.iconst 1, 1) := by decide +kernel
theorem dX6_fits_73 : decode cX6_fits 73 = .ok (.goto 4, 3) := by decide +kernel
theorem dX6_fits_76 : decode cX6_fits 76 = .ok (.iconst 0, 1) := by decide +kernel
theorem dX6_fits_77 : decode cX6_fits 77 = .ok (.ireturn, 1) := by decide +kernel
theorem dX6_fits_78 : decode cX6_fits 78 = .ok (.iload_n 1, 1) := by decide +kernel
theorem dX6_fits_79 : decode cX6_fits 79 = .ok (.bipush 44, 2) := by decide +kernel
theorem dX6_fits_81 : decode cX6_fits 81 = .ok (.if_icmp .ne 7, 3) := by decide +kernel
theorem dX6_fits_84 : decode cX6_fits 84 = .ok (.iconst 1, 1) := by decide +kernel
theorem dX6_fits_85 : decode cX6_fits 85 = .ok (.goto 4, 3) := by decide +kernel
theorem dX6_fits_88 : decode cX6_fits 88 = .ok (.iconst 0, 1) := by decide +kernel
theorem dX6_fits_89 : decode cX6_fits 89 = .ok (.ireturn, 1) := by decide +kernel
theorem dX6_fits_90 : decode cX6_fits 90 = .ok (.iload_n 1, 1) := by decide +kernel
theorem dX6_fits_91 : decode cX6_fits 91 = .ok (.bipush 49, 2) := by decide +kernel
theorem dX6_fits_93 : decode cX6_fits 93 = .ok (.if_icmp .lt 13, 3) := by decide +kernel
theorem dX6_fits_96 : decode cX6_fits 96 = .ok (.iload_n 1, 1) := by decide +kernel
theorem dX6_fits_97 : decode cX6_fits 97 = .ok (.bipush 57, 2) := by decide +kernel
theorem dX6_fits_99 : decode cX6_fits 99 = .ok (.if_icmp .gt 7, 3) := by decide +kernel
theorem dX6_fits_102 : decode cX6_fits 102 = .ok (.iconst 1, 1) := by decide +kernel
theorem dX6_fits_103 : decode cX6_fits 103 = .ok (.goto 4, 3) := by decide +kernel
theorem dX6_fits_106 : decode cX6_fits 106 = .ok (.iconst 0, 1) := by decide +kernel
theorem dX6_fits_107 : decode cX6_fits 107 = .ok (.ireturn, 1) := by decide +kernel
set_option maxRecDepth 20000 in
theorem ggX6_tellsTown_X6_housesTold : GoodIn wsX6_tellsTown wsX6_housesTold := goodIn_r _ [6, 1, 104, 105] (by decide +kernel) (by decide +kernel)
set_option maxRecDepth 20000 in
theorem gX6_tellsTown_X6_housesTold : GoodIn wsX6_tellsTown (wsV RX6 31 RX6 yX6_housesTold wsX6_housesTold) := goodIn_app (goodIn_of _ (by decide +kernel)) ggX6_tellsTown_X6_housesTold
set_option maxRecDepth 20000 in
theorem ggX6_tellsTown_X6_firstFault : GoodIn wsX6_tellsTown wsX6_firstFault := goodIn_r _ [10, 1, 11, 12, 13, 5, 14, 15, 16, 17, 18, 19, 20, 21, 22, 23, 24, 25, 26, 27, 28, 29, 30, 31, 32, 33, 34, 35, 36, 37, 38, 39, 40, 41, 42, 43, 44, 45, 46, 47, 48, 49, 50, 51, 52, 53, 54, 55, 56, 57, 58, 59, 60, 61, 62, 63, 64, 65, 66, 67, 68, 69, 70, 71, 72, 73, 74, 75, 76, 77, 78, 79, 80, 81, 82, 83, 84, 85, 86, 87, 88, 89, 90, 91, 92, 93, 94, 95, 96, 97, 98, 99, 100, 101, 102, 103, 104, 105] (by decide +kernel) (by decide +kernel)
set_option maxRecDepth 20000 in
theorem gX6_tellsTown_X6_firstFault : GoodIn wsX6_tellsTown (wsV RX6 35 RX6 yX6_firstFault wsX6_firstFault) := goodIn_app (goodIn_of _ (by decide +kernel)) ggX6_tellsTown_X6_firstFault
theorem dX6_tellsTown_0 : decode cX6_tellsTown 0 = .ok (.aload_n 0, 1) := by decide +kernel
theorem dX6_tellsTown_1 : decode cX6_tellsTown 1 = .ok (.getfield 15, 3) := by decide +kernel
theorem dX6_tellsTown_4 : decode cX6_tellsTown 4 = .ok (.iconst 5, 1) := by decide +kernel
theorem dX6_tellsTown_5 : decode cX6_tellsTown 5 = .ok (.irem, 1) := by decide +kernel
theorem dX6_tellsTown_6 : decode cX6_tellsTown 6 = .ok (.iconst 4, 1) := by decide +kernel
theorem dX6_tellsTown_7 : decode cX6_tellsTown 7 = .ok (.if_icmp .ne 7, 3) := by decide +kernel
theorem dX6_tellsTown_10 : decode cX6_tellsTown 10 = .ok (.iconst 1, 1) := by decide +kernel
theorem dX6_tellsTown_11 : decode cX6_tellsTown 11 = .ok (.goto 4, 3) := by decide +kernel
theorem dX6_tellsTown_14 : decode cX6_tellsTown 14 = .ok (.iconst 0, 1) := by decide +kernel
