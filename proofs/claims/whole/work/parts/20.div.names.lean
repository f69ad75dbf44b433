theorem dX0_init_0 : decode cX0_init 0 = .ok (.aload_n 0, 1) := by decide +kernel
theorem dX0_init_1 : decode cX0_init 1 = .ok (.invokespecial 1, 3) := by decide +kernel
theorem dX0_init_4 : decode cX0_init 4 = .ok (.aload_n 0, 1) := by decide +kernel
theorem dX0_init_5 : decode cX0_init 5 = .ok (.new 7, 3) := by decide +kernel
theorem dX0_init_8 : decode cX0_init 8 = .ok (.dup, 1) := by decide +kernel
theorem dX0_init_9 : decode cX0_init 9 = .ok (.invokespecial 9, 3) := by decide +kernel
theorem dX0_init_12 : decode cX0_init 12 = .ok (.putfield 10, 3) := by decide +kernel
theorem dX0_init_15 : decode cX0_init 15 = .ok (.aload_n 0, 1) := by decide +kernel
theorem dX0_init_16 : decode cX0_init 16 = .ok (.new 7, 3) := by decide +kernel
theorem dX0_init_19 : decode cX0_init 19 = .ok (.dup, 1) := by decide +kernel
theorem dX0_init_20 : decode cX0_init 20 = .ok (.invokespecial 9, 3) := by decide +kernel
theorem dX0_init_23 : decode cX0_init 23 = .ok (.putfield 16, 3) := by decide +kernel
theorem dX0_init_26 : decode cX0_init 26 = .ok (.aload_n 0, 1) := by decide +kernel
theorem dX0_init_27 : decode cX0_init 27 = .ok (.new 7, 3) := by decide +kernel
theorem dX0_init_30 : decode cX0_init 30 = .ok (.dup, 1) := by decide +kernel
theorem dX0_init_31 : decode cX0_init 31 = .ok (.invokespecial 9, 3) := by decide +kernel
theorem dX0_init_34 : decode cX0_init 34 = .ok (.putfield 19, 3) := by decide +kernel
theorem dX0_init_37 : decode cX0_init 37 = .ok (.aload_n 0, 1) := by decide +kernel
theorem dX0_init_38 : decode cX0_init 38 = .ok (.new 7, 3) := by decide +kernel
theorem dX0_init_41 : decode cX0_init 41 = .ok (.dup, 1) := by decide +kernel
theorem dX0_init_42 : decode cX0_init 42 = .ok (.invokespecial 9, 3) := by decide +kernel
theorem dX0_init_45 : decode cX0_init 45 = .ok (.putfield 22, 3) := by decide +kernel
theorem dX0_init_48 : decode cX0_init 48 = .ok (.return_, 1) := by decide +kernel
theorem dX0_commonDivisor_0 : decode cX0_commonDivisor 0 = .ok (.aload_n 0, 1) := by decide +kernel
theorem dX0_commonDivisor_1 : decode cX0_commonDivisor 1 = .ok (.getfield 10, 3) := by decide +kernel
theorem dX0_commonDivisor_4 : decode cX0_commonDivisor 4 = .ok (.aload_n 1, 1) := by decide +kernel
theorem dX0_commonDivisor_5 : decode cX0_commonDivisor 5 = .ok (.invokevirtual 25, 3) := by decide +kernel
theorem dX0_commonDivisor_8 : decode cX0_commonDivisor 8 = .ok (.aload_n 0, 1) := by decide +kernel
theorem dX0_commonDivisor_9 : decode cX0_commonDivisor 9 = .ok (.getfield 16, 3) := by decide +kernel
theorem dX0_commonDivisor_12 : decode cX0_commonDivisor 12 = .ok (.aload_n 2, 1) := by decide +kernel
theorem dX0_commonDivisor_13 : decode cX0_commonDivisor 13 = .ok (.invokevirtual 25, 3) := by decide +kernel
theorem dX0_commonDivisor_16 : decode cX0_commonDivisor 16 = .ok (.aload_n 0, 1) := by decide +kernel
theorem dX0_commonDivisor_17 : decode cX0_commonDivisor 17 = .ok (.getfield 10, 3) := by decide +kernel
theorem dX0_commonDivisor_20 : decode cX0_commonDivisor 20 = .ok (.astore_n 3, 1) := by decide +kernel
theorem dX0_commonDivisor_21 : decode cX0_commonDivisor 21 = .ok (.aload_n 0, 1) := by decide +kernel
theorem dX0_commonDivisor_22 : decode cX0_commonDivisor 22 = .ok (.getfield 16, 3) := by decide +kernel
theorem dX0_commonDivisor_25 : decode cX0_commonDivisor 25 = .ok (.astore 4, 2) := by decide +kernel
theorem dX0_commonDivisor_27 : decode cX0_commonDivisor 27 = .ok (.iconst 0, 1) := by decide +kernel
theorem dX0_commonDivisor_28 : decode cX0_commonDivisor 28 = .ok (.istore 5, 2) := by decide +kernel
theorem dX0_commonDivisor_30 : decode cX0_commonDivisor 30 = .ok (.iload 5, 2) := by decide +kernel
theorem dX0_commonDivisor_32 : decode cX0_commonDivisor 32 = .ok (.bipush 66, 2) := by decide +kernel
theorem dX0_commonDivisor_34 : decode cX0_commonDivisor 34 = .ok (.if_icmp .ge 37, 3) := by decide +kernel
theorem dX0_commonDivisor_37 : decode cX0_commonDivisor 37 = .ok (.aload 4, 2) := by decide +kernel
theorem dX0_commonDivisor_39 : decode cX0_commonDivisor 39 = .ok (.invokevirtual 29, 3) := by decide +kernel
theorem dX0_commonDivisor_42 : decode cX0_commonDivisor 42 = .ok (.ifCond .ne 29, 3) := by decide +kernel
theorem dX0_commonDivisor_45 : decode cX0_commonDivisor 45 = .ok (.aload_n 3, 1) := by decide +kernel
theorem dX0_commonDivisor_46 : decode cX0_commonDivisor 46 = .ok (.aload 4, 2) := by decide +kernel
theorem dX0_commonDivisor_48 : decode cX0_commonDivisor 48 = .ok (.aload_n 0, 1) := by decide +kernel
theorem dX0_commonDivisor_49 : decode cX0_commonDivisor 49 = .ok (.getfield 19, 3) := by decide +kernel
theorem dX0_commonDivisor_52 : decode cX0_commonDivisor 52 = .ok (.invokevirtual 33, 3) := by decide +kernel
theorem dX0_commonDivisor_55 : decode cX0_commonDivisor 55 = .ok (.aload_n 3, 1) := by decide +kernel
theorem dX0_commonDivisor_56 : decode cX0_commonDivisor 56 = .ok (.astore 6, 2) := by decide +kernel
theorem dX0_commonDivisor_58 : decode cX0_commonDivisor 58 = .ok (.aload 4, 2) := by decide +kernel
theorem dX0_commonDivisor_60 : decode cX0_commonDivisor 60 = .ok (.astore_n 3, 1) := by decide +kernel
theorem dX0_commonDivisor_61 : decode cX0_commonDivisor 61 = .ok (.aload 6, 2) := by decide +kernel
theorem dX0_commonDivisor_63 : decode cX0_commonDivisor 63 = .ok (.astore 4, 2) := by decide +kernel
theorem dX0_commonDivisor_65 : decode cX0_commonDivisor 65 = .ok (.iinc 5 1, 3) := by decide +kernel
theorem dX0_commonDivisor_68 : decode cX0_commonDivisor 68 = .ok (.goto (-38), 3) := by decide +kernel
theorem dX0_commonDivisor_71 : decode cX0_commonDivisor 71 = .ok (.aload_n 0, 1) := by decide +kernel
theorem dX0_commonDivisor_72 : decode cX0_commonDivisor 72 = .ok (.getfield 22, 3) := by decide +kernel
theorem dX0_commonDivisor_75 : decode cX0_commonDivisor 75 = .ok (.aload_n 3, 1) := by decide +kernel
theorem dX0_commonDivisor_76 : decode cX0_commonDivisor 76 = .ok (.invokevirtual 25, 3) := by decide +kernel
theorem dX0_commonDivisor_79 : decode cX0_commonDivisor 79 = .ok (.aload_n 0, 1) := by decide +kernel
theorem dX0_commonDivisor_80 : decode cX0_commonDivisor 80 = .ok (.getfield 22, 3) := by decide +kernel
theorem dX0_commonDivisor_83 : decode cX0_commonDivisor 83 = .ok (.aload_n 0, 1) := by decide +kernel
theorem dX0_commonDivisor_84 : decode cX0_commonDivisor 84 = .ok (.getfield 22, 3) := by decide +kernel
theorem dX0_commonDivisor_87 : decode cX0_commonDivisor 87 = .ok (.invokevirtual 37, 3) := by decide +kernel
theorem dX0_commonDivisor_90 : decode cX0_commonDivisor 90 = .ok (.invokestatic 41, 3) := by decide +kernel
theorem dX0_commonDivisor_93 : decode cX0_commonDivisor 93 = .ok (.invokevirtual 47, 3) := by decide +kernel
theorem dX0_commonDivisor_96 : decode cX0_commonDivisor 96 = .ok (.aload_n 0, 1) := by decide +kernel
theorem dX0_commonDivisor_97 : decode cX0_commonDivisor 97 = .ok (.getfield 22, 3) := by decide +kernel
theorem dX0_commonDivisor_100 : decode cX0_commonDivisor 100 = .ok (.areturn, 1) := by decide +kernel
theorem dX0_divideOut_0 : decode cX0_divideOut 0 = .ok (.aload_n 1, 1) := by decide +kernel
theorem dX0_divideOut_1 : decode cX0_divideOut 1 = .ok (.aload_n 2, 1) := by decide +kernel
theorem dX0_divideOut_2 : decode cX0_divideOut 2 = .ok (.aload_n 0, 1) := by decide +kernel
theorem dX0_divideOut_3 : decode cX0_divideOut 3 = .ok (.getfield 19, 3) := by decide +kernel
theorem dX0_divideOut_6 : decode cX0_divideOut 6 = .ok (.invokevirtual 33, 3) := by decide +kernel
theorem dX0_divideOut_9 : decode cX0_divideOut 9 = .ok (.aload_n 1, 1) := by decide +kernel
theorem dX0_divideOut_10 : decode cX0_divideOut 10 = .ok (.aload_n 0, 1) := by decide +kernel
theorem dX0_divideOut_11 : decode cX0_divideOut 11 = .ok (.getfield 19, 3) := by decide +kernel
theorem dX0_divideOut_14 : decode cX0_divideOut 14 = .ok (.invokevirtual 25, 3) := by decide +kernel
theorem dX0_divideOut_17 : decode cX0_divideOut 17 = .ok (.return_, 1) := by decide +kernel
set_option maxRecDepth 20000 in
theorem ggX0_init_X4_init : GoodIn wsX0_init wsX4_init := goodIn_r _ [12, 13, 2, 3, 14, 15, 16, 17, 18] (by decide +kernel) (by decide +kernel)
set_option maxRecDepth 20000 in
theorem gX0_init_X4_init_n9 : GoodIn wsX0_init (wsX4_init) := ggX0_init_X4_init
set_option maxRecDepth 20000 in
theorem ggX0_commonDivisor_X4_copyFrom : GoodIn wsX0_commonDivisor wsX4_copyFrom := goodIn_r _ [9, 10, 11, 12, 13, 14, 8, 15, 63, 64] (by decide +kernel) (by decide +kernel)
set_option maxRecDepth 20000 in
theorem gX0_commonDivisor_X4_copyFrom : GoodIn wsX0_commonDivisor (wsV RX0 25 RX4 yX4_copyFrom wsX4_copyFrom) := goodIn_app (goodIn_of _ (by decide +kernel)) ggX0_commonDivisor_X4_copyFrom
set_option maxRecDepth 20000 in
theorem ggX0_commonDivisor_X4_isZero : GoodIn wsX0_commonDivisor wsX4_isZero := goodIn_r _ [19, 11, 63, 64] (by decide +kernel) (by decide +kernel)
set_option maxRecDepth 20000 in
theorem gX0_commonDivisor_X4_isZero : GoodIn wsX0_commonDivisor (wsV RX0 29 RX4 yX4_isZero wsX4_isZero) := goodIn_app (goodIn_of _ (by decide +kernel)) ggX0_commonDivisor_X4_isZero
set_option maxRecDepth 20000 in
theorem ggX0_commonDivisor_X4_divideBy : GoodIn wsX0_commonDivisor wsX4_divideBy := goodIn_r _ [23, 11, 24, 25, 26, 8, 27, 10, 28, 17, 18, 19, 29, 30, 31, 32, 12, 13, 14, 15, 33, 34, 35, 36, 37, 38, 39, 40, 41, 42, 43, 44, 45, 46, 47, 48, 49, 50, 51, 52, 53, 63, 64] (by decide +kernel) (by decide +kernel)
set_option maxRecDepth 20000 in
theorem gX0_commonDivisor_X4_divideBy : GoodIn wsX0_commonDivisor (wsV RX0 33 RX4 yX4_divideBy wsX4_divideBy) := goodIn_app (goodIn_of _ (by decide +kernel)) ggX0_commonDivisor_X4_divideBy
set_option maxRecDepth 20000 in
theorem ggX0_commonDivisor_X4_leading : GoodIn wsX0_commonDivisor wsX4_leading := goodIn_r _ [32, 11, 12, 13, 14, 8, 15, 10, 63, 64] (by decide +kernel) (by decide +kernel)
set_option maxRecDepth 20000 in
theorem gX0_commonDivisor_X4_leading : GoodIn wsX0_commonDivisor (wsV RX0 37 RX4 yX4_leading wsX4_leading) := goodIn_app (goodIn_of _ (by decide +kernel)) ggX0_commonDivisor_X4_leading
set_option maxRecDepth 20000 in
theorem ggX0_commonDivisor_X7_inverse : GoodIn wsX0_commonDivisor wsX7_inverse := goodIn_r _ [35] (by decide +kernel) (by decide +kernel)
set_option maxRecDepth 20000 in
theorem gX0_commonDivisor_X7_inverse_n41 : GoodIn wsX0_commonDivisor (wsX7_inverse) := ggX0_commonDivisor_X7_inverse
set_option maxRecDepth 20000 in
theorem ggX0_commonDivisor_X4_scaleBy : GoodIn wsX0_commonDivisor wsX4_scaleBy := goodIn_r _ [58, 10, 11, 44, 45, 46, 8, 47, 63, 64] (by decide +kernel) (by decide +kernel)
set_option maxRecDepth 20000 in
theorem gX0_commonDivisor_X4_scaleBy : GoodIn wsX0_commonDivisor (wsV RX0 47 RX4 yX4_scaleBy wsX4_scaleBy) := goodIn_app (goodIn_of _ (by decide +kernel)) ggX0_commonDivisor_X4_scaleBy
set_option maxRecDepth 20000 in
theorem ggX0_divideOut_X4_divideBy : GoodIn wsX0_divideOut wsX4_divideBy := goodIn_r _ [6, 7, 8, 9, 10, 5, 11, 12, 13, 14, 15, 16, 17, 18, 19, 20, 21, 22, 23, 24, 25, 26, 27, 28, 29, 30, 31, 32, 33, 34, 35, 36, 37, 38, 39, 40, 41, 42, 43, 44, 45, 54, 55] (by decide +kernel) (by decide +kernel)
set_option maxRecDepth 20000 in
theorem gX0_divideOut_X4_divideBy : GoodIn wsX0_divideOut (wsV RX0 33 RX4 yX4_divideBy wsX4_divideBy) := goodIn_app (goodIn_of _ (by decide +kernel)) ggX0_divideOut_X4_divideBy
set_option maxRecDepth 20000 in
theorem ggX0_divideOut_X4_copyFrom : GoodIn wsX0_divideOut wsX4_copyFrom := goodIn_r _ [49, 12, 7, 21, 22, 23, 5, 24, 54, 55] (by decide +kernel) (by decide +kernel)
set_option maxRecDepth 20000 in
theorem gX0_divideOut_X4_copyFrom : GoodIn wsX0_divideOut (wsV RX0 25 RX4 yX4_copyFrom wsX4_copyFrom) := goodIn_app (goodIn_of _ (by decide +kernel)) ggX0_divideOut_X4_copyFrom
