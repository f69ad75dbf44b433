theorem dX2_init_0 : decode cX2_init 0 = .ok (.aload_n 0, 1) := by decide +kernel
theorem dX2_init_1 : decode cX2_init 1 = .ok (.invokespecial 3, 3) := by decide +kernel
theorem dX2_init_4 : decode cX2_init 4 = .ok (.aload_n 0, 1) := by decide +kernel
theorem dX2_init_5 : decode cX2_init 5 = .ok (.new 9, 3) := by decide +kernel
theorem dX2_init_8 : decode cX2_init 8 = .ok (.dup, 1) := by decide +kernel
theorem dX2_init_9 : decode cX2_init 9 = .ok (.invokespecial 11, 3) := by decide +kernel
theorem dX2_init_12 : decode cX2_init 12 = .ok (.putfield 12, 3) := by decide +kernel
theorem dX2_init_15 : decode cX2_init 15 = .ok (.aload_n 0, 1) := by decide +kernel
theorem dX2_init_16 : decode cX2_init 16 = .ok (.new 9, 3) := by decide +kernel
theorem dX2_init_19 : decode cX2_init 19 = .ok (.dup, 1) := by decide +kernel
theorem dX2_init_20 : decode cX2_init 20 = .ok (.invokespecial 11, 3) := by decide +kernel
theorem dX2_init_23 : decode cX2_init 23 = .ok (.putfield 18, 3) := by decide +kernel
theorem dX2_init_26 : decode cX2_init 26 = .ok (.aload_n 0, 1) := by decide +kernel
theorem dX2_init_27 : decode cX2_init 27 = .ok (.iconst 0, 1) := by decide +kernel
theorem dX2_init_28 : decode cX2_init 28 = .ok (.putfield 21, 3) := by decide +kernel
theorem dX2_init_31 : decode cX2_init 31 = .ok (.return_, 1) := by decide +kernel
theorem dX2_forget_0 : decode cX2_forget 0 = .ok (.aload_n 0, 1) := by decide +kernel
theorem dX2_forget_1 : decode cX2_forget 1 = .ok (.iconst 0, 1) := by decide +kernel
theorem dX2_forget_2 : decode cX2_forget 2 = .ok (.putfield 21, 3) := by decide +kernel
theorem dX2_forget_5 : decode cX2_forget 5 = .ok (.return_, 1) := by decide +kernel
theorem dX2_renew_0 : decode cX2_renew 0 = .ok (.aload_n 0, 1) := by decide +kernel
theorem dX2_renew_1 : decode cX2_renew 1 = .ok (.getfield 21, 3) := by decide +kernel
theorem dX2_renew_4 : decode cX2_renew 4 = .ok (.ifCond .eq 4, 3) := by decide +kernel
theorem dX2_renew_7 : decode cX2_renew 7 = .ok (.return_, 1) := by decide +kernel
theorem dX2_renew_8 : decode cX2_renew 8 = .ok (.aload_n 0, 1) := by decide +kernel
theorem dX2_renew_9 : decode cX2_renew 9 = .ok (.iconst 1, 1) := by decide +kernel
theorem dX2_renew_10 : decode cX2_renew 10 = .ok (.putfield 21, 3) := by decide +kernel
theorem dX2_renew_13 : decode cX2_renew 13 = .ok (.aload_n 0, 1) := by decide +kernel
theorem dX2_renew_14 : decode cX2_renew 14 = .ok (.getfield 12, 3) := by decide +kernel
theorem dX2_renew_17 : decode cX2_renew 17 = .ok (.aload_n 2, 1) := by decide +kernel
theorem dX2_renew_18 : decode cX2_renew 18 = .ok (.invokevirtual 25, 3) := by decide +kernel
theorem dX2_renew_21 : decode cX2_renew 21 = .ok (.invokevirtual 31, 3) := by decide +kernel
theorem dX2_renew_24 : decode cX2_renew 24 = .ok (.aload_n 0, 1) := by decide +kernel
theorem dX2_renew_25 : decode cX2_renew 25 = .ok (.getfield 12, 3) := by decide +kernel
theorem dX2_renew_28 : decode cX2_renew 28 = .ok (.aload_n 2, 1) := by decide +kernel
theorem dX2_renew_29 : decode cX2_renew 29 = .ok (.invokevirtual 35, 3) := by decide +kernel
theorem dX2_renew_32 : decode cX2_renew 32 = .ok (.invokevirtual 38, 3) := by decide +kernel
theorem dX2_renew_35 : decode cX2_renew 35 = .ok (.aload_n 0, 1) := by decide +kernel
theorem dX2_renew_36 : decode cX2_renew 36 = .ok (.getfield 18, 3) := by decide +kernel
theorem dX2_renew_39 : decode cX2_renew 39 = .ok (.aload_n 1, 1) := by decide +kernel
theorem dX2_renew_40 : decode cX2_renew 40 = .ok (.iconst 2, 1) := by decide +kernel
theorem dX2_renew_41 : decode cX2_renew 41 = .ok (.invokevirtual 43, 3) := by decide +kernel
theorem dX2_renew_44 : decode cX2_renew 44 = .ok (.invokevirtual 31, 3) := by decide +kernel
theorem dX2_renew_47 : decode cX2_renew 47 = .ok (.aload_n 3, 1) := by decide +kernel
theorem dX2_renew_48 : decode cX2_renew 48 = .ok (.aload_n 0, 1) := by decide +kernel
theorem dX2_renew_49 : decode cX2_renew 49 = .ok (.getfield 12, 3) := by decide +kernel
theorem dX2_renew_52 : decode cX2_renew 52 = .ok (.aload_n 0, 1) := by decide +kernel
theorem dX2_renew_53 : decode cX2_renew 53 = .ok (.getfield 18, 3) := by decide +kernel
theorem dX2_renew_56 : decode cX2_renew 56 = .ok (.invokevirtual 47, 3) := by decide +kernel
theorem dX2_renew_59 : decode cX2_renew 59 = .ok (.astore 4, 2) := by decide +kernel
theorem dX2_renew_61 : decode cX2_renew 61 = .ok (.aload_n 3, 1) := by decide +kernel
theorem dX2_renew_62 : decode cX2_renew 62 = .ok (.aload_n 0, 1) := by decide +kernel
theorem dX2_renew_63 : decode cX2_renew 63 = .ok (.getfield 12, 3) := by decide +kernel
theorem dX2_renew_66 : decode cX2_renew 66 = .ok (.aload 4, 2) := by decide +kernel
theorem dX2_renew_68 : decode cX2_renew 68 = .ok (.invokevirtual 53, 3) := by decide +kernel
theorem dX2_renew_71 : decode cX2_renew 71 = .ok (.aload_n 3, 1) := by decide +kernel
theorem dX2_renew_72 : decode cX2_renew 72 = .ok (.aload_n 0, 1) := by decide +kernel
theorem dX2_renew_73 : decode cX2_renew 73 = .ok (.getfield 18, 3) := by decide +kernel
theorem dX2_renew_76 : decode cX2_renew 76 = .ok (.aload 4, 2) := by decide +kernel
theorem dX2_renew_78 : decode cX2_renew 78 = .ok (.invokevirtual 53, 3) := by decide +kernel
theorem dX2_renew_81 : decode cX2_renew 81 = .ok (.return_, 1) := by decide +kernel
theorem dX2_top_0 : decode cX2_top 0 = .ok (.aload_n 0, 1) := by decide +kernel
theorem dX2_top_1 : decode cX2_top 1 = .ok (.getfield 12, 3) := by decide +kernel
theorem dX2_top_4 : decode cX2_top 4 = .ok (.areturn, 1) := by decide +kernel
theorem dX2_bottom_0 : decode cX2_bottom 0 = .ok (.aload_n 0, 1) := by decide +kernel
theorem dX2_bottom_1 : decode cX2_bottom 1 = .ok (.getfield 18, 3) := by decide +kernel
theorem dX2_bottom_4 : decode cX2_bottom 4 = .ok (.areturn, 1) := by decide +kernel
theorem dX2_valueAt_0 : decode cX2_valueAt 0 = .ok (.aload_n 0, 1) := by decide +kernel
theorem dX2_valueAt_1 : decode cX2_valueAt 1 = .ok (.getfield 18, 3) := by decide +kernel
theorem dX2_valueAt_4 : decode cX2_valueAt 4 = .ok (.iload_n 1, 1) := by decide +kernel
theorem dX2_valueAt_5 : decode cX2_valueAt 5 = .ok (.invokevirtual 57, 3) := by decide +kernel
theorem dX2_valueAt_8 : decode cX2_valueAt 8 = .ok (.istore_n 2, 1) := by decide +kernel
theorem dX2_valueAt_9 : decode cX2_valueAt 9 = .ok (.iload_n 2, 1) := by decide +kernel
theorem dX2_valueAt_10 : decode cX2_valueAt 10 = .ok (.ifCond .ne 7, 3) := by decide +kernel
theorem dX2_valueAt_13 : decode cX2_valueAt 13 = .ok (.iconst (-1), 1) := by decide +kernel
theorem dX2_valueAt_14 : decode cX2_valueAt 14 = .ok (.goto 20, 3) := by decide +kernel
theorem dX2_valueAt_17 : decode cX2_valueAt 17 = .ok (.aload_n 0, 1) := by decide +kernel
theorem dX2_valueAt_18 : decode cX2_valueAt 18 = .ok (.getfield 12, 3) := by decide +kernel
theorem dX2_valueAt_21 : decode cX2_valueAt 21 = .ok (.iload_n 1, 1) := by decide +kernel
theorem dX2_valueAt_22 : decode cX2_valueAt 22 = .ok (.invokevirtual 57, 3) := by decide +kernel
theorem dX2_valueAt_25 : decode cX2_valueAt 25 = .ok (.iload_n 2, 1) := by decide +kernel
theorem dX2_valueAt_26 : decode cX2_valueAt 26 = .ok (.invokestatic 61, 3) := by decide +kernel
theorem dX2_valueAt_29 : decode cX2_valueAt 29 = .ok (.imul, 1) := by decide +kernel
theorem dX2_valueAt_30 : decode cX2_valueAt 30 = .ok (.sipush 32003, 3) := by decide +kernel
theorem dX2_valueAt_33 : decode cX2_valueAt 33 = .ok (.irem, 1) := by decide +kernel
theorem dX2_valueAt_34 : decode cX2_valueAt 34 = .ok (.ireturn, 1) := by decide +kernel
set_option maxRecDepth 20000 in
theorem ggX2_init_X4_init : GoodIn wsX2_init wsX4_init := goodIn_r _ [11, 12, 2, 3, 13, 14, 15, 16, 17] (by decide +kernel) (by decide +kernel)
set_option maxRecDepth 20000 in
theorem gX2_init_X4_init_n11 : GoodIn wsX2_init (wsX4_init) := ggX2_init_X4_init
set_option maxRecDepth 20000 in
theorem ggX2_renew_X1_bottomBefore : GoodIn wsX2_renew wsX1_bottomBefore := goodIn_r _ [8, 9, 102, 103, 104, 105, 106, 107, 108, 109] (by decide +kernel) (by decide +kernel)
set_option maxRecDepth 20000 in
theorem gX2_renew_X1_bottomBefore : GoodIn wsX2_renew (wsV RX2 25 RX1 yX1_bottomBefore wsX1_bottomBefore) := goodIn_app (goodIn_of _ (by decide +kernel)) ggX2_renew_X1_bottomBefore
set_option maxRecDepth 20000 in
theorem ggX2_renew_X4_copyFrom : GoodIn wsX2_renew wsX4_copyFrom := goodIn_r _ [14, 15, 16, 17, 18, 19, 13, 20, 110, 111] (by decide +kernel) (by decide +kernel)
set_option maxRecDepth 20000 in
theorem gX2_renew_X4_copyFrom : GoodIn wsX2_renew (wsV RX2 31 RX4 yX4_copyFrom wsX4_copyFrom) := goodIn_app (goodIn_of _ (by decide +kernel)) ggX2_renew_X4_copyFrom
set_option maxRecDepth 20000 in
theorem ggX2_renew_X1_solution : GoodIn wsX2_renew wsX1_solution := goodIn_r _ [24, 25, 26, 102, 103, 104, 105, 106, 107, 108, 109, 112, 113] (by decide +kernel) (by decide +kernel)
set_option maxRecDepth 20000 in
theorem gX2_renew_X1_solution : GoodIn wsX2_renew (wsV RX2 35 RX1 yX1_solution wsX1_solution) := goodIn_app (goodIn_of _ (by decide +kernel)) ggX2_renew_X1_solution
set_option maxRecDepth 20000 in
theorem ggX2_renew_X4_multiplyBy : GoodIn wsX2_renew wsX4_multiplyBy := goodIn_r _ [30, 16, 15, 31, 32, 33, 34, 35, 36, 37, 13, 38, 17, 18, 19, 20, 39, 40, 41, 42, 110, 111] (by decide +kernel) (by decide +kernel)
set_option maxRecDepth 20000 in
theorem gX2_renew_X4_multiplyBy : GoodIn wsX2_renew (wsV RX2 38 RX4 yX4_multiplyBy wsX4_multiplyBy) := goodIn_app (goodIn_of _ (by decide +kernel)) ggX2_renew_X4_multiplyBy
set_option maxRecDepth 20000 in
theorem ggX2_renew_X6_part : GoodIn wsX2_renew wsX6_part := goodIn_r _ [47, 48, 49, 50, 114, 115, 116, 117, 118, 119] (by decide +kernel) (by decide +kernel)
set_option maxRecDepth 20000 in
theorem gX2_renew_X6_part : GoodIn wsX2_renew (wsV RX2 43 RX6 yX6_part wsX6_part) := goodIn_app (goodIn_of _ (by decide +kernel)) ggX2_renew_X6_part
set_option maxRecDepth 20000 in
theorem ggX2_renew_X0_commonDivisor : GoodIn wsX2_renew wsX0_commonDivisor := goodIn_r _ [55, 56, 57, 58, 59, 60, 11, 12, 13, 14, 15, 16, 17, 18, 19, 20, 61, 36, 37, 38, 62, 63, 64, 65, 66, 67, 68, 69, 35, 70, 71, 72, 73, 74, 75, 76, 77, 78, 79, 80, 81, 82, 33, 83, 39, 40, 41, 42, 84, 85, 86, 87, 88, 89, 90, 91, 92, 93, 94, 120, 121, 122, 123, 110, 111] (by decide +kernel) (by decide +kernel)
set_option maxRecDepth 20000 in
theorem gX2_renew_X0_commonDivisor : GoodIn wsX2_renew (wsV RX2 47 RX0 yX0_commonDivisor wsX0_commonDivisor) := goodIn_app (goodIn_of _ (by decide +kernel)) ggX2_renew_X0_commonDivisor
set_option maxRecDepth 20000 in
theorem ggX2_renew_X0_divideOut : GoodIn wsX2_renew wsX0_divideOut := goodIn_r _ [98, 58, 62, 63, 64, 13, 65, 16, 66, 67, 68, 69, 15, 35, 36, 37, 38, 70, 71, 72, 73, 17, 18, 19, 20, 74, 75, 76, 77, 78, 79, 80, 81, 82, 33, 83, 39, 40, 41, 42, 84, 85, 86, 87, 88, 89, 60, 11, 12, 14, 120, 121, 122, 123, 110, 111] (by decide +kernel) (by decide +kernel)
set_option maxRecDepth 20000 in
theorem gX2_renew_X0_divideOut : GoodIn wsX2_renew (wsV RX2 53 RX0 yX0_divideOut wsX0_divideOut) := goodIn_app (goodIn_of _ (by decide +kernel)) ggX2_renew_X0_divideOut
set_option maxRecDepth 20000 in
theorem ggX2_valueAt_X4_valueAt : GoodIn wsX2_valueAt wsX4_valueAt := goodIn_r _ [7, 8, 9, 10, 11, 6, 12, 13, 20, 21] (by decide +kernel) (by decide +kernel)
set_option maxRecDepth 20000 in
theorem gX2_valueAt_X4_valueAt : GoodIn wsX2_valueAt (wsV RX2 57 RX4 yX4_valueAt wsX4_valueAt) := goodIn_app (goodIn_of _ (by decide +kernel)) ggX2_valueAt_X4_valueAt
set_option maxRecDepth 20000 in
theorem ggX2_valueAt_X7_inverse : GoodIn wsX2_valueAt wsX7_inverse := goodIn_r _ [16] (by decide +kernel) (by decide +kernel)
set_option maxRecDepth 20000 in
theorem gX2_valueAt_X7_inverse_n61 : GoodIn wsX2_valueAt (wsX7_inverse) := ggX2_valueAt_X7_inverse
theorem dX5_init_0 : decode cX5_init 0 = .ok (.aload_n 0, 1) := by decide +kernel
theorem dX5_init_1 : decode cX5_init 1 = .ok (.invokespecial 3, 3) := by decide +kernel
theorem dX5_init_4 : decode cX5_init 4 = .ok (.aload_n 0, 1) := by decide +kernel
theorem dX5_init_5 : decode cX5_init 5 = .ok (.bipush 61, 2) := by decide +kernel
theorem dX5_init_7 : decode cX5_init 7 = .ok (.newarray .int, 2) := by decide +kernel
theorem dX5_init_9 : decode cX5_init 9 = .ok (.putfield 9, 3) := by decide +kernel
theorem dX5_init_12 : decode cX5_init 12 = .ok (.aload_n 0, 1) := by decide +kernel
theorem dX5_init_13 : decode cX5_init 13 = .ok (.iconst 0, 1) := by decide +kernel
theorem dX5_init_14 : decode cX5_init 14 = .ok (.putfield 15, 3) := by decide +kernel
theorem dX5_init_17 : decode cX5_init 17 = .ok (.aload_n 0, 1) := by decide +kernel
theorem dX5_init_18 : decode cX5_init 18 = .ok (.getfield 9, 3) := by decide +kernel
theorem dX5_init_21 : decode cX5_init 21 = .ok (.iconst 0, 1) := by decide +kernel
theorem dX5_init_22 : decode cX5_init 22 = .ok (.iconst 1, 1) := by decide +kernel
theorem dX5_init_23 : decode cX5_init 23 = .ok (.iastore, 1) := by decide +kernel
theorem dX5_init_24 : decode cX5_init 24 = .ok (.return_, 1) := by decide +kernel
theorem dX5_forget_0 : decode cX5_forget 0 = .ok (.aload_n 0, 1) := by decide +kernel
theorem dX5_forget_1 : decode cX5_forget 1 = .ok (.iconst 0, 1) := by decide +kernel
theorem dX5_forget_2 : decode cX5_forget 2 = .ok (.putfield 15, 3) := by decide +kernel
theorem dX5_forget_5 : decode cX5_forget 5 = .ok (.return_, 1) := by decide +kernel
theorem dX5_reaches_0 : decode cX5_reaches 0 = .ok (.aload_n 0, 1) := by decide +kernel
theorem dX5_reaches_1 : decode cX5_reaches 1 = .ok (.getfield 15, 3) := by decide +kernel
theorem dX5_reaches_4 : decode cX5_reaches 4 = .ok (.istore 4, 2) := by decide +kernel
theorem dX5_reaches_6 : decode cX5_reaches 6 = .ok (.iload 4, 2) := by decide +kernel
theorem dX5_reaches_8 : decode cX5_reaches 8 = .ok (.iload_n 1, 1) := by decide +kernel
theorem dX5_reaches_9 : decode cX5_reaches 9 = .ok (.if_icmp .ge 85, 3) := by decide +kernel
theorem dX5_reaches_12 : decode cX5_reaches 12 = .ok (.iload 4, 2) := by decide +kernel
theorem dX5_reaches_14 : decode cX5_reaches 14 = .ok (.iconst 1, 1) := by decide +kernel
theorem dX5_reaches_15 : decode cX5_reaches 15 = .ok (.iadd, 1) := by decide +kernel
theorem dX5_reaches_16 : decode cX5_reaches 16 = .ok (.aload_n 0, 1) := by decide +kernel
theorem dX5_reaches_17 : decode cX5_reaches 17 = .ok (.getfield 9, 3) := by decide +kernel
theorem dX5_reaches_20 : decode cX5_reaches 20 = .ok (.arraylength, 1) := by decide +kernel
theorem dX5_reaches_21 : decode cX5_reaches 21 = .ok (.if_icmp .ge 73, 3) := by decide +kernel
theorem dX5_reaches_24 : decode cX5_reaches 24 = .ok (.aload_n 3, 1) := by decide +kernel
theorem dX5_reaches_25 : decode cX5_reaches 25 = .ok (.iload 4, 2) := by decide +kernel
theorem dX5_reaches_27 : decode cX5_reaches 27 = .ok (.invokevirtual 19, 3) := by decide +kernel
theorem dX5_reaches_30 : decode cX5_reaches 30 = .ok (.istore 5, 2) := by decide +kernel
theorem dX5_reaches_32 : decode cX5_reaches 32 = .ok (.iload 5, 2) := by decide +kernel
theorem dX5_reaches_34 : decode cX5_reaches 34 = .ok (.ifCond .ne 5, 3) := by decide +kernel
theorem dX5_reaches_37 : decode cX5_reaches 37 = .ok (.iconst 0, 1) := by decide +kernel
theorem dX5_reaches_38 : decode cX5_reaches 38 = .ok (.ireturn, 1) := by decide +kernel
theorem dX5_reaches_39 : decode cX5_reaches 39 = .ok (.aload_n 2, 1) := by decide +kernel
theorem dX5_reaches_40 : decode cX5_reaches 40 = .ok (.iload 4, 2) := by decide +kernel
theorem dX5_reaches_42 : decode cX5_reaches 42 = .ok (.invokevirtual 19, 3) := by decide +kernel
theorem dX5_reaches_45 : decode cX5_reaches 45 = .ok (.iload 5, 2) := by decide +kernel
theorem dX5_reaches_47 : decode cX5_reaches 47 = .ok (.invokestatic 25, 3) := by decide +kernel
theorem dX5_reaches_50 : decode cX5_reaches 50 = .ok (.imul, 1) := by decide +kernel
theorem dX5_reaches_51 : decode cX5_reaches 51 = .ok (.sipush 32003, 3) := by decide +kernel
theorem dX5_reaches_54 : decode cX5_reaches 54 = .ok (.irem, 1) := by decide +kernel
theorem dX5_reaches_55 : decode cX5_reaches 55 = .ok (.istore 6, 2) := by decide +kernel
theorem dX5_reaches_57 : decode cX5_reaches 57 = .ok (.aload_n 0, 1) := by decide +kernel
theorem dX5_reaches_58 : decode cX5_reaches 58 = .ok (.getfield 9, 3) := by decide +kernel
theorem dX5_reaches_61 : decode cX5_reaches 61 = .ok (.iload 4, 2) := by decide +kernel
theorem dX5_reaches_63 : decode cX5_reaches 63 = .ok (.iconst 1, 1) := by decide +kernel
theorem dX5_reaches_64 : decode cX5_reaches 64 = .ok (.iadd, 1) := by decide +kernel
theorem dX5_reaches_65 : decode cX5_reaches 65 = .ok (.aload_n 0, 1) := by decide +kernel
theorem dX5_reaches_66 : decode cX5_reaches 66 = .ok (.getfield 9, 3) := by decide +kernel
theorem dX5_reaches_69 : decode cX5_reaches 69 = .ok (.iload 4, 2) := by decide +kernel
theorem dX5_reaches_71 : decode cX5_reaches 71 = .ok (.iaload, 1) := by decide +kernel
theorem dX5_reaches_72 : decode cX5_reaches 72 = .ok (.iload 6, 2) := by decide +kernel
theorem dX5_reaches_74 : decode cX5_reaches 74 = .ok (.imul, 1) := by decide +kernel
theorem dX5_reaches_75 : decode cX5_reaches 75 = .ok (.sipush 32003, 3) := by decide +kernel
theorem dX5_reaches_78 : decode cX5_reaches 78 = .ok (.irem, 1) := by decide +kernel
theorem dX5_reaches_79 : decode cX5_reaches 79 = .ok (.iastore, 1) := by decide +kernel
theorem dX5_reaches_80 : decode cX5_reaches 80 = .ok (.aload_n 0, 1) := by decide +kernel
theorem dX5_reaches_81 : decode cX5_reaches 81 = .ok (.iload 4, 2) := by decide +kernel
theorem dX5_reaches_83 : decode cX5_reaches 83 = .ok (.iconst 1, 1) := by decide +kernel
theorem dX5_reaches_84 : decode cX5_reaches 84 = .ok (.iadd, 1) := by decide +kernel
theorem dX5_reaches_85 : decode cX5_reaches 85 = .ok (.putfield 15, 3) := by decide +kernel
theorem dX5_reaches_88 : decode cX5_reaches 88 = .ok (.iinc 4 1, 3) := by decide +kernel
theorem dX5_reaches_91 : decode cX5_reaches 91 = .ok (.goto (-85), 3) := by decide +kernel
theorem dX5_reaches_94 : decode cX5_reaches 94 = .ok (.iload_n 1, 1) := by decide +kernel
theorem dX5_reaches_95 : decode cX5_reaches 95 = .ok (.aload_n 0, 1) := by decide +kernel
theorem dX5_reaches_96 : decode cX5_reaches 96 = .ok (.getfield 15, 3) := by decide +kernel
theorem dX5_reaches_99 : decode cX5_reaches 99 = .ok (.if_icmp .gt 7, 3) := by decide +kernel
theorem dX5_reaches_102 : decode cX5_reaches 102 = .ok (.iconst 1, 1) := by decide +kernel
theorem dX5_reaches_103 : decode cX5_reaches 103 = .ok (.goto 4, 3) := by decide +kernel
theorem dX5_reaches_106 : decode cX5_reaches 106 = .ok (.iconst 0, 1) := by decide +kernel
theorem dX5_reaches_107 : decode cX5_reaches 107 = .ok (.ireturn, 1) := by decide +kernel
theorem dX5_termAt_0 : decode cX5_termAt 0 = .ok (.iload_n 1, 1) := by decide +kernel
theorem dX5_termAt_1 : decode cX5_termAt 1 = .ok (.ifCond .lt 12, 3) := by decide +kernel
theorem dX5_termAt_4 : decode cX5_termAt 4 = .ok (.iload_n 1, 1) := by decide +kernel
theorem dX5_termAt_5 : decode cX5_termAt 5 = .ok (.aload_n 0, 1) := by decide +kernel
theorem dX5_termAt_6 : decode cX5_termAt 6 = .ok (.getfield 9, 3) := by decide +kernel
theorem dX5_termAt_9 : decode cX5_termAt 9 = .ok (.arraylength, 1) := by decide +kernel
theorem dX5_termAt_10 : decode cX5_termAt 10 = .ok (.if_icmp .lt 7, 3) := by decide +kernel
theorem dX5_termAt_13 : decode cX5_termAt 13 = .ok (.iconst 0, 1) := by decide +kernel
theorem dX5_termAt_14 : decode cX5_termAt 14 = .ok (.goto 9, 3) := by decide +kernel
theorem dX5_termAt_17 : decode cX5_termAt 17 = .ok (.aload_n 0, 1) := by decide +kernel
theorem dX5_termAt_18 : decode cX5_termAt 18 = .ok (.getfield 9, 3) := by decide +kernel
theorem dX5_termAt_21 : decode cX5_termAt 21 = .ok (.iload_n 1, 1) := by decide +kernel
theorem dX5_termAt_22 : decode cX5_termAt 22 = .ok (.iaload, 1) := by decide +kernel
theorem dX5_termAt_23 : decode cX5_termAt 23 = .ok (.ireturn, 1) := by decide +kernel
theorem dX5_sumBelow_0 : decode cX5_sumBelow 0 = .ok (.iconst 0, 1) := by decide +kernel
theorem dX5_sumBelow_1 : decode cX5_sumBelow 1 = .ok (.istore_n 2, 1) := by decide +kernel
theorem dX5_sumBelow_2 : decode cX5_sumBelow 2 = .ok (.iconst 0, 1) := by decide +kernel
theorem dX5_sumBelow_3 : decode cX5_sumBelow 3 = .ok (.istore_n 3, 1) := by decide +kernel
theorem dX5_sumBelow_4 : decode cX5_sumBelow 4 = .ok (.iload_n 3, 1) := by decide +kernel
theorem dX5_sumBelow_5 : decode cX5_sumBelow 5 = .ok (.iload_n 1, 1) := by decide +kernel
theorem dX5_sumBelow_6 : decode cX5_sumBelow 6 = .ok (.if_icmp .ge 31, 3) := by decide +kernel
theorem dX5_sumBelow_9 : decode cX5_sumBelow 9 = .ok (.iload_n 3, 1) := by decide +kernel
theorem dX5_sumBelow_10 : decode cX5_sumBelow 10 = .ok (.aload_n 0, 1) := by decide +kernel
theorem dX5_sumBelow_11 : decode cX5_sumBelow 11 = .ok (.getfield 9, 3) := by decide +kernel
theorem dX5_sumBelow_14 : decode cX5_sumBelow 14 = .ok (.arraylength, 1) := by decide +kernel
theorem dX5_sumBelow_15 : decode cX5_sumBelow 15 = .ok (.if_icmp .ge 22, 3) := by decide +kernel
theorem dX5_sumBelow_18 : decode cX5_sumBelow 18 = .ok (.iload_n 2, 1) := by decide +kernel
theorem dX5_sumBelow_19 : decode cX5_sumBelow 19 = .ok (.aload_n 0, 1) := by decide +kernel
theorem dX5_sumBelow_20 : decode cX5_sumBelow 20 = .ok (.getfield 9, 3) := by decide +kernel
theorem dX5_sumBelow_23 : decode cX5_sumBelow 23 = .ok (.iload_n 3, 1) := by decide +kernel
theorem dX5_sumBelow_24 : decode cX5_sumBelow 24 = .ok (.iaload, 1) := by decide +kernel
theorem dX5_sumBelow_25 : decode cX5_sumBelow 25 = .ok (.iadd, 1) := by decide +kernel
theorem dX5_sumBelow_26 : decode cX5_sumBelow 26 = .ok (.sipush 32003, 3) := by decide +kernel
theorem dX5_sumBelow_29 : decode cX5_sumBelow 29 = .ok (.irem, 1) := by decide +kernel
theorem dX5_sumBelow_30 : decode cX5_sumBelow 30 = .ok (.istore_n 2, 1) := by decide +kernel
theorem dX5_sumBelow_31 : decode cX5_sumBelow 31 = .ok (.iinc 3 1, 3) := by decide +kernel
theorem dX5_sumBelow_34 : decode cX5_sumBelow 34 = .ok (.goto (-30), 3) := by decide +kernel
theorem dX5_sumBelow_37 : decode cX5_sumBelow 37 = .ok (.iload_n 2, 1) := by decide +kernel
theorem dX5_sumBelow_38 : decode cX5_sumBelow 38 = .ok (.ireturn, 1) := by decide +kernel
set_option maxRecDepth 20000 in
theorem ggX5_reaches_X4_valueAt : GoodIn wsX5_reaches wsX4_valueAt := goodIn_r _ [7, 8, 9, 10, 11, 6, 12, 13, 19, 20] (by decide +kernel) (by decide +kernel)
set_option maxRecDepth 20000 in
theorem gX5_reaches_X4_valueAt : GoodIn wsX5_reaches (wsV RX5 19 RX4 yX4_valueAt wsX4_valueAt) := goodIn_app (goodIn_of _ (by decide +kernel)) ggX5_reaches_X4_valueAt
set_option maxRecDepth 20000 in
theorem ggX5_reaches_X7_inverse : GoodIn wsX5_reaches wsX7_inverse := goodIn_r _ [16] (by decide +kernel) (by decide +kernel)
set_option maxRecDepth 20000 in
theorem gX5_reaches_X7_inverse_n25 : GoodIn wsX5_reaches (wsX7_inverse) := ggX5_reaches_X7_inverse
