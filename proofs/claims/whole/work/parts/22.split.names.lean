theorem dX6_init_0 : decode cX6_init 0 = .ok (.aload_n 0, 1) := by decide +kernel
theorem dX6_init_1 : decode cX6_init 1 = .ok (.invokespecial 3, 3) := by decide +kernel
theorem dX6_init_4 : decode cX6_init 4 = .ok (.aload_n 0, 1) := by decide +kernel
theorem dX6_init_5 : decode cX6_init 5 = .ok (.new 9, 3) := by decide +kernel
theorem dX6_init_8 : decode cX6_init 8 = .ok (.dup, 1) := by decide +kernel
theorem dX6_init_9 : decode cX6_init 9 = .ok (.invokespecial 11, 3) := by decide +kernel
theorem dX6_init_12 : decode cX6_init 12 = .ok (.putfield 12, 3) := by decide +kernel
theorem dX6_init_15 : decode cX6_init 15 = .ok (.aload_n 0, 1) := by decide +kernel
theorem dX6_init_16 : decode cX6_init 16 = .ok (.new 9, 3) := by decide +kernel
theorem dX6_init_19 : decode cX6_init 19 = .ok (.dup, 1) := by decide +kernel
theorem dX6_init_20 : decode cX6_init 20 = .ok (.invokespecial 11, 3) := by decide +kernel
theorem dX6_init_23 : decode cX6_init 23 = .ok (.putfield 18, 3) := by decide +kernel
theorem dX6_init_26 : decode cX6_init 26 = .ok (.aload_n 0, 1) := by decide +kernel
theorem dX6_init_27 : decode cX6_init 27 = .ok (.new 9, 3) := by decide +kernel
theorem dX6_init_30 : decode cX6_init 30 = .ok (.dup, 1) := by decide +kernel
theorem dX6_init_31 : decode cX6_init 31 = .ok (.invokespecial 11, 3) := by decide +kernel
theorem dX6_init_34 : decode cX6_init 34 = .ok (.putfield 21, 3) := by decide +kernel
theorem dX6_init_37 : decode cX6_init 37 = .ok (.aload_n 0, 1) := by decide +kernel
theorem dX6_init_38 : decode cX6_init 38 = .ok (.new 9, 3) := by decide +kernel
theorem dX6_init_41 : decode cX6_init 41 = .ok (.dup, 1) := by decide +kernel
theorem dX6_init_42 : decode cX6_init 42 = .ok (.invokespecial 11, 3) := by decide +kernel
theorem dX6_init_45 : decode cX6_init 45 = .ok (.putfield 24, 3) := by decide +kernel
theorem dX6_init_48 : decode cX6_init 48 = .ok (.aload_n 0, 1) := by decide +kernel
theorem dX6_init_49 : decode cX6_init 49 = .ok (.bipush 9, 2) := by decide +kernel
theorem dX6_init_51 : decode cX6_init 51 = .ok (.newarray .int, 2) := by decide +kernel
theorem dX6_init_53 : decode cX6_init 53 = .ok (.putfield 27, 3) := by decide +kernel
theorem dX6_init_56 : decode cX6_init 56 = .ok (.aload_n 0, 1) := by decide +kernel
theorem dX6_init_57 : decode cX6_init 57 = .ok (.iconst 0, 1) := by decide +kernel
theorem dX6_init_58 : decode cX6_init 58 = .ok (.putfield 31, 3) := by decide +kernel
theorem dX6_init_61 : decode cX6_init 61 = .ok (.return_, 1) := by decide +kernel
theorem dX6_forget_0 : decode cX6_forget 0 = .ok (.aload_n 0, 1) := by decide +kernel
theorem dX6_forget_1 : decode cX6_forget 1 = .ok (.iconst 0, 1) := by decide +kernel
theorem dX6_forget_2 : decode cX6_forget 2 = .ok (.putfield 31, 3) := by decide +kernel
theorem dX6_forget_5 : decode cX6_forget 5 = .ok (.return_, 1) := by decide +kernel
theorem dX6_renew_0 : decode cX6_renew 0 = .ok (.aload_n 0, 1) := by decide +kernel
theorem dX6_renew_1 : decode cX6_renew 1 = .ok (.getfield 31, 3) := by decide +kernel
theorem dX6_renew_4 : decode cX6_renew 4 = .ok (.ifCond .eq 4, 3) := by decide +kernel
theorem dX6_renew_7 : decode cX6_renew 7 = .ok (.return_, 1) := by decide +kernel
theorem dX6_renew_8 : decode cX6_renew 8 = .ok (.aload_n 0, 1) := by decide +kernel
theorem dX6_renew_9 : decode cX6_renew 9 = .ok (.iconst 1, 1) := by decide +kernel
theorem dX6_renew_10 : decode cX6_renew 10 = .ok (.putfield 31, 3) := by decide +kernel
theorem dX6_renew_13 : decode cX6_renew 13 = .ok (.aload_n 0, 1) := by decide +kernel
theorem dX6_renew_14 : decode cX6_renew 14 = .ok (.getfield 12, 3) := by decide +kernel
theorem dX6_renew_17 : decode cX6_renew 17 = .ok (.aload_n 1, 1) := by decide +kernel
theorem dX6_renew_18 : decode cX6_renew 18 = .ok (.invokevirtual 35, 3) := by decide +kernel
theorem dX6_renew_21 : decode cX6_renew 21 = .ok (.aload_n 0, 1) := by decide +kernel
theorem dX6_renew_22 : decode cX6_renew 22 = .ok (.getfield 18, 3) := by decide +kernel
theorem dX6_renew_25 : decode cX6_renew 25 = .ok (.aload_n 2, 1) := by decide +kernel
theorem dX6_renew_26 : decode cX6_renew 26 = .ok (.invokevirtual 35, 3) := by decide +kernel
theorem dX6_renew_29 : decode cX6_renew 29 = .ok (.aload_n 0, 1) := by decide +kernel
theorem dX6_renew_30 : decode cX6_renew 30 = .ok (.getfield 21, 3) := by decide +kernel
theorem dX6_renew_33 : decode cX6_renew 33 = .ok (.iconst 1, 1) := by decide +kernel
theorem dX6_renew_34 : decode cX6_renew 34 = .ok (.invokevirtual 39, 3) := by decide +kernel
theorem dX6_renew_37 : decode cX6_renew 37 = .ok (.iconst 0, 1) := by decide +kernel
theorem dX6_renew_38 : decode cX6_renew 38 = .ok (.istore 4, 2) := by decide +kernel
theorem dX6_renew_40 : decode cX6_renew 40 = .ok (.iload 4, 2) := by decide +kernel
theorem dX6_renew_42 : decode cX6_renew 42 = .ok (.aload_n 0, 1) := by decide +kernel
theorem dX6_renew_43 : decode cX6_renew 43 = .ok (.getfield 27, 3) := by decide +kernel
theorem dX6_renew_46 : decode cX6_renew 46 = .ok (.arraylength, 1) := by decide +kernel
theorem dX6_renew_47 : decode cX6_renew 47 = .ok (.if_icmp .ge 108, 3) := by decide +kernel
theorem dX6_renew_50 : decode cX6_renew 50 = .ok (.aload_n 0, 1) := by decide +kernel
theorem dX6_renew_51 : decode cX6_renew 51 = .ok (.getfield 24, 3) := by decide +kernel
theorem dX6_renew_54 : decode cX6_renew 54 = .ok (.aload_n 0, 1) := by decide +kernel
theorem dX6_renew_55 : decode cX6_renew 55 = .ok (.getfield 18, 3) := by decide +kernel
theorem dX6_renew_58 : decode cX6_renew 58 = .ok (.invokevirtual 35, 3) := by decide +kernel
theorem dX6_renew_61 : decode cX6_renew 61 = .ok (.aload_n 0, 1) := by decide +kernel
theorem dX6_renew_62 : decode cX6_renew 62 = .ok (.getfield 24, 3) := by decide +kernel
theorem dX6_renew_65 : decode cX6_renew 65 = .ok (.iload 4, 2) := by decide +kernel
theorem dX6_renew_67 : decode cX6_renew 67 = .ok (.invokevirtual 43, 3) := by decide +kernel
theorem dX6_renew_70 : decode cX6_renew 70 = .ok (.aload_n 3, 1) := by decide +kernel
theorem dX6_renew_71 : decode cX6_renew 71 = .ok (.aload_n 0, 1) := by decide +kernel
theorem dX6_renew_72 : decode cX6_renew 72 = .ok (.getfield 12, 3) := by decide +kernel
theorem dX6_renew_75 : decode cX6_renew 75 = .ok (.aload_n 0, 1) := by decide +kernel
theorem dX6_renew_76 : decode cX6_renew 76 = .ok (.getfield 24, 3) := by decide +kernel
theorem dX6_renew_79 : decode cX6_renew 79 = .ok (.invokevirtual 46, 3) := by decide +kernel
theorem dX6_renew_82 : decode cX6_renew 82 = .ok (.astore 5, 2) := by decide +kernel
theorem dX6_renew_84 : decode cX6_renew 84 = .ok (.aload_n 0, 1) := by decide +kernel
theorem dX6_renew_85 : decode cX6_renew 85 = .ok (.getfield 27, 3) := by decide +kernel
theorem dX6_renew_88 : decode cX6_renew 88 = .ok (.iload 4, 2) := by decide +kernel
theorem dX6_renew_90 : decode cX6_renew 90 = .ok (.aload 5, 2) := by decide +kernel
theorem dX6_renew_92 : decode cX6_renew 92 = .ok (.invokevirtual 52, 3) := by decide +kernel
theorem dX6_renew_95 : decode cX6_renew 95 = .ok (.iastore, 1) := by decide +kernel
theorem dX6_renew_96 : decode cX6_renew 96 = .ok (.aload_n 3, 1) := by decide +kernel
theorem dX6_renew_97 : decode cX6_renew 97 = .ok (.aload_n 0, 1) := by decide +kernel
theorem dX6_renew_98 : decode cX6_renew 98 = .ok (.getfield 12, 3) := by decide +kernel
theorem dX6_renew_101 : decode cX6_renew 101 = .ok (.aload 5, 2) := by decide +kernel
theorem dX6_renew_103 : decode cX6_renew 103 = .ok (.invokevirtual 56, 3) := by decide +kernel
theorem dX6_renew_106 : decode cX6_renew 106 = .ok (.iconst 1, 1) := by decide +kernel
theorem dX6_renew_107 : decode cX6_renew 107 = .ok (.istore 6, 2) := by decide +kernel
theorem dX6_renew_109 : decode cX6_renew 109 = .ok (.iload 6, 2) := by decide +kernel
theorem dX6_renew_111 : decode cX6_renew 111 = .ok (.iload 4, 2) := by decide +kernel
theorem dX6_renew_113 : decode cX6_renew 113 = .ok (.if_icmp .gt 26, 3) := by decide +kernel
theorem dX6_renew_116 : decode cX6_renew 116 = .ok (.aload 5, 2) := by decide +kernel
theorem dX6_renew_118 : decode cX6_renew 118 = .ok (.sipush 32002, 3) := by decide +kernel
theorem dX6_renew_121 : decode cX6_renew 121 = .ok (.invokevirtual 43, 3) := by decide +kernel
theorem dX6_renew_124 : decode cX6_renew 124 = .ok (.aload_n 0, 1) := by decide +kernel
theorem dX6_renew_125 : decode cX6_renew 125 = .ok (.getfield 21, 3) := by decide +kernel
theorem dX6_renew_128 : decode cX6_renew 128 = .ok (.aload 5, 2) := by decide +kernel
theorem dX6_renew_130 : decode cX6_renew 130 = .ok (.invokevirtual 60, 3) := by decide +kernel
theorem dX6_renew_133 : decode cX6_renew 133 = .ok (.iinc 6 1, 3) := by decide +kernel
theorem dX6_renew_136 : decode cX6_renew 136 = .ok (.goto (-27), 3) := by decide +kernel
theorem dX6_renew_139 : decode cX6_renew 139 = .ok (.aload_n 3, 1) := by decide +kernel
theorem dX6_renew_140 : decode cX6_renew 140 = .ok (.aload_n 0, 1) := by decide +kernel
theorem dX6_renew_141 : decode cX6_renew 141 = .ok (.getfield 18, 3) := by decide +kernel
theorem dX6_renew_144 : decode cX6_renew 144 = .ok (.aload 5, 2) := by decide +kernel
theorem dX6_renew_146 : decode cX6_renew 146 = .ok (.invokevirtual 56, 3) := by decide +kernel
theorem dX6_renew_149 : decode cX6_renew 149 = .ok (.iinc 4 1, 3) := by decide +kernel
theorem dX6_renew_152 : decode cX6_renew 152 = .ok (.goto (-112), 3) := by decide +kernel
theorem dX6_renew_155 : decode cX6_renew 155 = .ok (.return_, 1) := by decide +kernel
theorem dX6_commonDegree_0 : decode cX6_commonDegree 0 = .ok (.iload_n 1, 1) := by decide +kernel
theorem dX6_commonDegree_1 : decode cX6_commonDegree 1 = .ok (.ifCond .lt 12, 3) := by decide +kernel
theorem dX6_commonDegree_4 : decode cX6_commonDegree 4 = .ok (.iload_n 1, 1) := by decide +kernel
theorem dX6_commonDegree_5 : decode cX6_commonDegree 5 = .ok (.aload_n 0, 1) := by decide +kernel
theorem dX6_commonDegree_6 : decode cX6_commonDegree 6 = .ok (.getfield 27, 3) := by decide +kernel
theorem dX6_commonDegree_9 : decode cX6_commonDegree 9 = .ok (.arraylength, 1) := by decide +kernel
theorem dX6_commonDegree_10 : decode cX6_commonDegree 10 = .ok (.if_icmp .lt 7, 3) := by decide +kernel
theorem dX6_commonDegree_13 : decode cX6_commonDegree 13 = .ok (.iconst 0, 1) := by decide +kernel
theorem dX6_commonDegree_14 : decode cX6_commonDegree 14 = .ok (.goto 9, 3) := by decide +kernel
theorem dX6_commonDegree_17 : decode cX6_commonDegree 17 = .ok (.aload_n 0, 1) := by decide +kernel
theorem dX6_commonDegree_18 : decode cX6_commonDegree 18 = .ok (.getfield 27, 3) := by decide +kernel
theorem dX6_commonDegree_21 : decode cX6_commonDegree 21 = .ok (.iload_n 1, 1) := by decide +kernel
theorem dX6_commonDegree_22 : decode cX6_commonDegree 22 = .ok (.iaload, 1) := by decide +kernel
theorem dX6_commonDegree_23 : decode cX6_commonDegree 23 = .ok (.ireturn, 1) := by decide +kernel
theorem dX6_part_0 : decode cX6_part 0 = .ok (.iload_n 1, 1) := by decide +kernel
theorem dX6_part_1 : decode cX6_part 1 = .ok (.ifCond .ne 8, 3) := by decide +kernel
theorem dX6_part_4 : decode cX6_part 4 = .ok (.aload_n 0, 1) := by decide +kernel
theorem dX6_part_5 : decode cX6_part 5 = .ok (.getfield 12, 3) := by decide +kernel
theorem dX6_part_8 : decode cX6_part 8 = .ok (.areturn, 1) := by decide +kernel
theorem dX6_part_9 : decode cX6_part 9 = .ok (.iload_n 1, 1) := by decide +kernel
theorem dX6_part_10 : decode cX6_part 10 = .ok (.iconst 1, 1) := by decide +kernel
theorem dX6_part_11 : decode cX6_part 11 = .ok (.if_icmp .ne 10, 3) := by decide +kernel
theorem dX6_part_14 : decode cX6_part 14 = .ok (.aload_n 0, 1) := by decide +kernel
theorem dX6_part_15 : decode cX6_part 15 = .ok (.getfield 18, 3) := by decide +kernel
theorem dX6_part_18 : decode cX6_part 18 = .ok (.goto 7, 3) := by decide +kernel
theorem dX6_part_21 : decode cX6_part 21 = .ok (.aload_n 0, 1) := by decide +kernel
theorem dX6_part_22 : decode cX6_part 22 = .ok (.getfield 21, 3) := by decide +kernel
theorem dX6_part_25 : decode cX6_part 25 = .ok (.areturn, 1) := by decide +kernel
set_option maxRecDepth 20000 in
theorem ggX6_init_X4_init : GoodIn wsX6_init wsX4_init := goodIn_r _ [15, 16, 2, 3, 11, 17, 18, 19, 20] (by decide +kernel) (by decide +kernel)
set_option maxRecDepth 20000 in
theorem gX6_init_X4_init_n11 : GoodIn wsX6_init (wsX4_init) := ggX6_init_X4_init
set_option maxRecDepth 20000 in
theorem ggX6_renew_X4_copyFrom : GoodIn wsX6_renew wsX4_copyFrom := goodIn_r _ [11, 12, 13, 14, 15, 16, 10, 17, 97, 98] (by decide +kernel) (by decide +kernel)
set_option maxRecDepth 20000 in
theorem gX6_renew_X4_copyFrom : GoodIn wsX6_renew (wsV RX6 35 RX4 yX4_copyFrom wsX4_copyFrom) := goodIn_app (goodIn_of _ (by decide +kernel)) ggX6_renew_X4_copyFrom
set_option maxRecDepth 20000 in
theorem ggX6_renew_X4_becomeNumber : GoodIn wsX6_renew wsX4_becomeNumber := goodIn_r _ [21, 12, 13, 97, 98] (by decide +kernel) (by decide +kernel)
set_option maxRecDepth 20000 in
theorem gX6_renew_X4_becomeNumber : GoodIn wsX6_renew (wsV RX6 39 RX4 yX4_becomeNumber wsX4_becomeNumber) := goodIn_app (goodIn_of _ (by decide +kernel)) ggX6_renew_X4_becomeNumber
set_option maxRecDepth 20000 in
theorem ggX6_renew_X4_moveBy : GoodIn wsX6_renew wsX4_moveBy := goodIn_r _ [25, 13, 12, 26, 27, 28, 29, 14, 15, 16, 10, 17, 97, 98] (by decide +kernel) (by decide +kernel)
set_option maxRecDepth 20000 in
theorem gX6_renew_X4_moveBy : GoodIn wsX6_renew (wsV RX6 43 RX4 yX4_moveBy wsX4_moveBy) := goodIn_app (goodIn_of _ (by decide +kernel)) ggX6_renew_X4_moveBy
set_option maxRecDepth 20000 in
theorem ggX6_renew_X0_commonDivisor : GoodIn wsX6_renew wsX0_commonDivisor := goodIn_r _ [34, 35, 36, 37, 38, 39, 8, 9, 10, 11, 12, 13, 14, 15, 16, 17, 40, 41, 42, 43, 44, 45, 46, 47, 48, 19, 20, 21, 49, 50, 51, 52, 53, 54, 55, 56, 57, 58, 59, 60, 61, 62, 28, 63, 64, 65, 66, 67, 68, 69, 70, 71, 72, 73, 74, 75, 76, 77, 78, 99, 100, 101, 102, 97, 98] (by decide +kernel) (by decide +kernel)
set_option maxRecDepth 20000 in
theorem gX6_renew_X0_commonDivisor : GoodIn wsX6_renew (wsV RX6 46 RX0 yX0_commonDivisor wsX0_commonDivisor) := goodIn_app (goodIn_of _ (by decide +kernel)) ggX6_renew_X0_commonDivisor
set_option maxRecDepth 20000 in
theorem ggX6_renew_X4_highest : GoodIn wsX6_renew wsX4_highest := goodIn_r _ [82, 13, 97, 98] (by decide +kernel) (by decide +kernel)
set_option maxRecDepth 20000 in
theorem gX6_renew_X4_highest : GoodIn wsX6_renew (wsV RX6 52 RX4 yX4_highest wsX4_highest) := goodIn_app (goodIn_of _ (by decide +kernel)) ggX6_renew_X4_highest
set_option maxRecDepth 20000 in
theorem ggX6_renew_X0_divideOut : GoodIn wsX6_renew wsX0_divideOut := goodIn_r _ [86, 37, 44, 45, 46, 10, 47, 13, 48, 19, 20, 21, 12, 49, 41, 42, 43, 50, 51, 52, 53, 14, 15, 16, 17, 54, 55, 56, 57, 58, 59, 60, 61, 62, 28, 63, 64, 65, 66, 67, 68, 69, 70, 71, 72, 73, 39, 8, 9, 11, 99, 100, 101, 102, 97, 98] (by decide +kernel) (by decide +kernel)
set_option maxRecDepth 20000 in
theorem gX6_renew_X0_divideOut : GoodIn wsX6_renew (wsV RX6 56 RX0 yX0_divideOut wsX0_divideOut) := goodIn_app (goodIn_of _ (by decide +kernel)) ggX6_renew_X0_divideOut
set_option maxRecDepth 20000 in
theorem ggX6_renew_X4_multiplyBy : GoodIn wsX6_renew wsX4_multiplyBy := goodIn_r _ [90, 13, 12, 26, 27, 28, 29, 49, 41, 42, 10, 43, 14, 15, 16, 17, 64, 65, 66, 67, 97, 98] (by decide +kernel) (by decide +kernel)
set_option maxRecDepth 20000 in
theorem gX6_renew_X4_multiplyBy : GoodIn wsX6_renew (wsV RX6 60 RX4 yX4_multiplyBy wsX4_multiplyBy) := goodIn_app (goodIn_of _ (by decide +kernel)) ggX6_renew_X4_multiplyBy
