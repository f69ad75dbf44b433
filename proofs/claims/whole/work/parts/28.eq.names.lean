theorem dX3_init_0 : decode cX3_init 0 = .ok (.aload_n 0, 1) := by decide +kernel
theorem dX3_init_1 : decode cX3_init 1 = .ok (.invokespecial 1, 3) := by decide +kernel
theorem dX3_init_4 : decode cX3_init 4 = .ok (.aload_n 0, 1) := by decide +kernel
theorem dX3_init_5 : decode cX3_init 5 = .ok (.new 7, 3) := by decide +kernel
theorem dX3_init_8 : decode cX3_init 8 = .ok (.dup, 1) := by decide +kernel
theorem dX3_init_9 : decode cX3_init 9 = .ok (.invokespecial 9, 3) := by decide +kernel
theorem dX3_init_12 : decode cX3_init 12 = .ok (.putfield 10, 3) := by decide +kernel
theorem dX3_init_15 : decode cX3_init 15 = .ok (.aload_n 0, 1) := by decide +kernel
theorem dX3_init_16 : decode cX3_init 16 = .ok (.new 7, 3) := by decide +kernel
theorem dX3_init_19 : decode cX3_init 19 = .ok (.dup, 1) := by decide +kernel
theorem dX3_init_20 : decode cX3_init 20 = .ok (.invokespecial 9, 3) := by decide +kernel
theorem dX3_init_23 : decode cX3_init 23 = .ok (.putfield 16, 3) := by decide +kernel
theorem dX3_init_26 : decode cX3_init 26 = .ok (.return_, 1) := by decide +kernel
set_option maxRecDepth 20000 in
theorem ggX3_init_X4_init : GoodIn wsX3_init wsX4_init := goodIn_r _ [10, 11, 2, 3, 12, 13, 14, 15, 16] (by decide +kernel) (by decide +kernel)
set_option maxRecDepth 20000 in
theorem gX3_init_X4_init_n9 : GoodIn wsX3_init (wsX4_init) := ggX3_init_X4_init
theorem dX1_init_0 : decode cX1_init 0 = .ok (.aload_n 0, 1) := by decide +kernel
theorem dX1_init_1 : decode cX1_init 1 = .ok (.invokespecial 3, 3) := by decide +kernel
theorem dX1_init_4 : decode cX1_init 4 = .ok (.aload_n 0, 1) := by decide +kernel
theorem dX1_init_5 : decode cX1_init 5 = .ok (.bipush 21, 2) := by decide +kernel
theorem dX1_init_7 : decode cX1_init 7 = .ok (.anewarray 9, 3) := by decide +kernel
theorem dX1_init_10 : decode cX1_init 10 = .ok (.putfield 11, 3) := by decide +kernel
theorem dX1_init_13 : decode cX1_init 13 = .ok (.aload_n 0, 1) := by decide +kernel
theorem dX1_init_14 : decode cX1_init 14 = .ok (.bipush 33, 2) := by decide +kernel
theorem dX1_init_16 : decode cX1_init 16 = .ok (.anewarray 9, 3) := by decide +kernel
theorem dX1_init_19 : decode cX1_init 19 = .ok (.putfield 19, 3) := by decide +kernel
theorem dX1_init_22 : decode cX1_init 22 = .ok (.aload_n 0, 1) := by decide +kernel
theorem dX1_init_23 : decode cX1_init 23 = .ok (.new 9, 3) := by decide +kernel
theorem dX1_init_26 : decode cX1_init 26 = .ok (.dup, 1) := by decide +kernel
theorem dX1_init_27 : decode cX1_init 27 = .ok (.invokespecial 22, 3) := by decide +kernel
theorem dX1_init_30 : decode cX1_init 30 = .ok (.putfield 23, 3) := by decide +kernel
theorem dX1_init_33 : decode cX1_init 33 = .ok (.aload_n 0, 1) := by decide +kernel
theorem dX1_init_34 : decode cX1_init 34 = .ok (.new 17, 3) := by decide +kernel
theorem dX1_init_37 : decode cX1_init 37 = .ok (.dup, 1) := by decide +kernel
theorem dX1_init_38 : decode cX1_init 38 = .ok (.invokespecial 27, 3) := by decide +kernel
theorem dX1_init_41 : decode cX1_init 41 = .ok (.putfield 28, 3) := by decide +kernel
theorem dX1_init_44 : decode cX1_init 44 = .ok (.aload_n 0, 1) := by decide +kernel
theorem dX1_init_45 : decode cX1_init 45 = .ok (.new 17, 3) := by decide +kernel
theorem dX1_init_48 : decode cX1_init 48 = .ok (.dup, 1) := by decide +kernel
theorem dX1_init_49 : decode cX1_init 49 = .ok (.invokespecial 27, 3) := by decide +kernel
theorem dX1_init_52 : decode cX1_init 52 = .ok (.putfield 32, 3) := by decide +kernel
theorem dX1_init_55 : decode cX1_init 55 = .ok (.aload_n 0, 1) := by decide +kernel
theorem dX1_init_56 : decode cX1_init 56 = .ok (.new 17, 3) := by decide +kernel
theorem dX1_init_59 : decode cX1_init 59 = .ok (.dup, 1) := by decide +kernel
theorem dX1_init_60 : decode cX1_init 60 = .ok (.invokespecial 27, 3) := by decide +kernel
theorem dX1_init_63 : decode cX1_init 63 = .ok (.putfield 35, 3) := by decide +kernel
theorem dX1_init_66 : decode cX1_init 66 = .ok (.aload_n 0, 1) := by decide +kernel
theorem dX1_init_67 : decode cX1_init 67 = .ok (.iconst (-1), 1) := by decide +kernel
theorem dX1_init_68 : decode cX1_init 68 = .ok (.putfield 38, 3) := by decide +kernel
theorem dX1_init_71 : decode cX1_init 71 = .ok (.aload_n 0, 1) := by decide +kernel
theorem dX1_init_72 : decode cX1_init 72 = .ok (.iconst 0, 1) := by decide +kernel
theorem dX1_init_73 : decode cX1_init 73 = .ok (.putfield 42, 3) := by decide +kernel
theorem dX1_init_76 : decode cX1_init 76 = .ok (.iconst 0, 1) := by decide +kernel
theorem dX1_init_77 : decode cX1_init 77 = .ok (.istore_n 1, 1) := by decide +kernel
theorem dX1_init_78 : decode cX1_init 78 = .ok (.iload_n 1, 1) := by decide +kernel
theorem dX1_init_79 : decode cX1_init 79 = .ok (.aload_n 0, 1) := by decide +kernel
theorem dX1_init_80 : decode cX1_init 80 = .ok (.getfield 11, 3) := by decide +kernel
theorem dX1_init_83 : decode cX1_init 83 = .ok (.arraylength, 1) := by decide +kernel
theorem dX1_init_84 : decode cX1_init 84 = .ok (.if_icmp .ge 22, 3) := by decide +kernel
theorem dX1_init_87 : decode cX1_init 87 = .ok (.aload_n 0, 1) := by decide +kernel
theorem dX1_init_88 : decode cX1_init 88 = .ok (.getfield 11, 3) := by decide +kernel
theorem dX1_init_91 : decode cX1_init 91 = .ok (.iload_n 1, 1) := by decide +kernel
theorem dX1_init_92 : decode cX1_init 92 = .ok (.new 9, 3) := by decide +kernel
theorem dX1_init_95 : decode cX1_init 95 = .ok (.dup, 1) := by decide +kernel
theorem dX1_init_96 : decode cX1_init 96 = .ok (.invokespecial 22, 3) := by decide +kernel
theorem dX1_init_99 : decode cX1_init 99 = .ok (.aastore, 1) := by decide +kernel
theorem dX1_init_100 : decode cX1_init 100 = .ok (.iinc 1 1, 3) := by decide +kernel
theorem dX1_init_103 : decode cX1_init 103 = .ok (.goto (-25), 3) := by decide +kernel
theorem dX1_init_106 : decode cX1_init 106 = .ok (.aload_n 0, 1) := by decide +kernel
theorem dX1_init_107 : decode cX1_init 107 = .ok (.getfield 35, 3) := by decide +kernel
theorem dX1_init_110 : decode cX1_init 110 = .ok (.iconst 0, 1) := by decide +kernel
theorem dX1_init_111 : decode cX1_init 111 = .ok (.iconst 1, 1) := by decide +kernel
theorem dX1_init_112 : decode cX1_init 112 = .ok (.invokevirtual 46, 3) := by decide +kernel
theorem dX1_init_115 : decode cX1_init 115 = .ok (.aload_n 0, 1) := by decide +kernel
theorem dX1_init_116 : decode cX1_init 116 = .ok (.getfield 35, 3) := by decide +kernel
theorem dX1_init_119 : decode cX1_init 119 = .ok (.iconst 1, 1) := by decide +kernel
theorem dX1_init_120 : decode cX1_init 120 = .ok (.iconst 1, 1) := by decide +kernel
theorem dX1_init_121 : decode cX1_init 121 = .ok (.invokevirtual 46, 3) := by decide +kernel
theorem dX1_init_124 : decode cX1_init 124 = .ok (.return_, 1) := by decide +kernel
theorem dX1_forget_0 : decode cX1_forget 0 = .ok (.aload_n 0, 1) := by decide +kernel
theorem dX1_forget_1 : decode cX1_forget 1 = .ok (.iconst 0, 1) := by decide +kernel
theorem dX1_forget_2 : decode cX1_forget 2 = .ok (.putfield 42, 3) := by decide +kernel
theorem dX1_forget_5 : decode cX1_forget 5 = .ok (.return_, 1) := by decide +kernel
theorem dX1_leastDegree_0 : decode cX1_leastDegree 0 = .ok (.aload_n 0, 1) := by decide +kernel
theorem dX1_leastDegree_1 : decode cX1_leastDegree 1 = .ok (.getfield 38, 3) := by decide +kernel
theorem dX1_leastDegree_4 : decode cX1_leastDegree 4 = .ok (.ireturn, 1) := by decide +kernel
theorem dX1_solution_0 : decode cX1_solution 0 = .ok (.aload_n 0, 1) := by decide +kernel
theorem dX1_solution_1 : decode cX1_solution 1 = .ok (.getfield 23, 3) := by decide +kernel
theorem dX1_solution_4 : decode cX1_solution 4 = .ok (.getfield 50, 3) := by decide +kernel
theorem dX1_solution_7 : decode cX1_solution 7 = .ok (.areturn, 1) := by decide +kernel
theorem dX1_renew_0 : decode cX1_renew 0 = .ok (.aload_n 0, 1) := by decide +kernel
theorem dX1_renew_1 : decode cX1_renew 1 = .ok (.getfield 42, 3) := by decide +kernel
theorem dX1_renew_4 : decode cX1_renew 4 = .ok (.ifCond .eq 4, 3) := by decide +kernel
theorem dX1_renew_7 : decode cX1_renew 7 = .ok (.return_, 1) := by decide +kernel
theorem dX1_renew_8 : decode cX1_renew 8 = .ok (.aload_n 0, 1) := by decide +kernel
theorem dX1_renew_9 : decode cX1_renew 9 = .ok (.iconst 1, 1) := by decide +kernel
theorem dX1_renew_10 : decode cX1_renew 10 = .ok (.putfield 42, 3) := by decide +kernel
theorem dX1_renew_13 : decode cX1_renew 13 = .ok (.aload_n 0, 1) := by decide +kernel
theorem dX1_renew_14 : decode cX1_renew 14 = .ok (.aload_n 1, 1) := by decide +kernel
theorem dX1_renew_15 : decode cX1_renew 15 = .ok (.invokevirtual 53, 3) := by decide +kernel
theorem dX1_renew_18 : decode cX1_renew 18 = .ok (.aload_n 0, 1) := by decide +kernel
theorem dX1_renew_19 : decode cX1_renew 19 = .ok (.aload_n 0, 1) := by decide +kernel
theorem dX1_renew_20 : decode cX1_renew 20 = .ok (.invokevirtual 57, 3) := by decide +kernel
theorem dX1_renew_23 : decode cX1_renew 23 = .ok (.putfield 38, 3) := by decide +kernel
theorem dX1_renew_26 : decode cX1_renew 26 = .ok (.aload_n 0, 1) := by decide +kernel
theorem dX1_renew_27 : decode cX1_renew 27 = .ok (.getfield 23, 3) := by decide +kernel
theorem dX1_renew_30 : decode cX1_renew 30 = .ok (.getfield 50, 3) := by decide +kernel
theorem dX1_renew_33 : decode cX1_renew 33 = .ok (.sipush 32002, 3) := by decide +kernel
theorem dX1_renew_36 : decode cX1_renew 36 = .ok (.invokevirtual 61, 3) := by decide +kernel
theorem dX1_renew_39 : decode cX1_renew 39 = .ok (.return_, 1) := by decide +kernel
theorem dX1_start_0 : decode cX1_start 0 = .ok (.iconst 0, 1) := by decide +kernel
theorem dX1_start_1 : decode cX1_start 1 = .ok (.istore_n 2, 1) := by decide +kernel
theorem dX1_start_2 : decode cX1_start 2 = .ok (.iload_n 2, 1) := by decide +kernel
theorem dX1_start_3 : decode cX1_start 3 = .ok (.aload_n 0, 1) := by decide +kernel
theorem dX1_start_4 : decode cX1_start 4 = .ok (.getfield 19, 3) := by decide +kernel
theorem dX1_start_7 : decode cX1_start 7 = .ok (.arraylength, 1) := by decide +kernel
theorem dX1_start_8 : decode cX1_start 8 = .ok (.if_icmp .ge 16, 3) := by decide +kernel
theorem dX1_start_11 : decode cX1_start 11 = .ok (.aload_n 0, 1) := by decide +kernel
theorem dX1_start_12 : decode cX1_start 12 = .ok (.getfield 19, 3) := by decide +kernel
theorem dX1_start_15 : decode cX1_start 15 = .ok (.iload_n 2, 1) := by decide +kernel
theorem dX1_start_16 : decode cX1_start 16 = .ok (.aconst_null, 1) := by decide +kernel
theorem dX1_start_17 : decode cX1_start 17 = .ok (.aastore, 1) := by decide +kernel
theorem dX1_start_18 : decode cX1_start 18 = .ok (.iinc 2 1, 3) := by decide +kernel
theorem dX1_start_21 : decode cX1_start 21 = .ok (.goto (-19), 3) := by decide +kernel
theorem dX1_start_24 : decode cX1_start 24 = .ok (.aload_n 0, 1) := by decide +kernel
theorem dX1_start_25 : decode cX1_start 25 = .ok (.getfield 23, 3) := by decide +kernel
theorem dX1_start_28 : decode cX1_start 28 = .ok (.getfield 65, 3) := by decide +kernel
theorem dX1_start_31 : decode cX1_start 31 = .ok (.aload_n 1, 1) := by decide +kernel
theorem dX1_start_32 : decode cX1_start 32 = .ok (.iconst 2, 1) := by decide +kernel
theorem dX1_start_33 : decode cX1_start 33 = .ok (.invokevirtual 70, 3) := by decide +kernel
theorem dX1_start_36 : decode cX1_start 36 = .ok (.invokevirtual 74, 3) := by decide +kernel
theorem dX1_start_39 : decode cX1_start 39 = .ok (.aload_n 0, 1) := by decide +kernel
theorem dX1_start_40 : decode cX1_start 40 = .ok (.getfield 23, 3) := by decide +kernel
theorem dX1_start_43 : decode cX1_start 43 = .ok (.getfield 50, 3) := by decide +kernel
theorem dX1_start_46 : decode cX1_start 46 = .ok (.iconst 0, 1) := by decide +kernel
theorem dX1_start_47 : decode cX1_start 47 = .ok (.invokevirtual 78, 3) := by decide +kernel
theorem dX1_start_50 : decode cX1_start 50 = .ok (.aload_n 0, 1) := by decide +kernel
theorem dX1_start_51 : decode cX1_start 51 = .ok (.getfield 28, 3) := by decide +kernel
theorem dX1_start_54 : decode cX1_start 54 = .ok (.aload_n 1, 1) := by decide +kernel
theorem dX1_start_55 : decode cX1_start 55 = .ok (.iconst 1, 1) := by decide +kernel
theorem dX1_start_56 : decode cX1_start 56 = .ok (.invokevirtual 70, 3) := by decide +kernel
theorem dX1_start_59 : decode cX1_start 59 = .ok (.invokevirtual 74, 3) := by decide +kernel
theorem dX1_start_62 : decode cX1_start 62 = .ok (.aload_n 0, 1) := by decide +kernel
theorem dX1_start_63 : decode cX1_start 63 = .ok (.getfield 28, 3) := by decide +kernel
theorem dX1_start_66 : decode cX1_start 66 = .ok (.sipush 32002, 3) := by decide +kernel
theorem dX1_start_69 : decode cX1_start 69 = .ok (.invokevirtual 81, 3) := by decide +kernel
theorem dX1_start_72 : decode cX1_start 72 = .ok (.aload_n 0, 1) := by decide +kernel
theorem dX1_start_73 : decode cX1_start 73 = .ok (.getfield 32, 3) := by decide +kernel
theorem dX1_start_76 : decode cX1_start 76 = .ok (.aload_n 1, 1) := by decide +kernel
theorem dX1_start_77 : decode cX1_start 77 = .ok (.iconst 0, 1) := by decide +kernel
theorem dX1_start_78 : decode cX1_start 78 = .ok (.invokevirtual 70, 3) := by decide +kernel
theorem dX1_start_81 : decode cX1_start 81 = .ok (.invokevirtual 74, 3) := by decide +kernel
theorem dX1_start_84 : decode cX1_start 84 = .ok (.return_, 1) := by decide +kernel
theorem dX1_solve_0 : decode cX1_solve 0 = .ok (.iconst 0, 1) := by decide +kernel
theorem dX1_solve_1 : decode cX1_solve 1 = .ok (.istore_n 1, 1) := by decide +kernel
theorem dX1_solve_2 : decode cX1_solve 2 = .ok (.iload_n 1, 1) := by decide +kernel
theorem dX1_solve_3 : decode cX1_solve 3 = .ok (.aload_n 0, 1) := by decide +kernel
theorem dX1_solve_4 : decode cX1_solve 4 = .ok (.getfield 11, 3) := by decide +kernel
theorem dX1_solve_7 : decode cX1_solve 7 = .ok (.arraylength, 1) := by decide +kernel
theorem dX1_solve_8 : decode cX1_solve 8 = .ok (.if_icmp .ge 55, 3) := by decide +kernel
theorem dX1_solve_11 : decode cX1_solve 11 = .ok (.aload_n 0, 1) := by decide +kernel
theorem dX1_solve_12 : decode cX1_solve 12 = .ok (.getfield 11, 3) := by decide +kernel
theorem dX1_solve_15 : decode cX1_solve 15 = .ok (.iload_n 1, 1) := by decide +kernel
theorem dX1_solve_16 : decode cX1_solve 16 = .ok (.aaload, 1) := by decide +kernel
theorem dX1_solve_17 : decode cX1_solve 17 = .ok (.astore_n 2, 1) := by decide +kernel
theorem dX1_solve_18 : decode cX1_solve 18 = .ok (.aload_n 0, 1) := by decide +kernel
theorem dX1_solve_19 : decode cX1_solve 19 = .ok (.aload_n 2, 1) := by decide +kernel
theorem dX1_solve_20 : decode cX1_solve 20 = .ok (.iload_n 1, 1) := by decide +kernel
theorem dX1_solve_21 : decode cX1_solve 21 = .ok (.invokevirtual 84, 3) := by decide +kernel
theorem dX1_solve_24 : decode cX1_solve 24 = .ok (.aload_n 0, 1) := by decide +kernel
theorem dX1_solve_25 : decode cX1_solve 25 = .ok (.aload_n 2, 1) := by decide +kernel
theorem dX1_solve_26 : decode cX1_solve 26 = .ok (.invokevirtual 88, 3) := by decide +kernel
theorem dX1_solve_29 : decode cX1_solve 29 = .ok (.aload_n 0, 1) := by decide +kernel
theorem dX1_solve_30 : decode cX1_solve 30 = .ok (.aload_n 2, 1) := by decide +kernel
theorem dX1_solve_31 : decode cX1_solve 31 = .ok (.invokevirtual 92, 3) := by decide +kernel
theorem dX1_solve_34 : decode cX1_solve 34 = .ok (.aload_n 0, 1) := by decide +kernel
theorem dX1_solve_35 : decode cX1_solve 35 = .ok (.aload_n 0, 1) := by decide +kernel
theorem dX1_solve_36 : decode cX1_solve 36 = .ok (.getfield 23, 3) := by decide +kernel
theorem dX1_solve_39 : decode cX1_solve 39 = .ok (.invokevirtual 88, 3) := by decide +kernel
theorem dX1_solve_42 : decode cX1_solve 42 = .ok (.aload_n 0, 1) := by decide +kernel
theorem dX1_solve_43 : decode cX1_solve 43 = .ok (.getfield 23, 3) := by decide +kernel
theorem dX1_solve_46 : decode cX1_solve 46 = .ok (.getfield 65, 3) := by decide +kernel
theorem dX1_solve_49 : decode cX1_solve 49 = .ok (.invokevirtual 95, 3) := by decide +kernel
theorem dX1_solve_52 : decode cX1_solve 52 = .ok (.ifCond .eq 5, 3) := by decide +kernel
theorem dX1_solve_55 : decode cX1_solve 55 = .ok (.iload_n 1, 1) := by decide +kernel
theorem dX1_solve_56 : decode cX1_solve 56 = .ok (.ireturn, 1) := by decide +kernel
theorem dX1_solve_57 : decode cX1_solve 57 = .ok (.iinc 1 1, 3) := by decide +kernel
theorem dX1_solve_60 : decode cX1_solve 60 = .ok (.goto (-58), 3) := by decide +kernel
theorem dX1_solve_63 : decode cX1_solve 63 = .ok (.iconst (-1), 1) := by decide +kernel
theorem dX1_solve_64 : decode cX1_solve 64 = .ok (.ireturn, 1) := by decide +kernel
theorem dX1_fill_0 : decode cX1_fill 0 = .ok (.aload_n 1, 1) := by decide +kernel
theorem dX1_fill_1 : decode cX1_fill 1 = .ok (.getfield 50, 3) := by decide +kernel
theorem dX1_fill_4 : decode cX1_fill 4 = .ok (.iconst 0, 1) := by decide +kernel
theorem dX1_fill_5 : decode cX1_fill 5 = .ok (.invokevirtual 78, 3) := by decide +kernel
theorem dX1_fill_8 : decode cX1_fill 8 = .ok (.aload_n 1, 1) := by decide +kernel
theorem dX1_fill_9 : decode cX1_fill 9 = .ok (.getfield 50, 3) := by decide +kernel
theorem dX1_fill_12 : decode cX1_fill 12 = .ok (.iload_n 2, 1) := by decide +kernel
theorem dX1_fill_13 : decode cX1_fill 13 = .ok (.iconst 1, 1) := by decide +kernel
theorem dX1_fill_14 : decode cX1_fill 14 = .ok (.invokevirtual 46, 3) := by decide +kernel
theorem dX1_fill_17 : decode cX1_fill 17 = .ok (.aload_n 1, 1) := by decide +kernel
theorem dX1_fill_18 : decode cX1_fill 18 = .ok (.getfield 65, 3) := by decide +kernel
theorem dX1_fill_21 : decode cX1_fill 21 = .ok (.aload_n 0, 1) := by decide +kernel
theorem dX1_fill_22 : decode cX1_fill 22 = .ok (.getfield 32, 3) := by decide +kernel
theorem dX1_fill_25 : decode cX1_fill 25 = .ok (.invokevirtual 74, 3) := by decide +kernel
theorem dX1_fill_28 : decode cX1_fill 28 = .ok (.aload_n 1, 1) := by decide +kernel
theorem dX1_fill_29 : decode cX1_fill 29 = .ok (.getfield 65, 3) := by decide +kernel
theorem dX1_fill_32 : decode cX1_fill 32 = .ok (.sipush 32002, 3) := by decide +kernel
theorem dX1_fill_35 : decode cX1_fill 35 = .ok (.aload_n 0, 1) := by decide +kernel
theorem dX1_fill_36 : decode cX1_fill 36 = .ok (.getfield 28, 3) := by decide +kernel
theorem dX1_fill_39 : decode cX1_fill 39 = .ok (.iload_n 2, 1) := by decide +kernel
theorem dX1_fill_40 : decode cX1_fill 40 = .ok (.invokevirtual 99, 3) := by decide +kernel
theorem dX1_fill_43 : decode cX1_fill 43 = .ok (.aload_n 0, 1) := by decide +kernel
theorem dX1_fill_44 : decode cX1_fill 44 = .ok (.getfield 32, 3) := by decide +kernel
theorem dX1_fill_47 : decode cX1_fill 47 = .ok (.aload_n 0, 1) := by decide +kernel
theorem dX1_fill_48 : decode cX1_fill 48 = .ok (.getfield 35, 3) := by decide +kernel
theorem dX1_fill_51 : decode cX1_fill 51 = .ok (.invokevirtual 103, 3) := by decide +kernel
theorem dX1_fill_54 : decode cX1_fill 54 = .ok (.return_, 1) := by decide +kernel
theorem dX1_lower_0 : decode cX1_lower 0 = .ok (.aload_n 1, 1) := by decide +kernel
theorem dX1_lower_1 : decode cX1_lower 1 = .ok (.getfield 65, 3) := by decide +kernel
theorem dX1_lower_4 : decode cX1_lower 4 = .ok (.invokevirtual 106, 3) := by decide +kernel
theorem dX1_lower_7 : decode cX1_lower 7 = .ok (.aload_n 0, 1) := by decide +kernel
theorem dX1_lower_8 : decode cX1_lower 8 = .ok (.getfield 19, 3) := by decide +kernel
theorem dX1_lower_11 : decode cX1_lower 11 = .ok (.arraylength, 1) := by decide +kernel
theorem dX1_lower_12 : decode cX1_lower 12 = .ok (.iconst 1, 1) := by decide +kernel
theorem dX1_lower_13 : decode cX1_lower 13 = .ok (.isub, 1) := by decide +kernel
theorem dX1_lower_14 : decode cX1_lower 14 = .ok (.invokestatic 109, 3) := by decide +kernel
theorem dX1_lower_17 : decode cX1_lower 17 = .ok (.istore_n 2, 1) := by decide +kernel
theorem dX1_lower_18 : decode cX1_lower 18 = .ok (.iload_n 2, 1) := by decide +kernel
theorem dX1_lower_19 : decode cX1_lower 19 = .ok (.istore_n 3, 1) := by decide +kernel
theorem dX1_lower_20 : decode cX1_lower 20 = .ok (.iload_n 3, 1) := by decide +kernel
theorem dX1_lower_21 : decode cX1_lower 21 = .ok (.ifCond .lt 74, 3) := by decide +kernel
theorem dX1_lower_24 : decode cX1_lower 24 = .ok (.aload_n 1, 1) := by decide +kernel
theorem dX1_lower_25 : decode cX1_lower 25 = .ok (.getfield 65, 3) := by decide +kernel
theorem dX1_lower_28 : decode cX1_lower 28 = .ok (.iload_n 3, 1) := by decide +kernel
theorem dX1_lower_29 : decode cX1_lower 29 = .ok (.invokevirtual 115, 3) := by decide +kernel
theorem dX1_lower_32 : decode cX1_lower 32 = .ok (.istore 4, 2) := by decide +kernel
theorem dX1_lower_34 : decode cX1_lower 34 = .ok (.iload 4, 2) := by decide +kernel
theorem dX1_lower_36 : decode cX1_lower 36 = .ok (.ifCond .eq 53, 3) := by decide +kernel
theorem dX1_lower_39 : decode cX1_lower 39 = .ok (.aload_n 0, 1) := by decide +kernel
theorem dX1_lower_40 : decode cX1_lower 40 = .ok (.getfield 19, 3) := by decide +kernel
theorem dX1_lower_43 : decode cX1_lower 43 = .ok (.iload_n 3, 1) := by decide +kernel
theorem dX1_lower_44 : decode cX1_lower 44 = .ok (.aaload, 1) := by decide +kernel
theorem dX1_lower_45 : decode cX1_lower 45 = .ok (.astore 5, 2) := by decide +kernel
theorem dX1_lower_47 : decode cX1_lower 47 = .ok (.aload 5, 2) := by decide +kernel
theorem dX1_lower_49 : decode cX1_lower 49 = .ok (.ifnonnull 4, 3) := by decide +kernel
theorem dX1_lower_52 : decode cX1_lower 52 = .ok (.return_, 1) := by decide +kernel
theorem dX1_lower_53 : decode cX1_lower 53 = .ok (.aload_n 1, 1) := by decide +kernel
theorem dX1_lower_54 : decode cX1_lower 54 = .ok (.getfield 65, 3) := by decide +kernel
theorem dX1_lower_57 : decode cX1_lower 57 = .ok (.iload 4, 2) := by decide +kernel
theorem dX1_lower_59 : decode cX1_lower 59 = .ok (.invokestatic 119, 3) := by decide +kernel
theorem dX1_lower_62 : decode cX1_lower 62 = .ok (.aload 5, 2) := by decide +kernel
theorem dX1_lower_64 : decode cX1_lower 64 = .ok (.getfield 65, 3) := by decide +kernel
theorem dX1_lower_67 : decode cX1_lower 67 = .ok (.iconst 0, 1) := by decide +kernel
theorem dX1_lower_68 : decode cX1_lower 68 = .ok (.invokevirtual 99, 3) := by decide +kernel
theorem dX1_lower_71 : decode cX1_lower 71 = .ok (.aload_n 1, 1) := by decide +kernel
theorem dX1_lower_72 : decode cX1_lower 72 = .ok (.getfield 50, 3) := by decide +kernel
theorem dX1_lower_75 : decode cX1_lower 75 = .ok (.iload 4, 2) := by decide +kernel
theorem dX1_lower_77 : decode cX1_lower 77 = .ok (.invokestatic 119, 3) := by decide +kernel
theorem dX1_lower_80 : decode cX1_lower 80 = .ok (.aload 5, 2) := by decide +kernel
theorem dX1_lower_82 : decode cX1_lower 82 = .ok (.getfield 50, 3) := by decide +kernel
theorem dX1_lower_85 : decode cX1_lower 85 = .ok (.iconst 0, 1) := by decide +kernel
theorem dX1_lower_86 : decode cX1_lower 86 = .ok (.invokevirtual 99, 3) := by decide +kernel
theorem dX1_lower_89 : decode cX1_lower 89 = .ok (.iinc 3 (-1), 3) := by decide +kernel
theorem dX1_lower_92 : decode cX1_lower 92 = .ok (.goto (-72), 3) := by decide +kernel
theorem dX1_lower_95 : decode cX1_lower 95 = .ok (.return_, 1) := by decide +kernel
theorem dX1_keep_0 : decode cX1_keep 0 = .ok (.aload_n 1, 1) := by decide +kernel
theorem dX1_keep_1 : decode cX1_keep 1 = .ok (.getfield 65, 3) := by decide +kernel
theorem dX1_keep_4 : decode cX1_keep 4 = .ok (.invokevirtual 106, 3) := by decide +kernel
theorem dX1_keep_7 : decode cX1_keep 7 = .ok (.istore_n 2, 1) := by decide +kernel
theorem dX1_keep_8 : decode cX1_keep 8 = .ok (.iload_n 2, 1) := by decide +kernel
theorem dX1_keep_9 : decode cX1_keep 9 = .ok (.ifCond .lt 12, 3) := by decide +kernel
theorem dX1_keep_12 : decode cX1_keep 12 = .ok (.iload_n 2, 1) := by decide +kernel
theorem dX1_keep_13 : decode cX1_keep 13 = .ok (.aload_n 0, 1) := by decide +kernel
theorem dX1_keep_14 : decode cX1_keep 14 = .ok (.getfield 19, 3) := by decide +kernel
theorem dX1_keep_17 : decode cX1_keep 17 = .ok (.arraylength, 1) := by decide +kernel
theorem dX1_keep_18 : decode cX1_keep 18 = .ok (.if_icmp .lt 4, 3) := by decide +kernel
theorem dX1_keep_21 : decode cX1_keep 21 = .ok (.return_, 1) := by decide +kernel
theorem dX1_keep_22 : decode cX1_keep 22 = .ok (.aload_n 1, 1) := by decide +kernel
theorem dX1_keep_23 : decode cX1_keep 23 = .ok (.getfield 65, 3) := by decide +kernel
theorem dX1_keep_26 : decode cX1_keep 26 = .ok (.invokevirtual 122, 3) := by decide +kernel
theorem dX1_keep_29 : decode cX1_keep 29 = .ok (.invokestatic 125, 3) := by decide +kernel
theorem dX1_keep_32 : decode cX1_keep 32 = .ok (.istore_n 3, 1) := by decide +kernel
theorem dX1_keep_33 : decode cX1_keep 33 = .ok (.aload_n 1, 1) := by decide +kernel
theorem dX1_keep_34 : decode cX1_keep 34 = .ok (.getfield 65, 3) := by decide +kernel
theorem dX1_keep_37 : decode cX1_keep 37 = .ok (.iload_n 3, 1) := by decide +kernel
theorem dX1_keep_38 : decode cX1_keep 38 = .ok (.invokevirtual 61, 3) := by decide +kernel
theorem dX1_keep_41 : decode cX1_keep 41 = .ok (.aload_n 1, 1) := by decide +kernel
theorem dX1_keep_42 : decode cX1_keep 42 = .ok (.getfield 50, 3) := by decide +kernel
theorem dX1_keep_45 : decode cX1_keep 45 = .ok (.iload_n 3, 1) := by decide +kernel
theorem dX1_keep_46 : decode cX1_keep 46 = .ok (.invokevirtual 61, 3) := by decide +kernel
theorem dX1_keep_49 : decode cX1_keep 49 = .ok (.aload_n 0, 1) := by decide +kernel
theorem dX1_keep_50 : decode cX1_keep 50 = .ok (.getfield 19, 3) := by decide +kernel
theorem dX1_keep_53 : decode cX1_keep 53 = .ok (.iload_n 2, 1) := by decide +kernel
theorem dX1_keep_54 : decode cX1_keep 54 = .ok (.aload_n 1, 1) := by decide +kernel
theorem dX1_keep_55 : decode cX1_keep 55 = .ok (.aastore, 1) := by decide +kernel
theorem dX1_keep_56 : decode cX1_keep 56 = .ok (.return_, 1) := by decide +kernel
theorem dX1_bottomBefore_0 : decode cX1_bottomBefore 0 = .ok (.aload_n 0, 1) := by decide +kernel
theorem dX1_bottomBefore_1 : decode cX1_bottomBefore 1 = .ok (.getfield 28, 3) := by decide +kernel
theorem dX1_bottomBefore_4 : decode cX1_bottomBefore 4 = .ok (.areturn, 1) := by decide +kernel
set_option maxRecDepth 20000 in
theorem ggX1_init_X3_init : GoodIn wsX1_init wsX3_init := goodIn_r _ [19, 20, 2, 3, 21, 11, 12, 22, 23, 24, 25, 26, 27, 28, 29, 52, 53, 50, 51] (by decide +kernel) (by decide +kernel)
set_option maxRecDepth 20000 in
theorem gX1_init_X3_init_n22 : GoodIn wsX1_init (wsX3_init) := ggX1_init_X3_init
set_option maxRecDepth 20000 in
theorem ggX1_init_X4_init : GoodIn wsX1_init wsX4_init := goodIn_r _ [25, 26, 2, 3, 27, 28, 29, 52, 53] (by decide +kernel) (by decide +kernel)
set_option maxRecDepth 20000 in
theorem gX1_init_X4_init_n27 : GoodIn wsX1_init (wsX4_init) := ggX1_init_X4_init
set_option maxRecDepth 20000 in
theorem ggX1_init_X4_setNumber : GoodIn wsX1_init wsX4_setNumber := goodIn_r _ [33, 28, 29, 34, 35, 36, 37, 38, 39, 40, 12, 41, 52, 53] (by decide +kernel) (by decide +kernel)
set_option maxRecDepth 20000 in
theorem gX1_init_X4_setNumber : GoodIn wsX1_init (wsV RX1 46 RX4 yX4_setNumber wsX4_setNumber) := goodIn_app (goodIn_of _ (by decide +kernel)) ggX1_init_X4_setNumber
set_option maxRecDepth 20000 in
theorem ggX1_renew_X1_start : GoodIn wsX1_renew wsX1_start := goodIn_r _ [9, 10, 3, 11, 4, 12, 13, 14, 15, 16, 17, 18, 19, 20, 21, 22, 23, 24, 25, 26, 27, 28, 29, 30, 31, 32, 33, 34, 35, 36, 37, 38, 39, 40, 41, 42, 43, 44, 106, 107, 108, 109, 110, 111, 112, 113, 114, 115, 116, 117, 118, 119, 120, 121, 122, 123] (by decide +kernel) (by decide +kernel)
set_option maxRecDepth 20000 in
theorem gX1_renew_X1_start : GoodIn wsX1_renew (wsV RX1 53 RX1 yX1_start wsX1_start) := goodIn_app (goodIn_of _ (by decide +kernel)) ggX1_renew_X1_start
set_option maxRecDepth 20000 in
theorem ggX1_renew_X1_solve : GoodIn wsX1_renew wsX1_solve := goodIn_r _ [48, 49, 3, 11, 50, 51, 52, 8, 53, 4, 13, 12, 54, 33, 34, 35, 25, 36, 27, 28, 55, 56, 57, 58, 59, 60, 43, 61, 62, 63, 64, 65, 22, 23, 24, 26, 29, 30, 31, 32, 66, 67, 68, 69, 70, 71, 72, 73, 41, 42, 44, 74, 75, 76, 77, 78, 79, 80, 81, 10, 82, 83, 84, 85, 86, 87, 88, 89, 90, 91, 92, 93, 94, 95, 96, 97, 98, 99, 100, 101, 102, 103, 104, 105, 106, 107, 108, 109, 110, 111, 112, 113, 114, 115, 122, 123] (by decide +kernel) (by decide +kernel)
set_option maxRecDepth 20000 in
theorem gX1_renew_X1_solve : GoodIn wsX1_renew (wsV RX1 57 RX1 yX1_solve wsX1_solve) := goodIn_app (goodIn_of _ (by decide +kernel)) ggX1_renew_X1_solve
set_option maxRecDepth 20000 in
theorem ggX1_renew_X4_scaleBy : GoodIn wsX1_renew wsX4_scaleBy := goodIn_r _ [104, 27, 28, 62, 63, 64, 25, 65, 122, 123] (by decide +kernel) (by decide +kernel)
set_option maxRecDepth 20000 in
theorem gX1_renew_X4_scaleBy : GoodIn wsX1_renew (wsV RX1 61 RX4 yX4_scaleBy wsX4_scaleBy) := goodIn_app (goodIn_of _ (by decide +kernel)) ggX1_renew_X4_scaleBy
set_option maxRecDepth 20000 in
theorem ggX1_start_X6_part : GoodIn wsX1_start wsX6_part := goodIn_r _ [11, 12, 13, 14, 48, 49, 50, 51, 52, 53] (by decide +kernel) (by decide +kernel)
set_option maxRecDepth 20000 in
theorem gX1_start_X6_part : GoodIn wsX1_start (wsV RX1 70 RX6 yX6_part wsX6_part) := goodIn_app (goodIn_of _ (by decide +kernel)) ggX1_start_X6_part
set_option maxRecDepth 20000 in
theorem ggX1_start_X4_copyFrom : GoodIn wsX1_start wsX4_copyFrom := goodIn_r _ [19, 20, 21, 22, 23, 24, 18, 25, 54, 55] (by decide +kernel) (by decide +kernel)
set_option maxRecDepth 20000 in
theorem gX1_start_X4_copyFrom : GoodIn wsX1_start (wsV RX1 74 RX4 yX4_copyFrom wsX4_copyFrom) := goodIn_app (goodIn_of _ (by decide +kernel)) ggX1_start_X4_copyFrom
set_option maxRecDepth 20000 in
theorem ggX1_start_X4_becomeNumber : GoodIn wsX1_start wsX4_becomeNumber := goodIn_r _ [29, 20, 21, 54, 55] (by decide +kernel) (by decide +kernel)
set_option maxRecDepth 20000 in
theorem gX1_start_X4_becomeNumber : GoodIn wsX1_start (wsV RX1 78 RX4 yX4_becomeNumber wsX4_becomeNumber) := goodIn_app (goodIn_of _ (by decide +kernel)) ggX1_start_X4_becomeNumber
set_option maxRecDepth 20000 in
theorem ggX1_start_X4_moveBy : GoodIn wsX1_start wsX4_moveBy := goodIn_r _ [33, 21, 20, 34, 35, 36, 37, 22, 23, 24, 18, 25, 54, 55] (by decide +kernel) (by decide +kernel)
set_option maxRecDepth 20000 in
theorem gX1_start_X4_moveBy : GoodIn wsX1_start (wsV RX1 81 RX4 yX4_moveBy wsX4_moveBy) := goodIn_app (goodIn_of _ (by decide +kernel)) ggX1_start_X4_moveBy
set_option maxRecDepth 20000 in
theorem ggX1_solve_X1_fill : GoodIn wsX1_solve wsX1_fill := goodIn_r _ [8, 9, 3, 10, 11, 12, 13, 14, 15, 16, 17, 18, 19, 20, 21, 22, 23, 24, 25, 26, 27, 28, 29, 30, 31, 32, 33, 34, 35, 36, 37, 38, 39, 40, 41, 42, 43, 44, 45, 46, 47, 48, 49, 50, 51, 52, 53, 54, 92, 93, 84, 85, 86, 87, 88, 89, 90, 91, 94, 95] (by decide +kernel) (by decide +kernel)
set_option maxRecDepth 20000 in
theorem gX1_solve_X1_fill : GoodIn wsX1_solve (wsV RX1 84 RX1 yX1_fill wsX1_fill) := goodIn_app (goodIn_of _ (by decide +kernel)) ggX1_solve_X1_fill
set_option maxRecDepth 20000 in
theorem ggX1_solve_X1_lower : GoodIn wsX1_solve wsX1_lower := goodIn_r _ [58, 3, 59, 60, 49, 26, 50, 9, 61, 62, 63, 16, 64, 19, 65, 37, 38, 39, 18, 66, 67, 68, 40, 41, 42, 43, 24, 25, 27, 36, 28, 29, 30, 31, 92, 93, 84, 85, 86, 87, 88, 89, 90, 91, 94, 95] (by decide +kernel) (by decide +kernel)
set_option maxRecDepth 20000 in
theorem gX1_solve_X1_lower : GoodIn wsX1_solve (wsV RX1 88 RX1 yX1_lower wsX1_lower) := goodIn_app (goodIn_of _ (by decide +kernel)) ggX1_solve_X1_lower
set_option maxRecDepth 20000 in
theorem ggX1_solve_X1_keep : GoodIn wsX1_solve wsX1_keep := goodIn_r _ [72, 3, 59, 9, 61, 62, 63, 16, 64, 19, 73, 74, 75, 76, 36, 37, 38, 39, 18, 77, 67, 78, 79, 80, 81, 82, 28, 29, 30, 31, 92, 93, 84, 85, 86, 87, 88, 89, 90, 91, 94, 95] (by decide +kernel) (by decide +kernel)
set_option maxRecDepth 20000 in
theorem gX1_solve_X1_keep : GoodIn wsX1_solve (wsV RX1 92 RX1 yX1_keep wsX1_keep) := goodIn_app (goodIn_of _ (by decide +kernel)) ggX1_solve_X1_keep
set_option maxRecDepth 20000 in
theorem ggX1_solve_X4_isZero : GoodIn wsX1_solve wsX4_isZero := goodIn_r _ [54, 19, 94, 95] (by decide +kernel) (by decide +kernel)
set_option maxRecDepth 20000 in
theorem gX1_solve_X4_isZero : GoodIn wsX1_solve (wsV RX1 95 RX4 yX4_isZero wsX4_isZero) := goodIn_app (goodIn_of _ (by decide +kernel)) ggX1_solve_X4_isZero
set_option maxRecDepth 20000 in
theorem ggX1_fill_X4_becomeNumber : GoodIn wsX1_fill wsX4_becomeNumber := goodIn_r _ [10, 11, 12, 58, 59] (by decide +kernel) (by decide +kernel)
set_option maxRecDepth 20000 in
theorem gX1_fill_X4_becomeNumber : GoodIn wsX1_fill (wsV RX1 78 RX4 yX4_becomeNumber wsX4_becomeNumber) := goodIn_app (goodIn_of _ (by decide +kernel)) ggX1_fill_X4_becomeNumber
set_option maxRecDepth 20000 in
theorem ggX1_fill_X4_setNumber : GoodIn wsX1_fill wsX4_setNumber := goodIn_r _ [16, 11, 12, 17, 18, 19, 20, 21, 22, 23, 9, 24, 58, 59] (by decide +kernel) (by decide +kernel)
set_option maxRecDepth 20000 in
theorem gX1_fill_X4_setNumber : GoodIn wsX1_fill (wsV RX1 46 RX4 yX4_setNumber wsX4_setNumber) := goodIn_app (goodIn_of _ (by decide +kernel)) ggX1_fill_X4_setNumber
set_option maxRecDepth 20000 in
theorem ggX1_fill_X4_copyFrom : GoodIn wsX1_fill wsX4_copyFrom := goodIn_r _ [28, 11, 12, 29, 30, 31, 9, 32, 58, 59] (by decide +kernel) (by decide +kernel)
set_option maxRecDepth 20000 in
theorem gX1_fill_X4_copyFrom : GoodIn wsX1_fill (wsV RX1 74 RX4 yX4_copyFrom wsX4_copyFrom) := goodIn_app (goodIn_of _ (by decide +kernel)) ggX1_fill_X4_copyFrom
set_option maxRecDepth 20000 in
theorem ggX1_fill_X4_addMultiple : GoodIn wsX1_fill wsX4_addMultiple := goodIn_r _ [36, 12, 17, 18, 19, 20, 11, 29, 30, 31, 9, 32, 21, 22, 23, 24, 58, 59] (by decide +kernel) (by decide +kernel)
set_option maxRecDepth 20000 in
theorem gX1_fill_X4_addMultiple : GoodIn wsX1_fill (wsV RX1 99 RX4 yX4_addMultiple wsX4_addMultiple) := goodIn_app (goodIn_of _ (by decide +kernel)) ggX1_fill_X4_addMultiple
set_option maxRecDepth 20000 in
theorem ggX1_fill_X4_multiplyBy : GoodIn wsX1_fill wsX4_multiplyBy := goodIn_r _ [40, 12, 11, 41, 42, 19, 43, 44, 45, 46, 9, 47, 29, 30, 31, 32, 21, 22, 23, 24, 58, 59] (by decide +kernel) (by decide +kernel)
set_option maxRecDepth 20000 in
theorem gX1_fill_X4_multiplyBy : GoodIn wsX1_fill (wsV RX1 103 RX4 yX4_multiplyBy wsX4_multiplyBy) := goodIn_app (goodIn_of _ (by decide +kernel)) ggX1_fill_X4_multiplyBy
set_option maxRecDepth 20000 in
theorem ggX1_lower_X4_highest : GoodIn wsX1_lower wsX4_highest := goodIn_r _ [12, 13, 44, 45] (by decide +kernel) (by decide +kernel)
set_option maxRecDepth 20000 in
theorem gX1_lower_X4_highest : GoodIn wsX1_lower (wsV RX1 106 RX4 yX4_highest wsX4_highest) := goodIn_app (goodIn_of _ (by decide +kernel)) ggX1_lower_X4_highest
set_option maxRecDepth 20000 in
theorem ggX1_lower_X4_number : GoodIn wsX1_lower wsX4_number := goodIn_r _ [17, 18, 44, 45] (by decide +kernel) (by decide +kernel)
set_option maxRecDepth 20000 in
theorem gX1_lower_X4_number : GoodIn wsX1_lower (wsV RX1 115 RX4 yX4_number wsX4_number) := goodIn_app (goodIn_of _ (by decide +kernel)) ggX1_lower_X4_number
set_option maxRecDepth 20000 in
theorem ggX1_lower_X7_negative : GoodIn wsX1_lower wsX7_negative := goodIn_r _ [21] (by decide +kernel) (by decide +kernel)
set_option maxRecDepth 20000 in
theorem gX1_lower_X7_negative_n119 : GoodIn wsX1_lower (wsX7_negative) := ggX1_lower_X7_negative
set_option maxRecDepth 20000 in
theorem ggX1_lower_X4_addMultiple : GoodIn wsX1_lower wsX4_addMultiple := goodIn_r _ [25, 13, 26, 27, 5, 28, 18, 29, 15, 16, 11, 17, 30, 31, 32, 33, 44, 45] (by decide +kernel) (by decide +kernel)
set_option maxRecDepth 20000 in
theorem gX1_lower_X4_addMultiple : GoodIn wsX1_lower (wsV RX1 99 RX4 yX4_addMultiple wsX4_addMultiple) := goodIn_app (goodIn_of _ (by decide +kernel)) ggX1_lower_X4_addMultiple
set_option maxRecDepth 20000 in
theorem ggX1_keep_X4_highest : GoodIn wsX1_keep wsX4_highest := goodIn_r _ [8, 9, 40, 41] (by decide +kernel) (by decide +kernel)
set_option maxRecDepth 20000 in
theorem gX1_keep_X4_highest : GoodIn wsX1_keep (wsV RX1 106 RX4 yX4_highest wsX4_highest) := goodIn_app (goodIn_of _ (by decide +kernel)) ggX1_keep_X4_highest
set_option maxRecDepth 20000 in
theorem ggX1_keep_X4_leading : GoodIn wsX1_keep wsX4_leading := goodIn_r _ [13, 9, 14, 15, 16, 7, 17, 18, 40, 41] (by decide +kernel) (by decide +kernel)
set_option maxRecDepth 20000 in
theorem gX1_keep_X4_leading : GoodIn wsX1_keep (wsV RX1 122 RX4 yX4_leading wsX4_leading) := goodIn_app (goodIn_of _ (by decide +kernel)) ggX1_keep_X4_leading
set_option maxRecDepth 20000 in
theorem ggX1_keep_X7_inverse : GoodIn wsX1_keep wsX7_inverse := goodIn_r _ [21] (by decide +kernel) (by decide +kernel)
set_option maxRecDepth 20000 in
theorem gX1_keep_X7_inverse_n125 : GoodIn wsX1_keep (wsX7_inverse) := ggX1_keep_X7_inverse
set_option maxRecDepth 20000 in
theorem ggX1_keep_X4_scaleBy : GoodIn wsX1_keep wsX4_scaleBy := goodIn_r _ [25, 18, 9, 26, 27, 28, 7, 29, 40, 41] (by decide +kernel) (by decide +kernel)
set_option maxRecDepth 20000 in
theorem gX1_keep_X4_scaleBy : GoodIn wsX1_keep (wsV RX1 61 RX4 yX4_scaleBy wsX4_scaleBy) := goodIn_app (goodIn_of _ (by decide +kernel)) ggX1_keep_X4_scaleBy
