theorem dX7_init_0 : decode cX7_init 0 = .ok (.aload_n 0, 1) := by decide +kernel
theorem dX7_init_1 : decode cX7_init 1 = .ok (.invokespecial 1, 3) := by decide +kernel
theorem dX7_init_4 : decode cX7_init 4 = .ok (.aload_n 0, 1) := by decide +kernel
theorem dX7_init_5 : decode cX7_init 5 = .ok (.new 7, 3) := by decide +kernel
theorem dX7_init_8 : decode cX7_init 8 = .ok (.dup, 1) := by decide +kernel
theorem dX7_init_9 : decode cX7_init 9 = .ok (.invokespecial 9, 3) := by decide +kernel
theorem dX7_init_12 : decode cX7_init 12 = .ok (.putfield 10, 3) := by decide +kernel
theorem dX7_init_15 : decode cX7_init 15 = .ok (.aload_n 0, 1) := by decide +kernel
theorem dX7_init_16 : decode cX7_init 16 = .ok (.new 7, 3) := by decide +kernel
theorem dX7_init_19 : decode cX7_init 19 = .ok (.dup, 1) := by decide +kernel
theorem dX7_init_20 : decode cX7_init 20 = .ok (.invokespecial 9, 3) := by decide +kernel
theorem dX7_init_23 : decode cX7_init 23 = .ok (.putfield 16, 3) := by decide +kernel
theorem dX7_init_26 : decode cX7_init 26 = .ok (.aload_n 0, 1) := by decide +kernel
theorem dX7_init_27 : decode cX7_init 27 = .ok (.new 19, 3) := by decide +kernel
theorem dX7_init_30 : decode cX7_init 30 = .ok (.dup, 1) := by decide +kernel
theorem dX7_init_31 : decode cX7_init 31 = .ok (.invokespecial 21, 3) := by decide +kernel
theorem dX7_init_34 : decode cX7_init 34 = .ok (.putfield 22, 3) := by decide +kernel
theorem dX7_init_37 : decode cX7_init 37 = .ok (.aload_n 0, 1) := by decide +kernel
theorem dX7_init_38 : decode cX7_init 38 = .ok (.new 26, 3) := by decide +kernel
theorem dX7_init_41 : decode cX7_init 41 = .ok (.dup, 1) := by decide +kernel
theorem dX7_init_42 : decode cX7_init 42 = .ok (.invokespecial 28, 3) := by decide +kernel
theorem dX7_init_45 : decode cX7_init 45 = .ok (.putfield 29, 3) := by decide +kernel
theorem dX7_init_48 : decode cX7_init 48 = .ok (.aload_n 0, 1) := by decide +kernel
theorem dX7_init_49 : decode cX7_init 49 = .ok (.new 33, 3) := by decide +kernel
theorem dX7_init_52 : decode cX7_init 52 = .ok (.dup, 1) := by decide +kernel
theorem dX7_init_53 : decode cX7_init 53 = .ok (.invokespecial 35, 3) := by decide +kernel
theorem dX7_init_56 : decode cX7_init 56 = .ok (.putfield 36, 3) := by decide +kernel
theorem dX7_init_59 : decode cX7_init 59 = .ok (.aload_n 0, 1) := by decide +kernel
theorem dX7_init_60 : decode cX7_init 60 = .ok (.new 40, 3) := by decide +kernel
theorem dX7_init_63 : decode cX7_init 63 = .ok (.dup, 1) := by decide +kernel
theorem dX7_init_64 : decode cX7_init 64 = .ok (.invokespecial 42, 3) := by decide +kernel
theorem dX7_init_67 : decode cX7_init 67 = .ok (.putfield 43, 3) := by decide +kernel
theorem dX7_init_70 : decode cX7_init 70 = .ok (.aload_n 0, 1) := by decide +kernel
theorem dX7_init_71 : decode cX7_init 71 = .ok (.new 47, 3) := by decide +kernel
theorem dX7_init_74 : decode cX7_init 74 = .ok (.dup, 1) := by decide +kernel
theorem dX7_init_75 : decode cX7_init 75 = .ok (.invokespecial 49, 3) := by decide +kernel
theorem dX7_init_78 : decode cX7_init 78 = .ok (.putfield 50, 3) := by decide +kernel
theorem dX7_init_81 : decode cX7_init 81 = .ok (.aload_n 0, 1) := by decide +kernel
theorem dX7_init_82 : decode cX7_init 82 = .ok (.getfield 10, 3) := by decide +kernel
theorem dX7_init_85 : decode cX7_init 85 = .ok (.iconst 1, 1) := by decide +kernel
theorem dX7_init_86 : decode cX7_init 86 = .ok (.invokevirtual 54, 3) := by decide +kernel
theorem dX7_init_89 : decode cX7_init 89 = .ok (.aload_n 0, 1) := by decide +kernel
theorem dX7_init_90 : decode cX7_init 90 = .ok (.getfield 16, 3) := by decide +kernel
theorem dX7_init_93 : decode cX7_init 93 = .ok (.iconst 1, 1) := by decide +kernel
theorem dX7_init_94 : decode cX7_init 94 = .ok (.invokevirtual 54, 3) := by decide +kernel
theorem dX7_init_97 : decode cX7_init 97 = .ok (.return_, 1) := by decide +kernel
theorem dX7_put_0 : decode cX7_put 0 = .ok (.aload_n 0, 1) := by decide +kernel
theorem dX7_put_1 : decode cX7_put 1 = .ok (.iload_n 2, 1) := by decide +kernel
theorem dX7_put_2 : decode cX7_put 2 = .ok (.invokevirtual 58, 3) := by decide +kernel
theorem dX7_put_5 : decode cX7_put 5 = .ok (.aload_n 0, 1) := by decide +kernel
theorem dX7_put_6 : decode cX7_put 6 = .ok (.iload_n 1, 1) := by decide +kernel
theorem dX7_put_7 : decode cX7_put 7 = .ok (.invokevirtual 61, 3) := by decide +kernel
theorem dX7_put_10 : decode cX7_put 10 = .ok (.astore 5, 2) := by decide +kernel
theorem dX7_put_12 : decode cX7_put 12 = .ok (.lload_n 3, 1) := by decide +kernel
theorem dX7_put_13 : decode cX7_put 13 = .ok (.ldc2_w 65, 3) := by decide +kernel
theorem dX7_put_16 : decode cX7_put 16 = .ok (.invokestatic 67, 3) := by decide +kernel
theorem dX7_put_19 : decode cX7_put 19 = .ok (.l2i, 1) := by decide +kernel
theorem dX7_put_20 : decode cX7_put 20 = .ok (.istore 6, 2) := by decide +kernel
theorem dX7_put_22 : decode cX7_put 22 = .ok (.aload 5, 2) := by decide +kernel
theorem dX7_put_24 : decode cX7_put 24 = .ok (.iload_n 2, 1) := by decide +kernel
theorem dX7_put_25 : decode cX7_put 25 = .ok (.invokevirtual 73, 3) := by decide +kernel
theorem dX7_put_28 : decode cX7_put 28 = .ok (.iload 6, 2) := by decide +kernel
theorem dX7_put_30 : decode cX7_put 30 = .ok (.if_icmp .ne 5, 3) := by decide +kernel
theorem dX7_put_33 : decode cX7_put 33 = .ok (.iconst 0, 1) := by decide +kernel
theorem dX7_put_34 : decode cX7_put 34 = .ok (.ireturn, 1) := by decide +kernel
theorem dX7_put_35 : decode cX7_put 35 = .ok (.aload 5, 2) := by decide +kernel
theorem dX7_put_37 : decode cX7_put 37 = .ok (.iload_n 2, 1) := by decide +kernel
theorem dX7_put_38 : decode cX7_put 38 = .ok (.iload 6, 2) := by decide +kernel
theorem dX7_put_40 : decode cX7_put 40 = .ok (.invokevirtual 77, 3) := by decide +kernel
theorem dX7_put_43 : decode cX7_put 43 = .ok (.aload_n 0, 1) := by decide +kernel
theorem dX7_put_44 : decode cX7_put 44 = .ok (.invokevirtual 81, 3) := by decide +kernel
theorem dX7_put_47 : decode cX7_put 47 = .ok (.iconst 1, 1) := by decide +kernel
theorem dX7_put_48 : decode cX7_put 48 = .ok (.ireturn, 1) := by decide +kernel
theorem dX7_at_0 : decode cX7_at 0 = .ok (.aload_n 0, 1) := by decide +kernel
theorem dX7_at_1 : decode cX7_at 1 = .ok (.iload_n 2, 1) := by decide +kernel
theorem dX7_at_2 : decode cX7_at 2 = .ok (.invokevirtual 58, 3) := by decide +kernel
theorem dX7_at_5 : decode cX7_at 5 = .ok (.aload_n 0, 1) := by decide +kernel
theorem dX7_at_6 : decode cX7_at 6 = .ok (.iload_n 1, 1) := by decide +kernel
theorem dX7_at_7 : decode cX7_at 7 = .ok (.invokevirtual 61, 3) := by decide +kernel
theorem dX7_at_10 : decode cX7_at 10 = .ok (.iload_n 2, 1) := by decide +kernel
theorem dX7_at_11 : decode cX7_at 11 = .ok (.invokevirtual 73, 3) := by decide +kernel
theorem dX7_at_14 : decode cX7_at 14 = .ok (.ireturn, 1) := by decide +kernel
theorem dX7_found_0 : decode cX7_found 0 = .ok (.aload_n 0, 1) := by decide +kernel
theorem dX7_found_1 : decode cX7_found 1 = .ok (.invokevirtual 84, 3) := by decide +kernel
theorem dX7_found_4 : decode cX7_found 4 = .ok (.iload_n 1, 1) := by decide +kernel
theorem dX7_found_5 : decode cX7_found 5 = .ok (.ifCond .lt 9, 3) := by decide +kernel
theorem dX7_found_8 : decode cX7_found 8 = .ok (.iload_n 1, 1) := by decide +kernel
theorem dX7_found_9 : decode cX7_found 9 = .ok (.bipush 8, 2) := by decide +kernel
theorem dX7_found_11 : decode cX7_found 11 = .ok (.if_icmp .le 13, 3) := by decide +kernel
theorem dX7_found_14 : decode cX7_found 14 = .ok (.new 87, 3) := by decide +kernel
theorem dX7_found_17 : decode cX7_found 17 = .ok (.dup, 1) := by decide +kernel
theorem dX7_found_18 : decode cX7_found 18 = .ok (.ldc 89, 2) := by decide +kernel
theorem dX7_found_20 : decode cX7_found 20 = .ok (.invokespecial 91, 3) := by decide +kernel
theorem dX7_found_23 : decode cX7_found 23 = .ok (.athrow, 1) := by decide +kernel
theorem dX7_found_24 : decode cX7_found 24 = .ok (.aload_n 0, 1) := by decide +kernel
theorem dX7_found_25 : decode cX7_found 25 = .ok (.getfield 29, 3) := by decide +kernel
theorem dX7_found_28 : decode cX7_found 28 = .ok (.aload_n 0, 1) := by decide +kernel
theorem dX7_found_29 : decode cX7_found 29 = .ok (.getfield 10, 3) := by decide +kernel
theorem dX7_found_32 : decode cX7_found 32 = .ok (.aload_n 0, 1) := by decide +kernel
theorem dX7_found_33 : decode cX7_found 33 = .ok (.getfield 16, 3) := by decide +kernel
theorem dX7_found_36 : decode cX7_found 36 = .ok (.aload_n 0, 1) := by decide +kernel
theorem dX7_found_37 : decode cX7_found 37 = .ok (.getfield 22, 3) := by decide +kernel
theorem dX7_found_40 : decode cX7_found 40 = .ok (.invokevirtual 94, 3) := by decide +kernel
theorem dX7_found_43 : decode cX7_found 43 = .ok (.aload_n 0, 1) := by decide +kernel
theorem dX7_found_44 : decode cX7_found 44 = .ok (.getfield 29, 3) := by decide +kernel
theorem dX7_found_47 : decode cX7_found 47 = .ok (.iload_n 1, 1) := by decide +kernel
theorem dX7_found_48 : decode cX7_found 48 = .ok (.invokevirtual 98, 3) := by decide +kernel
theorem dX7_found_51 : decode cX7_found 51 = .ok (.ireturn, 1) := by decide +kernel
theorem dX7_degree_0 : decode cX7_degree 0 = .ok (.aload_n 0, 1) := by decide +kernel
theorem dX7_degree_1 : decode cX7_degree 1 = .ok (.invokevirtual 84, 3) := by decide +kernel
theorem dX7_degree_4 : decode cX7_degree 4 = .ok (.aload_n 0, 1) := by decide +kernel
theorem dX7_degree_5 : decode cX7_degree 5 = .ok (.iload_n 1, 1) := by decide +kernel
theorem dX7_degree_6 : decode cX7_degree 6 = .ok (.invokevirtual 101, 3) := by decide +kernel
theorem dX7_degree_9 : decode cX7_degree 9 = .ok (.aload_n 0, 1) := by decide +kernel
theorem dX7_degree_10 : decode cX7_degree 10 = .ok (.getfield 29, 3) := by decide +kernel
theorem dX7_degree_13 : decode cX7_degree 13 = .ok (.aload_n 0, 1) := by decide +kernel
theorem dX7_degree_14 : decode cX7_degree 14 = .ok (.getfield 10, 3) := by decide +kernel
theorem dX7_degree_17 : decode cX7_degree 17 = .ok (.aload_n 0, 1) := by decide +kernel
theorem dX7_degree_18 : decode cX7_degree 18 = .ok (.getfield 16, 3) := by decide +kernel
theorem dX7_degree_21 : decode cX7_degree 21 = .ok (.aload_n 0, 1) := by decide +kernel
theorem dX7_degree_22 : decode cX7_degree 22 = .ok (.getfield 22, 3) := by decide +kernel
theorem dX7_degree_25 : decode cX7_degree 25 = .ok (.invokevirtual 94, 3) := by decide +kernel
theorem dX7_degree_28 : decode cX7_degree 28 = .ok (.aload_n 0, 1) := by decide +kernel
theorem dX7_degree_29 : decode cX7_degree 29 = .ok (.getfield 29, 3) := by decide +kernel
theorem dX7_degree_32 : decode cX7_degree 32 = .ok (.iload_n 1, 1) := by decide +kernel
theorem dX7_degree_33 : decode cX7_degree 33 = .ok (.invokevirtual 104, 3) := by decide +kernel
theorem dX7_degree_36 : decode cX7_degree 36 = .ok (.invokevirtual 108, 3) := by decide +kernel
theorem dX7_degree_39 : decode cX7_degree 39 = .ok (.ireturn, 1) := by decide +kernel
theorem dX7_split_0 : decode cX7_split 0 = .ok (.aload_n 0, 1) := by decide +kernel
theorem dX7_split_1 : decode cX7_split 1 = .ok (.invokevirtual 84, 3) := by decide +kernel
theorem dX7_split_4 : decode cX7_split 4 = .ok (.aload_n 0, 1) := by decide +kernel
theorem dX7_split_5 : decode cX7_split 5 = .ok (.iload_n 1, 1) := by decide +kernel
theorem dX7_split_6 : decode cX7_split 6 = .ok (.invokevirtual 101, 3) := by decide +kernel
theorem dX7_split_9 : decode cX7_split 9 = .ok (.aload_n 0, 1) := by decide +kernel
theorem dX7_split_10 : decode cX7_split 10 = .ok (.getfield 29, 3) := by decide +kernel
theorem dX7_split_13 : decode cX7_split 13 = .ok (.aload_n 0, 1) := by decide +kernel
theorem dX7_split_14 : decode cX7_split 14 = .ok (.getfield 10, 3) := by decide +kernel
theorem dX7_split_17 : decode cX7_split 17 = .ok (.aload_n 0, 1) := by decide +kernel
theorem dX7_split_18 : decode cX7_split 18 = .ok (.getfield 16, 3) := by decide +kernel
theorem dX7_split_21 : decode cX7_split 21 = .ok (.aload_n 0, 1) := by decide +kernel
theorem dX7_split_22 : decode cX7_split 22 = .ok (.getfield 22, 3) := by decide +kernel
theorem dX7_split_25 : decode cX7_split 25 = .ok (.invokevirtual 94, 3) := by decide +kernel
theorem dX7_split_28 : decode cX7_split 28 = .ok (.aload_n 0, 1) := by decide +kernel
theorem dX7_split_29 : decode cX7_split 29 = .ok (.getfield 29, 3) := by decide +kernel
theorem dX7_split_32 : decode cX7_split 32 = .ok (.iload_n 1, 1) := by decide +kernel
theorem dX7_split_33 : decode cX7_split 33 = .ok (.invokevirtual 104, 3) := by decide +kernel
theorem dX7_split_36 : decode cX7_split 36 = .ok (.iload_n 2, 1) := by decide +kernel
theorem dX7_split_37 : decode cX7_split 37 = .ok (.invokevirtual 73, 3) := by decide +kernel
theorem dX7_split_40 : decode cX7_split 40 = .ok (.ireturn, 1) := by decide +kernel
theorem dX7_run_0 : decode cX7_run 0 = .ok (.aload_n 0, 1) := by decide +kernel
theorem dX7_run_1 : decode cX7_run 1 = .ok (.invokevirtual 84, 3) := by decide +kernel
theorem dX7_run_4 : decode cX7_run 4 = .ok (.aload_n 0, 1) := by decide +kernel
theorem dX7_run_5 : decode cX7_run 5 = .ok (.getfield 29, 3) := by decide +kernel
theorem dX7_run_8 : decode cX7_run 8 = .ok (.aload_n 0, 1) := by decide +kernel
theorem dX7_run_9 : decode cX7_run 9 = .ok (.getfield 10, 3) := by decide +kernel
theorem dX7_run_12 : decode cX7_run 12 = .ok (.aload_n 0, 1) := by decide +kernel
theorem dX7_run_13 : decode cX7_run 13 = .ok (.getfield 16, 3) := by decide +kernel
theorem dX7_run_16 : decode cX7_run 16 = .ok (.aload_n 0, 1) := by decide +kernel
theorem dX7_run_17 : decode cX7_run 17 = .ok (.getfield 22, 3) := by decide +kernel
theorem dX7_run_20 : decode cX7_run 20 = .ok (.invokevirtual 94, 3) := by decide +kernel
theorem dX7_run_23 : decode cX7_run 23 = .ok (.aload_n 0, 1) := by decide +kernel
theorem dX7_run_24 : decode cX7_run 24 = .ok (.getfield 36, 3) := by decide +kernel
theorem dX7_run_27 : decode cX7_run 27 = .ok (.aload_n 0, 1) := by decide +kernel
theorem dX7_run_28 : decode cX7_run 28 = .ok (.getfield 29, 3) := by decide +kernel
theorem dX7_run_31 : decode cX7_run 31 = .ok (.invokevirtual 112, 3) := by decide +kernel
theorem dX7_run_34 : decode cX7_run 34 = .ok (.aload_n 0, 1) := by decide +kernel
theorem dX7_run_35 : decode cX7_run 35 = .ok (.getfield 36, 3) := by decide +kernel
theorem dX7_run_38 : decode cX7_run 38 = .ok (.invokevirtual 115, 3) := by decide +kernel
theorem dX7_run_41 : decode cX7_run 41 = .ok (.ireturn, 1) := by decide +kernel
theorem dX7_answer_0 : decode cX7_answer 0 = .ok (.aload_n 0, 1) := by decide +kernel
theorem dX7_answer_1 : decode cX7_answer 1 = .ok (.invokevirtual 118, 3) := by decide +kernel
theorem dX7_answer_4 : decode cX7_answer 4 = .ok (.aload_n 0, 1) := by decide +kernel
theorem dX7_answer_5 : decode cX7_answer 5 = .ok (.getfield 36, 3) := by decide +kernel
theorem dX7_answer_8 : decode cX7_answer 8 = .ok (.invokevirtual 121, 3) := by decide +kernel
theorem dX7_answer_11 : decode cX7_answer 11 = .ok (.iload_n 1, 1) := by decide +kernel
theorem dX7_answer_12 : decode cX7_answer 12 = .ok (.invokevirtual 73, 3) := by decide +kernel
theorem dX7_answer_15 : decode cX7_answer 15 = .ok (.ireturn, 1) := by decide +kernel
theorem dX7_closed_0 : decode cX7_closed 0 = .ok (.aload_n 0, 1) := by decide +kernel
theorem dX7_closed_1 : decode cX7_closed 1 = .ok (.invokevirtual 118, 3) := by decide +kernel
theorem dX7_closed_4 : decode cX7_closed 4 = .ok (.aload_n 0, 1) := by decide +kernel
theorem dX7_closed_5 : decode cX7_closed 5 = .ok (.getfield 43, 3) := by decide +kernel
theorem dX7_closed_8 : decode cX7_closed 8 = .ok (.aload_n 0, 1) := by decide +kernel
theorem dX7_closed_9 : decode cX7_closed 9 = .ok (.getfield 29, 3) := by decide +kernel
theorem dX7_closed_12 : decode cX7_closed 12 = .ok (.aload_n 0, 1) := by decide +kernel
theorem dX7_closed_13 : decode cX7_closed 13 = .ok (.getfield 36, 3) := by decide +kernel
theorem dX7_closed_16 : decode cX7_closed 16 = .ok (.aload_n 0, 1) := by decide +kernel
theorem dX7_closed_17 : decode cX7_closed 17 = .ok (.getfield 22, 3) := by decide +kernel
theorem dX7_closed_20 : decode cX7_closed 20 = .ok (.invokevirtual 125, 3) := by decide +kernel
theorem dX7_closed_23 : decode cX7_closed 23 = .ok (.iload_n 1, 1) := by decide +kernel
theorem dX7_closed_24 : decode cX7_closed 24 = .ok (.ifCond .eq 13, 3) := by decide +kernel
theorem dX7_closed_27 : decode cX7_closed 27 = .ok (.aload_n 0, 1) := by decide +kernel
theorem dX7_closed_28 : decode cX7_closed 28 = .ok (.getfield 43, 3) := by decide +kernel
theorem dX7_closed_31 : decode cX7_closed 31 = .ok (.invokevirtual 128, 3) := by decide +kernel
theorem dX7_closed_34 : decode cX7_closed 34 = .ok (.goto 10, 3) := by decide +kernel
theorem dX7_closed_37 : decode cX7_closed 37 = .ok (.aload_n 0, 1) := by decide +kernel
theorem dX7_closed_38 : decode cX7_closed 38 = .ok (.getfield 43, 3) := by decide +kernel
theorem dX7_closed_41 : decode cX7_closed 41 = .ok (.invokevirtual 131, 3) := by decide +kernel
theorem dX7_closed_44 : decode cX7_closed 44 = .ok (.iload_n 2, 1) := by decide +kernel
theorem dX7_closed_45 : decode cX7_closed 45 = .ok (.invokevirtual 73, 3) := by decide +kernel
theorem dX7_closed_48 : decode cX7_closed 48 = .ok (.ireturn, 1) := by decide +kernel
theorem dX7_value_0 : decode cX7_value 0 = .ok (.aload_n 0, 1) := by decide +kernel
theorem dX7_value_1 : decode cX7_value 1 = .ok (.invokevirtual 118, 3) := by decide +kernel
theorem dX7_value_4 : decode cX7_value 4 = .ok (.aload_n 0, 1) := by decide +kernel
theorem dX7_value_5 : decode cX7_value 5 = .ok (.getfield 43, 3) := by decide +kernel
theorem dX7_value_8 : decode cX7_value 8 = .ok (.aload_n 0, 1) := by decide +kernel
theorem dX7_value_9 : decode cX7_value 9 = .ok (.getfield 29, 3) := by decide +kernel
theorem dX7_value_12 : decode cX7_value 12 = .ok (.aload_n 0, 1) := by decide +kernel
theorem dX7_value_13 : decode cX7_value 13 = .ok (.getfield 36, 3) := by decide +kernel
theorem dX7_value_16 : decode cX7_value 16 = .ok (.aload_n 0, 1) := by decide +kernel
theorem dX7_value_17 : decode cX7_value 17 = .ok (.getfield 22, 3) := by decide +kernel
theorem dX7_value_20 : decode cX7_value 20 = .ok (.invokevirtual 125, 3) := by decide +kernel
theorem dX7_value_23 : decode cX7_value 23 = .ok (.aload_n 0, 1) := by decide +kernel
theorem dX7_value_24 : decode cX7_value 24 = .ok (.getfield 43, 3) := by decide +kernel
theorem dX7_value_27 : decode cX7_value 27 = .ok (.lload_n 1, 1) := by decide +kernel
theorem dX7_value_28 : decode cX7_value 28 = .ok (.ldc2_w 65, 3) := by decide +kernel
theorem dX7_value_31 : decode cX7_value 31 = .ok (.invokestatic 67, 3) := by decide +kernel
theorem dX7_value_34 : decode cX7_value 34 = .ok (.l2i, 1) := by decide +kernel
theorem dX7_value_35 : decode cX7_value 35 = .ok (.invokevirtual 134, 3) := by decide +kernel
theorem dX7_value_38 : decode cX7_value 38 = .ok (.ireturn, 1) := by decide +kernel
theorem dX7_term_0 : decode cX7_term 0 = .ok (.aload_n 0, 1) := by decide +kernel
theorem dX7_term_1 : decode cX7_term 1 = .ok (.iload_n 1, 1) := by decide +kernel
theorem dX7_term_2 : decode cX7_term 2 = .ok (.invokevirtual 137, 3) := by decide +kernel
theorem dX7_term_5 : decode cX7_term 5 = .ok (.aload_n 0, 1) := by decide +kernel
theorem dX7_term_6 : decode cX7_term 6 = .ok (.iload_n 1, 1) := by decide +kernel
theorem dX7_term_7 : decode cX7_term 7 = .ok (.invokevirtual 140, 3) := by decide +kernel
theorem dX7_term_10 : decode cX7_term 10 = .ok (.aload_n 0, 1) := by decide +kernel
theorem dX7_term_11 : decode cX7_term 11 = .ok (.getfield 50, 3) := by decide +kernel
theorem dX7_term_14 : decode cX7_term 14 = .ok (.iload_n 1, 1) := by decide +kernel
theorem dX7_term_15 : decode cX7_term 15 = .ok (.invokevirtual 143, 3) := by decide +kernel
theorem dX7_term_18 : decode cX7_term 18 = .ok (.ireturn, 1) := by decide +kernel
theorem dX7_sum_0 : decode cX7_sum 0 = .ok (.aload_n 0, 1) := by decide +kernel
theorem dX7_sum_1 : decode cX7_sum 1 = .ok (.iload_n 1, 1) := by decide +kernel
theorem dX7_sum_2 : decode cX7_sum 2 = .ok (.invokevirtual 137, 3) := by decide +kernel
theorem dX7_sum_5 : decode cX7_sum 5 = .ok (.aload_n 0, 1) := by decide +kernel
theorem dX7_sum_6 : decode cX7_sum 6 = .ok (.iload_n 1, 1) := by decide +kernel
theorem dX7_sum_7 : decode cX7_sum 7 = .ok (.iconst 1, 1) := by decide +kernel
theorem dX7_sum_8 : decode cX7_sum 8 = .ok (.isub, 1) := by decide +kernel
theorem dX7_sum_9 : decode cX7_sum 9 = .ok (.invokevirtual 140, 3) := by decide +kernel
theorem dX7_sum_12 : decode cX7_sum 12 = .ok (.aload_n 0, 1) := by decide +kernel
theorem dX7_sum_13 : decode cX7_sum 13 = .ok (.getfield 50, 3) := by decide +kernel
theorem dX7_sum_16 : decode cX7_sum 16 = .ok (.iload_n 1, 1) := by decide +kernel
theorem dX7_sum_17 : decode cX7_sum 17 = .ok (.invokevirtual 146, 3) := by decide +kernel
theorem dX7_sum_20 : decode cX7_sum 20 = .ok (.ireturn, 1) := by decide +kernel
theorem dX7_shift_0 : decode cX7_shift 0 = .ok (.iload_n 1, 1) := by decide +kernel
theorem dX7_shift_1 : decode cX7_shift 1 = .ok (.sipush 32003, 3) := by decide +kernel
theorem dX7_shift_4 : decode cX7_shift 4 = .ok (.invokestatic 149, 3) := by decide +kernel
theorem dX7_shift_7 : decode cX7_shift 7 = .ok (.istore_n 2, 1) := by decide +kernel
theorem dX7_shift_8 : decode cX7_shift 8 = .ok (.aload_n 0, 1) := by decide +kernel
theorem dX7_shift_9 : decode cX7_shift 9 = .ok (.getfield 10, 3) := by decide +kernel
theorem dX7_shift_12 : decode cX7_shift 12 = .ok (.iload_n 2, 1) := by decide +kernel
theorem dX7_shift_13 : decode cX7_shift 13 = .ok (.invokevirtual 152, 3) := by decide +kernel
theorem dX7_shift_16 : decode cX7_shift 16 = .ok (.aload_n 0, 1) := by decide +kernel
theorem dX7_shift_17 : decode cX7_shift 17 = .ok (.getfield 16, 3) := by decide +kernel
theorem dX7_shift_20 : decode cX7_shift 20 = .ok (.iload_n 2, 1) := by decide +kernel
theorem dX7_shift_21 : decode cX7_shift 21 = .ok (.invokevirtual 152, 3) := by decide +kernel
theorem dX7_shift_24 : decode cX7_shift 24 = .ok (.aload_n 0, 1) := by decide +kernel
theorem dX7_shift_25 : decode cX7_shift 25 = .ok (.invokevirtual 81, 3) := by decide +kernel
theorem dX7_shift_28 : decode cX7_shift 28 = .ok (.return_, 1) := by decide +kernel
theorem dX7_clear_0 : decode cX7_clear 0 = .ok (.aload_n 0, 1) := by decide +kernel
theorem dX7_clear_1 : decode cX7_clear 1 = .ok (.getfield 10, 3) := by decide +kernel
theorem dX7_clear_4 : decode cX7_clear 4 = .ok (.iconst 1, 1) := by decide +kernel
theorem dX7_clear_5 : decode cX7_clear 5 = .ok (.invokevirtual 54, 3) := by decide +kernel
theorem dX7_clear_8 : decode cX7_clear 8 = .ok (.aload_n 0, 1) := by decide +kernel
theorem dX7_clear_9 : decode cX7_clear 9 = .ok (.getfield 16, 3) := by decide +kernel
theorem dX7_clear_12 : decode cX7_clear 12 = .ok (.iconst 1, 1) := by decide +kernel
theorem dX7_clear_13 : decode cX7_clear 13 = .ok (.invokevirtual 54, 3) := by decide +kernel
theorem dX7_clear_16 : decode cX7_clear 16 = .ok (.aload_n 0, 1) := by decide +kernel
theorem dX7_clear_17 : decode cX7_clear 17 = .ok (.invokevirtual 81, 3) := by decide +kernel
theorem dX7_clear_20 : decode cX7_clear 20 = .ok (.return_, 1) := by decide +kernel
theorem dX7_side_0 : decode cX7_side 0 = .ok (.iload_n 1, 1) := by decide +kernel
theorem dX7_side_1 : decode cX7_side 1 = .ok (.ifCond .eq 10, 3) := by decide +kernel
theorem dX7_side_4 : decode cX7_side 4 = .ok (.aload_n 0, 1) := by decide +kernel
theorem dX7_side_5 : decode cX7_side 5 = .ok (.getfield 10, 3) := by decide +kernel
theorem dX7_side_8 : decode cX7_side 8 = .ok (.goto 7, 3) := by decide +kernel
theorem dX7_side_11 : decode cX7_side 11 = .ok (.aload_n 0, 1) := by decide +kernel
theorem dX7_side_12 : decode cX7_side 12 = .ok (.getfield 16, 3) := by decide +kernel
theorem dX7_side_15 : decode cX7_side 15 = .ok (.areturn, 1) := by decide +kernel
theorem dX7_forget_0 : decode cX7_forget 0 = .ok (.aload_n 0, 1) := by decide +kernel
theorem dX7_forget_1 : decode cX7_forget 1 = .ok (.getfield 29, 3) := by decide +kernel
theorem dX7_forget_4 : decode cX7_forget 4 = .ok (.invokevirtual 155, 3) := by decide +kernel
theorem dX7_forget_7 : decode cX7_forget 7 = .ok (.aload_n 0, 1) := by decide +kernel
theorem dX7_forget_8 : decode cX7_forget 8 = .ok (.getfield 36, 3) := by decide +kernel
theorem dX7_forget_11 : decode cX7_forget 11 = .ok (.invokevirtual 156, 3) := by decide +kernel
theorem dX7_forget_14 : decode cX7_forget 14 = .ok (.aload_n 0, 1) := by decide +kernel
theorem dX7_forget_15 : decode cX7_forget 15 = .ok (.getfield 43, 3) := by decide +kernel
theorem dX7_forget_18 : decode cX7_forget 18 = .ok (.invokevirtual 157, 3) := by decide +kernel
theorem dX7_forget_21 : decode cX7_forget 21 = .ok (.aload_n 0, 1) := by decide +kernel
theorem dX7_forget_22 : decode cX7_forget 22 = .ok (.getfield 50, 3) := by decide +kernel
theorem dX7_forget_25 : decode cX7_forget 25 = .ok (.invokevirtual 158, 3) := by decide +kernel
theorem dX7_forget_28 : decode cX7_forget 28 = .ok (.return_, 1) := by decide +kernel
theorem dX7_requirePower_0 : decode cX7_requirePower 0 = .ok (.iload_n 1, 1) := by decide +kernel
theorem dX7_requirePower_1 : decode cX7_requirePower 1 = .ok (.ifCond .lt 8, 3) := by decide +kernel
theorem dX7_requirePower_4 : decode cX7_requirePower 4 = .ok (.iload_n 1, 1) := by decide +kernel
theorem dX7_requirePower_5 : decode cX7_requirePower 5 = .ok (.iconst 4, 1) := by decide +kernel
theorem dX7_requirePower_6 : decode cX7_requirePower 6 = .ok (.if_icmp .le 13, 3) := by decide +kernel
theorem dX7_requirePower_9 : decode cX7_requirePower 9 = .ok (.new 159, 3) := by decide +kernel
theorem dX7_requirePower_12 : decode cX7_requirePower 12 = .ok (.dup, 1) := by decide +kernel
theorem dX7_requirePower_13 : decode cX7_requirePower 13 = .ok (.ldc 161, 2) := by decide +kernel
theorem dX7_requirePower_15 : decode cX7_requirePower 15 = .ok (.invokespecial 163, 3) := by decide +kernel
theorem dX7_requirePower_18 : decode cX7_requirePower 18 = .ok (.athrow, 1) := by decide +kernel
theorem dX7_requirePower_19 : decode cX7_requirePower 19 = .ok (.return_, 1) := by decide +kernel
theorem dX7_requirePlace_0 : decode cX7_requirePlace 0 = .ok (.iload_n 1, 1) := by decide +kernel
theorem dX7_requirePlace_1 : decode cX7_requirePlace 1 = .ok (.ifCond .lt 9, 3) := by decide +kernel
theorem dX7_requirePlace_4 : decode cX7_requirePlace 4 = .ok (.iload_n 1, 1) := by decide +kernel
theorem dX7_requirePlace_5 : decode cX7_requirePlace 5 = .ok (.bipush 60, 2) := by decide +kernel
theorem dX7_requirePlace_7 : decode cX7_requirePlace 7 = .ok (.if_icmp .le 13, 3) := by decide +kernel
theorem dX7_requirePlace_10 : decode cX7_requirePlace 10 = .ok (.new 159, 3) := by decide +kernel
theorem dX7_requirePlace_13 : decode cX7_requirePlace 13 = .ok (.dup, 1) := by decide +kernel
theorem dX7_requirePlace_14 : decode cX7_requirePlace 14 = .ok (.ldc 164, 2) := by decide +kernel
theorem dX7_requirePlace_16 : decode cX7_requirePlace 16 = .ok (.invokespecial 163, 3) := by decide +kernel
theorem dX7_requirePlace_19 : decode cX7_requirePlace 19 = .ok (.athrow, 1) := by decide +kernel
theorem dX7_requirePlace_20 : decode cX7_requirePlace 20 = .ok (.return_, 1) := by decide +kernel
theorem dX7_requirePart_0 : decode cX7_requirePart 0 = .ok (.iload_n 1, 1) := by decide +kernel
theorem dX7_requirePart_1 : decode cX7_requirePart 1 = .ok (.ifCond .lt 8, 3) := by decide +kernel
theorem dX7_requirePart_4 : decode cX7_requirePart 4 = .ok (.iload_n 1, 1) := by decide +kernel
theorem dX7_requirePart_5 : decode cX7_requirePart 5 = .ok (.iconst 2, 1) := by decide +kernel
theorem dX7_requirePart_6 : decode cX7_requirePart 6 = .ok (.if_icmp .le 13, 3) := by decide +kernel
theorem dX7_requirePart_9 : decode cX7_requirePart 9 = .ok (.new 87, 3) := by decide +kernel
theorem dX7_requirePart_12 : decode cX7_requirePart 12 = .ok (.dup, 1) := by decide +kernel
theorem dX7_requirePart_13 : decode cX7_requirePart 13 = .ok (.ldc 166, 2) := by decide +kernel
theorem dX7_requirePart_15 : decode cX7_requirePart 15 = .ok (.invokespecial 91, 3) := by decide +kernel
theorem dX7_requirePart_18 : decode cX7_requirePart 18 = .ok (.athrow, 1) := by decide +kernel
theorem dX7_requirePart_19 : decode cX7_requirePart 19 = .ok (.return_, 1) := by decide +kernel
theorem dX7_requireRatio_0 : decode cX7_requireRatio 0 = .ok (.aload_n 0, 1) := by decide +kernel
theorem dX7_requireRatio_1 : decode cX7_requireRatio 1 = .ok (.getfield 10, 3) := by decide +kernel
theorem dX7_requireRatio_4 : decode cX7_requireRatio 4 = .ok (.invokevirtual 168, 3) := by decide +kernel
theorem dX7_requireRatio_7 : decode cX7_requireRatio 7 = .ok (.ifCond .ne 13, 3) := by decide +kernel
theorem dX7_requireRatio_10 : decode cX7_requireRatio 10 = .ok (.aload_n 0, 1) := by decide +kernel
theorem dX7_requireRatio_11 : decode cX7_requireRatio 11 = .ok (.getfield 16, 3) := by decide +kernel
theorem dX7_requireRatio_14 : decode cX7_requireRatio 14 = .ok (.invokevirtual 168, 3) := by decide +kernel
theorem dX7_requireRatio_17 : decode cX7_requireRatio 17 = .ok (.ifCond .eq 13, 3) := by decide +kernel
theorem dX7_requireRatio_20 : decode cX7_requireRatio 20 = .ok (.new 172, 3) := by decide +kernel
theorem dX7_requireRatio_23 : decode cX7_requireRatio 23 = .ok (.dup, 1) := by decide +kernel
theorem dX7_requireRatio_24 : decode cX7_requireRatio 24 = .ok (.ldc 174, 2) := by decide +kernel
theorem dX7_requireRatio_26 : decode cX7_requireRatio 26 = .ok (.invokespecial 176, 3) := by decide +kernel
theorem dX7_requireRatio_29 : decode cX7_requireRatio 29 = .ok (.athrow, 1) := by decide +kernel
theorem dX7_requireRatio_30 : decode cX7_requireRatio 30 = .ok (.return_, 1) := by decide +kernel
theorem dX7_requireAnswer_0 : decode cX7_requireAnswer 0 = .ok (.aload_n 0, 1) := by decide +kernel
theorem dX7_requireAnswer_1 : decode cX7_requireAnswer 1 = .ok (.invokevirtual 84, 3) := by decide +kernel
theorem dX7_requireAnswer_4 : decode cX7_requireAnswer 4 = .ok (.aload_n 0, 1) := by decide +kernel
theorem dX7_requireAnswer_5 : decode cX7_requireAnswer 5 = .ok (.getfield 29, 3) := by decide +kernel
theorem dX7_requireAnswer_8 : decode cX7_requireAnswer 8 = .ok (.aload_n 0, 1) := by decide +kernel
theorem dX7_requireAnswer_9 : decode cX7_requireAnswer 9 = .ok (.getfield 10, 3) := by decide +kernel
theorem dX7_requireAnswer_12 : decode cX7_requireAnswer 12 = .ok (.aload_n 0, 1) := by decide +kernel
theorem dX7_requireAnswer_13 : decode cX7_requireAnswer 13 = .ok (.getfield 16, 3) := by decide +kernel
theorem dX7_requireAnswer_16 : decode cX7_requireAnswer 16 = .ok (.aload_n 0, 1) := by decide +kernel
theorem dX7_requireAnswer_17 : decode cX7_requireAnswer 17 = .ok (.getfield 22, 3) := by decide +kernel
theorem dX7_requireAnswer_20 : decode cX7_requireAnswer 20 = .ok (.invokevirtual 94, 3) := by decide +kernel
theorem dX7_requireAnswer_23 : decode cX7_requireAnswer 23 = .ok (.aload_n 0, 1) := by decide +kernel
theorem dX7_requireAnswer_24 : decode cX7_requireAnswer 24 = .ok (.getfield 36, 3) := by decide +kernel
theorem dX7_requireAnswer_27 : decode cX7_requireAnswer 27 = .ok (.aload_n 0, 1) := by decide +kernel
theorem dX7_requireAnswer_28 : decode cX7_requireAnswer 28 = .ok (.getfield 29, 3) := by decide +kernel
theorem dX7_requireAnswer_31 : decode cX7_requireAnswer 31 = .ok (.invokevirtual 112, 3) := by decide +kernel
theorem dX7_requireAnswer_34 : decode cX7_requireAnswer 34 = .ok (.aload_n 0, 1) := by decide +kernel
theorem dX7_requireAnswer_35 : decode cX7_requireAnswer 35 = .ok (.getfield 36, 3) := by decide +kernel
theorem dX7_requireAnswer_38 : decode cX7_requireAnswer 38 = .ok (.invokevirtual 115, 3) := by decide +kernel
theorem dX7_requireAnswer_41 : decode cX7_requireAnswer 41 = .ok (.ifCond .ge 13, 3) := by decide +kernel
theorem dX7_requireAnswer_44 : decode cX7_requireAnswer 44 = .ok (.new 172, 3) := by decide +kernel
theorem dX7_requireAnswer_47 : decode cX7_requireAnswer 47 = .ok (.dup, 1) := by decide +kernel
theorem dX7_requireAnswer_48 : decode cX7_requireAnswer 48 = .ok (.ldc 177, 2) := by decide +kernel
theorem dX7_requireAnswer_50 : decode cX7_requireAnswer 50 = .ok (.invokespecial 176, 3) := by decide +kernel
theorem dX7_requireAnswer_53 : decode cX7_requireAnswer 53 = .ok (.athrow, 1) := by decide +kernel
theorem dX7_requireAnswer_54 : decode cX7_requireAnswer 54 = .ok (.return_, 1) := by decide +kernel
theorem dX7_requireTerm_0 : decode cX7_requireTerm 0 = .ok (.aload_n 0, 1) := by decide +kernel
theorem dX7_requireTerm_1 : decode cX7_requireTerm 1 = .ok (.getfield 50, 3) := by decide +kernel
theorem dX7_requireTerm_4 : decode cX7_requireTerm 4 = .ok (.iload_n 1, 1) := by decide +kernel
theorem dX7_requireTerm_5 : decode cX7_requireTerm 5 = .ok (.aload_n 0, 1) := by decide +kernel
theorem dX7_requireTerm_6 : decode cX7_requireTerm 6 = .ok (.getfield 10, 3) := by decide +kernel
theorem dX7_requireTerm_9 : decode cX7_requireTerm 9 = .ok (.aload_n 0, 1) := by decide +kernel
theorem dX7_requireTerm_10 : decode cX7_requireTerm 10 = .ok (.getfield 16, 3) := by decide +kernel
theorem dX7_requireTerm_13 : decode cX7_requireTerm 13 = .ok (.invokevirtual 179, 3) := by decide +kernel
theorem dX7_requireTerm_16 : decode cX7_requireTerm 16 = .ok (.ifCond .ne 13, 3) := by decide +kernel
theorem dX7_requireTerm_19 : decode cX7_requireTerm 19 = .ok (.new 172, 3) := by decide +kernel
theorem dX7_requireTerm_22 : decode cX7_requireTerm 22 = .ok (.dup, 1) := by decide +kernel
theorem dX7_requireTerm_23 : decode cX7_requireTerm 23 = .ok (.ldc 183, 2) := by decide +kernel
theorem dX7_requireTerm_25 : decode cX7_requireTerm 25 = .ok (.invokespecial 176, 3) := by decide +kernel
theorem dX7_requireTerm_28 : decode cX7_requireTerm 28 = .ok (.athrow, 1) := by decide +kernel
theorem dX7_requireTerm_29 : decode cX7_requireTerm 29 = .ok (.return_, 1) := by decide +kernel

