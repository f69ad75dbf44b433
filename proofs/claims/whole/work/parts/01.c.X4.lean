theorem dX4_init_0 : decode cX4_init 0 = .ok (.aload_n 0, 1) := by decide +kernel
theorem dX4_init_1 : decode cX4_init 1 = .ok (.invokespecial 3, 3) := by decide +kernel
theorem dX4_init_4 : decode cX4_init 4 = .ok (.aload_n 0, 1) := by decide +kernel
theorem dX4_init_5 : decode cX4_init 5 = .ok (.bipush 33, 2) := by decide +kernel
theorem dX4_init_7 : decode cX4_init 7 = .ok (.newarray .int, 2) := by decide +kernel
theorem dX4_init_9 : decode cX4_init 9 = .ok (.putfield 11, 3) := by decide +kernel
theorem dX4_init_12 : decode cX4_init 12 = .ok (.aload_n 0, 1) := by decide +kernel
theorem dX4_init_13 : decode cX4_init 13 = .ok (.iconst (-1), 1) := by decide +kernel
theorem dX4_init_14 : decode cX4_init 14 = .ok (.putfield 15, 3) := by decide +kernel
theorem dX4_init_17 : decode cX4_init 17 = .ok (.return_, 1) := by decide +kernel
theorem dX4_highest_0 : decode cX4_highest 0 = .ok (.aload_n 0, 1) := by decide +kernel
theorem dX4_highest_1 : decode cX4_highest 1 = .ok (.getfield 15, 3) := by decide +kernel
theorem dX4_highest_4 : decode cX4_highest 4 = .ok (.ireturn, 1) := by decide +kernel
theorem dX4_isZero_0 : decode cX4_isZero 0 = .ok (.aload_n 0, 1) := by decide +kernel
theorem dX4_isZero_1 : decode cX4_isZero 1 = .ok (.getfield 15, 3) := by decide +kernel
theorem dX4_isZero_4 : decode cX4_isZero 4 = .ok (.ifCond .ge 7, 3) := by decide +kernel
theorem dX4_isZero_7 : decode cX4_isZero 7 = .ok (.iconst 1, 1) := by decide +kernel
theorem dX4_isZero_8 : decode cX4_isZero 8 = .ok (.goto 4, 3) := by decide +kernel
theorem dX4_isZero_11 : decode cX4_isZero 11 = .ok (.iconst 0, 1) := by decide +kernel
theorem dX4_isZero_12 : decode cX4_isZero 12 = .ok (.ireturn, 1) := by decide +kernel
theorem dX4_number_0 : decode cX4_number 0 = .ok (.iload_n 1, 1) := by decide +kernel
theorem dX4_number_1 : decode cX4_number 1 = .ok (.ifCond .lt 12, 3) := by decide +kernel
theorem dX4_number_4 : decode cX4_number 4 = .ok (.iload_n 1, 1) := by decide +kernel
theorem dX4_number_5 : decode cX4_number 5 = .ok (.aload_n 0, 1) := by decide +kernel
theorem dX4_number_6 : decode cX4_number 6 = .ok (.getfield 11, 3) := by decide +kernel
theorem dX4_number_9 : decode cX4_number 9 = .ok (.arraylength, 1) := by decide +kernel
theorem dX4_number_10 : decode cX4_number 10 = .ok (.if_icmp .lt 7, 3) := by decide +kernel
theorem dX4_number_13 : decode cX4_number 13 = .ok (.iconst 0, 1) := by decide +kernel
theorem dX4_number_14 : decode cX4_number 14 = .ok (.goto 9, 3) := by decide +kernel
theorem dX4_number_17 : decode cX4_number 17 = .ok (.aload_n 0, 1) := by decide +kernel
theorem dX4_number_18 : decode cX4_number 18 = .ok (.getfield 11, 3) := by decide +kernel
theorem dX4_number_21 : decode cX4_number 21 = .ok (.iload_n 1, 1) := by decide +kernel
theorem dX4_number_22 : decode cX4_number 22 = .ok (.iaload, 1) := by decide +kernel
theorem dX4_number_23 : decode cX4_number 23 = .ok (.ireturn, 1) := by decide +kernel
theorem dX4_leading_0 : decode cX4_leading 0 = .ok (.aload_n 0, 1) := by decide +kernel
theorem dX4_leading_1 : decode cX4_leading 1 = .ok (.aload_n 0, 1) := by decide +kernel
theorem dX4_leading_2 : decode cX4_leading 2 = .ok (.getfield 15, 3) := by decide +kernel
theorem dX4_leading_5 : decode cX4_leading 5 = .ok (.invokevirtual 19, 3) := by decide +kernel
theorem dX4_leading_8 : decode cX4_leading 8 = .ok (.ireturn, 1) := by decide +kernel
theorem dX4_setNumber_0 : decode cX4_setNumber 0 = .ok (.iload_n 1, 1) := by decide +kernel
theorem dX4_setNumber_1 : decode cX4_setNumber 1 = .ok (.ifCond .lt 12, 3) := by decide +kernel
theorem dX4_setNumber_4 : decode cX4_setNumber 4 = .ok (.iload_n 1, 1) := by decide +kernel
theorem dX4_setNumber_5 : decode cX4_setNumber 5 = .ok (.aload_n 0, 1) := by decide +kernel
theorem dX4_setNumber_6 : decode cX4_setNumber 6 = .ok (.getfield 11, 3) := by decide +kernel
theorem dX4_setNumber_9 : decode cX4_setNumber 9 = .ok (.arraylength, 1) := by decide +kernel
theorem dX4_setNumber_10 : decode cX4_setNumber 10 = .ok (.if_icmp .lt 4, 3) := by decide +kernel
theorem dX4_setNumber_13 : decode cX4_setNumber 13 = .ok (.return_, 1) := by decide +kernel
theorem dX4_setNumber_14 : decode cX4_setNumber 14 = .ok (.aload_n 0, 1) := by decide +kernel
theorem dX4_setNumber_15 : decode cX4_setNumber 15 = .ok (.getfield 11, 3) := by decide +kernel
theorem dX4_setNumber_18 : decode cX4_setNumber 18 = .ok (.iload_n 1, 1) := by decide +kernel
theorem dX4_setNumber_19 : decode cX4_setNumber 19 = .ok (.iload_n 2, 1) := by decide +kernel
theorem dX4_setNumber_20 : decode cX4_setNumber 20 = .ok (.iastore, 1) := by decide +kernel
theorem dX4_setNumber_21 : decode cX4_setNumber 21 = .ok (.aload_n 0, 1) := by decide +kernel
theorem dX4_setNumber_22 : decode cX4_setNumber 22 = .ok (.iload_n 1, 1) := by decide +kernel
theorem dX4_setNumber_23 : decode cX4_setNumber 23 = .ok (.aload_n 0, 1) := by decide +kernel
theorem dX4_setNumber_24 : decode cX4_setNumber 24 = .ok (.getfield 15, 3) := by decide +kernel
theorem dX4_setNumber_27 : decode cX4_setNumber 27 = .ok (.invokestatic 23, 3) := by decide +kernel
theorem dX4_setNumber_30 : decode cX4_setNumber 30 = .ok (.invokevirtual 29, 3) := by decide +kernel
theorem dX4_setNumber_33 : decode cX4_setNumber 33 = .ok (.return_, 1) := by decide +kernel
theorem dX4_becomeNumber_0 : decode cX4_becomeNumber 0 = .ok (.iconst 0, 1) := by decide +kernel
theorem dX4_becomeNumber_1 : decode cX4_becomeNumber 1 = .ok (.istore_n 2, 1) := by decide +kernel
theorem dX4_becomeNumber_2 : decode cX4_becomeNumber 2 = .ok (.iload_n 2, 1) := by decide +kernel
theorem dX4_becomeNumber_3 : decode cX4_becomeNumber 3 = .ok (.aload_n 0, 1) := by decide +kernel
theorem dX4_becomeNumber_4 : decode cX4_becomeNumber 4 = .ok (.getfield 11, 3) := by decide +kernel
theorem dX4_becomeNumber_7 : decode cX4_becomeNumber 7 = .ok (.arraylength, 1) := by decide +kernel
theorem dX4_becomeNumber_8 : decode cX4_becomeNumber 8 = .ok (.if_icmp .ge 16, 3) := by decide +kernel
theorem dX4_becomeNumber_11 : decode cX4_becomeNumber 11 = .ok (.aload_n 0, 1) := by decide +kernel
theorem dX4_becomeNumber_12 : decode cX4_becomeNumber 12 = .ok (.getfield 11, 3) := by decide +kernel
theorem dX4_becomeNumber_15 : decode cX4_becomeNumber 15 = .ok (.iload_n 2, 1) := by decide +kernel
theorem dX4_becomeNumber_16 : decode cX4_becomeNumber 16 = .ok (.iconst 0, 1) := by decide +kernel
theorem dX4_becomeNumber_17 : decode cX4_becomeNumber 17 = .ok (.iastore, 1) := by decide +kernel
theorem dX4_becomeNumber_18 : decode cX4_becomeNumber 18 = .ok (.iinc 2 1, 3) := by decide +kernel
theorem dX4_becomeNumber_21 : decode cX4_becomeNumber 21 = .ok (.goto (-19), 3) := by decide +kernel
theorem dX4_becomeNumber_24 : decode cX4_becomeNumber 24 = .ok (.aload_n 0, 1) := by decide +kernel
theorem dX4_becomeNumber_25 : decode cX4_becomeNumber 25 = .ok (.getfield 11, 3) := by decide +kernel
theorem dX4_becomeNumber_28 : decode cX4_becomeNumber 28 = .ok (.iconst 0, 1) := by decide +kernel
theorem dX4_becomeNumber_29 : decode cX4_becomeNumber 29 = .ok (.iload_n 1, 1) := by decide +kernel
theorem dX4_becomeNumber_30 : decode cX4_becomeNumber 30 = .ok (.iastore, 1) := by decide +kernel
theorem dX4_becomeNumber_31 : decode cX4_becomeNumber 31 = .ok (.aload_n 0, 1) := by decide +kernel
theorem dX4_becomeNumber_32 : decode cX4_becomeNumber 32 = .ok (.iload_n 1, 1) := by decide +kernel
theorem dX4_becomeNumber_33 : decode cX4_becomeNumber 33 = .ok (.ifCond .ne 7, 3) := by decide +kernel
theorem dX4_becomeNumber_36 : decode cX4_becomeNumber 36 = .ok (.iconst (-1), 1) := by decide +kernel
theorem dX4_becomeNumber_37 : decode cX4_becomeNumber 37 = .ok (.goto 4, 3) := by decide +kernel
theorem dX4_becomeNumber_40 : decode cX4_becomeNumber 40 = .ok (.iconst 0, 1) := by decide +kernel
theorem dX4_becomeNumber_41 : decode cX4_becomeNumber 41 = .ok (.putfield 15, 3) := by decide +kernel
theorem dX4_becomeNumber_44 : decode cX4_becomeNumber 44 = .ok (.return_, 1) := by decide +kernel
theorem dX4_copyFrom_0 : decode cX4_copyFrom 0 = .ok (.iconst 0, 1) := by decide +kernel
theorem dX4_copyFrom_1 : decode cX4_copyFrom 1 = .ok (.istore_n 2, 1) := by decide +kernel
theorem dX4_copyFrom_2 : decode cX4_copyFrom 2 = .ok (.iload_n 2, 1) := by decide +kernel
theorem dX4_copyFrom_3 : decode cX4_copyFrom 3 = .ok (.aload_n 0, 1) := by decide +kernel
theorem dX4_copyFrom_4 : decode cX4_copyFrom 4 = .ok (.getfield 11, 3) := by decide +kernel
theorem dX4_copyFrom_7 : decode cX4_copyFrom 7 = .ok (.arraylength, 1) := by decide +kernel
theorem dX4_copyFrom_8 : decode cX4_copyFrom 8 = .ok (.if_icmp .ge 20, 3) := by decide +kernel
theorem dX4_copyFrom_11 : decode cX4_copyFrom 11 = .ok (.aload_n 0, 1) := by decide +kernel
theorem dX4_copyFrom_12 : decode cX4_copyFrom 12 = .ok (.getfield 11, 3) := by decide +kernel
theorem dX4_copyFrom_15 : decode cX4_copyFrom 15 = .ok (.iload_n 2, 1) := by decide +kernel
theorem dX4_copyFrom_16 : decode cX4_copyFrom 16 = .ok (.aload_n 1, 1) := by decide +kernel
theorem dX4_copyFrom_17 : decode cX4_copyFrom 17 = .ok (.iload_n 2, 1) := by decide +kernel
theorem dX4_copyFrom_18 : decode cX4_copyFrom 18 = .ok (.invokevirtual 19, 3) := by decide +kernel
theorem dX4_copyFrom_21 : decode cX4_copyFrom 21 = .ok (.iastore, 1) := by decide +kernel
theorem dX4_copyFrom_22 : decode cX4_copyFrom 22 = .ok (.iinc 2 1, 3) := by decide +kernel
theorem dX4_copyFrom_25 : decode cX4_copyFrom 25 = .ok (.goto (-23), 3) := by decide +kernel
theorem dX4_copyFrom_28 : decode cX4_copyFrom 28 = .ok (.aload_n 0, 1) := by decide +kernel
theorem dX4_copyFrom_29 : decode cX4_copyFrom 29 = .ok (.aload_n 1, 1) := by decide +kernel
theorem dX4_copyFrom_30 : decode cX4_copyFrom 30 = .ok (.getfield 15, 3) := by decide +kernel
theorem dX4_copyFrom_33 : decode cX4_copyFrom 33 = .ok (.putfield 15, 3) := by decide +kernel
theorem dX4_copyFrom_36 : decode cX4_copyFrom 36 = .ok (.return_, 1) := by decide +kernel
theorem dX4_scaleBy_0 : decode cX4_scaleBy 0 = .ok (.iconst 0, 1) := by decide +kernel
theorem dX4_scaleBy_1 : decode cX4_scaleBy 1 = .ok (.istore_n 2, 1) := by decide +kernel
theorem dX4_scaleBy_2 : decode cX4_scaleBy 2 = .ok (.iload_n 2, 1) := by decide +kernel
theorem dX4_scaleBy_3 : decode cX4_scaleBy 3 = .ok (.aload_n 0, 1) := by decide +kernel
theorem dX4_scaleBy_4 : decode cX4_scaleBy 4 = .ok (.getfield 11, 3) := by decide +kernel
theorem dX4_scaleBy_7 : decode cX4_scaleBy 7 = .ok (.arraylength, 1) := by decide +kernel
theorem dX4_scaleBy_8 : decode cX4_scaleBy 8 = .ok (.if_icmp .ge 35, 3) := by decide +kernel
theorem dX4_scaleBy_11 : decode cX4_scaleBy 11 = .ok (.iload_n 2, 1) := by decide +kernel
theorem dX4_scaleBy_12 : decode cX4_scaleBy 12 = .ok (.aload_n 0, 1) := by decide +kernel
theorem dX4_scaleBy_13 : decode cX4_scaleBy 13 = .ok (.getfield 15, 3) := by decide +kernel
theorem dX4_scaleBy_16 : decode cX4_scaleBy 16 = .ok (.if_icmp .gt 27, 3) := by decide +kernel
theorem dX4_scaleBy_19 : decode cX4_scaleBy 19 = .ok (.aload_n 0, 1) := by decide +kernel
theorem dX4_scaleBy_20 : decode cX4_scaleBy 20 = .ok (.getfield 11, 3) := by decide +kernel
theorem dX4_scaleBy_23 : decode cX4_scaleBy 23 = .ok (.iload_n 2, 1) := by decide +kernel
theorem dX4_scaleBy_24 : decode cX4_scaleBy 24 = .ok (.aload_n 0, 1) := by decide +kernel
theorem dX4_scaleBy_25 : decode cX4_scaleBy 25 = .ok (.getfield 11, 3) := by decide +kernel
theorem dX4_scaleBy_28 : decode cX4_scaleBy 28 = .ok (.iload_n 2, 1) := by decide +kernel
theorem dX4_scaleBy_29 : decode cX4_scaleBy 29 = .ok (.iaload, 1) := by decide +kernel
theorem dX4_scaleBy_30 : decode cX4_scaleBy 30 = .ok (.iload_n 1, 1) := by decide +kernel
theorem dX4_scaleBy_31 : decode cX4_scaleBy 31 = .ok (.imul, 1) := by decide +kernel
theorem dX4_scaleBy_32 : decode cX4_scaleBy 32 = .ok (.sipush 32003, 3) := by decide +kernel
theorem dX4_scaleBy_35 : decode cX4_scaleBy 35 = .ok (.irem, 1) := by decide +kernel
theorem dX4_scaleBy_36 : decode cX4_scaleBy 36 = .ok (.iastore, 1) := by decide +kernel
theorem dX4_scaleBy_37 : decode cX4_scaleBy 37 = .ok (.iinc 2 1, 3) := by decide +kernel
theorem dX4_scaleBy_40 : decode cX4_scaleBy 40 = .ok (.goto (-38), 3) := by decide +kernel
theorem dX4_scaleBy_43 : decode cX4_scaleBy 43 = .ok (.aload_n 0, 1) := by decide +kernel
theorem dX4_scaleBy_44 : decode cX4_scaleBy 44 = .ok (.aload_n 0, 1) := by decide +kernel
theorem dX4_scaleBy_45 : decode cX4_scaleBy 45 = .ok (.getfield 15, 3) := by decide +kernel
theorem dX4_scaleBy_48 : decode cX4_scaleBy 48 = .ok (.invokevirtual 29, 3) := by decide +kernel
theorem dX4_scaleBy_51 : decode cX4_scaleBy 51 = .ok (.return_, 1) := by decide +kernel
theorem dX4_addMultiple_0 : decode cX4_addMultiple 0 = .ok (.aload_n 2, 1) := by decide +kernel
theorem dX4_addMultiple_1 : decode cX4_addMultiple 1 = .ok (.getfield 15, 3) := by decide +kernel
theorem dX4_addMultiple_4 : decode cX4_addMultiple 4 = .ok (.iload_n 3, 1) := by decide +kernel
theorem dX4_addMultiple_5 : decode cX4_addMultiple 5 = .ok (.iadd, 1) := by decide +kernel
theorem dX4_addMultiple_6 : decode cX4_addMultiple 6 = .ok (.istore 4, 2) := by decide +kernel
theorem dX4_addMultiple_8 : decode cX4_addMultiple 8 = .ok (.iload_n 3, 1) := by decide +kernel
theorem dX4_addMultiple_9 : decode cX4_addMultiple 9 = .ok (.iconst 0, 1) := by decide +kernel
theorem dX4_addMultiple_10 : decode cX4_addMultiple 10 = .ok (.invokestatic 23, 3) := by decide +kernel
theorem dX4_addMultiple_13 : decode cX4_addMultiple 13 = .ok (.istore 5, 2) := by decide +kernel
theorem dX4_addMultiple_15 : decode cX4_addMultiple 15 = .ok (.iload 5, 2) := by decide +kernel
theorem dX4_addMultiple_17 : decode cX4_addMultiple 17 = .ok (.aload_n 0, 1) := by decide +kernel
theorem dX4_addMultiple_18 : decode cX4_addMultiple 18 = .ok (.getfield 11, 3) := by decide +kernel
theorem dX4_addMultiple_21 : decode cX4_addMultiple 21 = .ok (.arraylength, 1) := by decide +kernel
theorem dX4_addMultiple_22 : decode cX4_addMultiple 22 = .ok (.if_icmp .ge 49, 3) := by decide +kernel
theorem dX4_addMultiple_25 : decode cX4_addMultiple 25 = .ok (.iload 5, 2) := by decide +kernel
theorem dX4_addMultiple_27 : decode cX4_addMultiple 27 = .ok (.iload 4, 2) := by decide +kernel
theorem dX4_addMultiple_29 : decode cX4_addMultiple 29 = .ok (.if_icmp .gt 42, 3) := by decide +kernel
theorem dX4_addMultiple_32 : decode cX4_addMultiple 32 = .ok (.iload_n 1, 1) := by decide +kernel
theorem dX4_addMultiple_33 : decode cX4_addMultiple 33 = .ok (.aload_n 2, 1) := by decide +kernel
theorem dX4_addMultiple_34 : decode cX4_addMultiple 34 = .ok (.iload 5, 2) := by decide +kernel
theorem dX4_addMultiple_36 : decode cX4_addMultiple 36 = .ok (.iload_n 3, 1) := by decide +kernel
theorem dX4_addMultiple_37 : decode cX4_addMultiple 37 = .ok (.isub, 1) := by decide +kernel
theorem dX4_addMultiple_38 : decode cX4_addMultiple 38 = .ok (.invokevirtual 19, 3) := by decide +kernel
theorem dX4_addMultiple_41 : decode cX4_addMultiple 41 = .ok (.imul, 1) := by decide +kernel
theorem dX4_addMultiple_42 : decode cX4_addMultiple 42 = .ok (.istore 6, 2) := by decide +kernel
theorem dX4_addMultiple_44 : decode cX4_addMultiple 44 = .ok (.aload_n 0, 1) := by decide +kernel
theorem dX4_addMultiple_45 : decode cX4_addMultiple 45 = .ok (.getfield 11, 3) := by decide +kernel
theorem dX4_addMultiple_48 : decode cX4_addMultiple 48 = .ok (.iload 5, 2) := by decide +kernel
theorem dX4_addMultiple_50 : decode cX4_addMultiple 50 = .ok (.aload_n 0, 1) := by decide +kernel
theorem dX4_addMultiple_51 : decode cX4_addMultiple 51 = .ok (.getfield 11, 3) := by decide +kernel
theorem dX4_addMultiple_54 : decode cX4_addMultiple 54 = .ok (.iload 5, 2) := by decide +kernel
theorem dX4_addMultiple_56 : decode cX4_addMultiple 56 = .ok (.iaload, 1) := by decide +kernel
theorem dX4_addMultiple_57 : decode cX4_addMultiple 57 = .ok (.iload 6, 2) := by decide +kernel
theorem dX4_addMultiple_59 : decode cX4_addMultiple 59 = .ok (.iadd, 1) := by decide +kernel
theorem dX4_addMultiple_60 : decode cX4_addMultiple 60 = .ok (.sipush 32003, 3) := by decide +kernel
theorem dX4_addMultiple_63 : decode cX4_addMultiple 63 = .ok (.irem, 1) := by decide +kernel
theorem dX4_addMultiple_64 : decode cX4_addMultiple 64 = .ok (.iastore, 1) := by decide +kernel
theorem dX4_addMultiple_65 : decode cX4_addMultiple 65 = .ok (.iinc 5 1, 3) := by decide +kernel
theorem dX4_addMultiple_68 : decode cX4_addMultiple 68 = .ok (.goto (-53), 3) := by decide +kernel
theorem dX4_addMultiple_71 : decode cX4_addMultiple 71 = .ok (.aload_n 0, 1) := by decide +kernel
theorem dX4_addMultiple_72 : decode cX4_addMultiple 72 = .ok (.aload_n 0, 1) := by decide +kernel
theorem dX4_addMultiple_73 : decode cX4_addMultiple 73 = .ok (.getfield 15, 3) := by decide +kernel
theorem dX4_addMultiple_76 : decode cX4_addMultiple 76 = .ok (.iload 4, 2) := by decide +kernel
theorem dX4_addMultiple_78 : decode cX4_addMultiple 78 = .ok (.invokestatic 23, 3) := by decide +kernel
theorem dX4_addMultiple_81 : decode cX4_addMultiple 81 = .ok (.invokevirtual 29, 3) := by decide +kernel
theorem dX4_addMultiple_84 : decode cX4_addMultiple 84 = .ok (.return_, 1) := by decide +kernel
theorem dX4_multiplyBy_0 : decode cX4_multiplyBy 0 = .ok (.aload_n 0, 1) := by decide +kernel
theorem dX4_multiplyBy_1 : decode cX4_multiplyBy 1 = .ok (.invokevirtual 33, 3) := by decide +kernel
theorem dX4_multiplyBy_4 : decode cX4_multiplyBy 4 = .ok (.ifCond .ne 10, 3) := by decide +kernel
theorem dX4_multiplyBy_7 : decode cX4_multiplyBy 7 = .ok (.aload_n 1, 1) := by decide +kernel
theorem dX4_multiplyBy_8 : decode cX4_multiplyBy 8 = .ok (.invokevirtual 33, 3) := by decide +kernel
theorem dX4_multiplyBy_11 : decode cX4_multiplyBy 11 = .ok (.ifCond .eq 10, 3) := by decide +kernel
theorem dX4_multiplyBy_14 : decode cX4_multiplyBy 14 = .ok (.aload_n 0, 1) := by decide +kernel
theorem dX4_multiplyBy_15 : decode cX4_multiplyBy 15 = .ok (.getfield 15, 3) := by decide +kernel
theorem dX4_multiplyBy_18 : decode cX4_multiplyBy 18 = .ok (.goto 12, 3) := by decide +kernel
theorem dX4_multiplyBy_21 : decode cX4_multiplyBy 21 = .ok (.aload_n 0, 1) := by decide +kernel
theorem dX4_multiplyBy_22 : decode cX4_multiplyBy 22 = .ok (.getfield 15, 3) := by decide +kernel
theorem dX4_multiplyBy_25 : decode cX4_multiplyBy 25 = .ok (.aload_n 1, 1) := by decide +kernel
theorem dX4_multiplyBy_26 : decode cX4_multiplyBy 26 = .ok (.getfield 15, 3) := by decide +kernel
theorem dX4_multiplyBy_29 : decode cX4_multiplyBy 29 = .ok (.iadd, 1) := by decide +kernel
theorem dX4_multiplyBy_30 : decode cX4_multiplyBy 30 = .ok (.istore_n 2, 1) := by decide +kernel
theorem dX4_multiplyBy_31 : decode cX4_multiplyBy 31 = .ok (.iload_n 2, 1) := by decide +kernel
theorem dX4_multiplyBy_32 : decode cX4_multiplyBy 32 = .ok (.aload_n 0, 1) := by decide +kernel
theorem dX4_multiplyBy_33 : decode cX4_multiplyBy 33 = .ok (.getfield 11, 3) := by decide +kernel
theorem dX4_multiplyBy_36 : decode cX4_multiplyBy 36 = .ok (.arraylength, 1) := by decide +kernel
theorem dX4_multiplyBy_37 : decode cX4_multiplyBy 37 = .ok (.iconst 1, 1) := by decide +kernel
theorem dX4_multiplyBy_38 : decode cX4_multiplyBy 38 = .ok (.isub, 1) := by decide +kernel
theorem dX4_multiplyBy_39 : decode cX4_multiplyBy 39 = .ok (.invokestatic 37, 3) := by decide +kernel
theorem dX4_multiplyBy_42 : decode cX4_multiplyBy 42 = .ok (.istore_n 3, 1) := by decide +kernel
theorem dX4_multiplyBy_43 : decode cX4_multiplyBy 43 = .ok (.iload_n 3, 1) := by decide +kernel
theorem dX4_multiplyBy_44 : decode cX4_multiplyBy 44 = .ok (.ifCond .lt 68, 3) := by decide +kernel
theorem dX4_multiplyBy_47 : decode cX4_multiplyBy 47 = .ok (.iconst 0, 1) := by decide +kernel
theorem dX4_multiplyBy_48 : decode cX4_multiplyBy 48 = .ok (.istore 4, 2) := by decide +kernel
theorem dX4_multiplyBy_50 : decode cX4_multiplyBy 50 = .ok (.iconst 0, 1) := by decide +kernel
theorem dX4_multiplyBy_51 : decode cX4_multiplyBy 51 = .ok (.istore 5, 2) := by decide +kernel
theorem dX4_multiplyBy_53 : decode cX4_multiplyBy 53 = .ok (.iload 5, 2) := by decide +kernel
theorem dX4_multiplyBy_55 : decode cX4_multiplyBy 55 = .ok (.aload_n 1, 1) := by decide +kernel
theorem dX4_multiplyBy_56 : decode cX4_multiplyBy 56 = .ok (.getfield 15, 3) := by decide +kernel
theorem dX4_multiplyBy_59 : decode cX4_multiplyBy 59 = .ok (.if_icmp .gt 39, 3) := by decide +kernel
theorem dX4_multiplyBy_62 : decode cX4_multiplyBy 62 = .ok (.iload 5, 2) := by decide +kernel
theorem dX4_multiplyBy_64 : decode cX4_multiplyBy 64 = .ok (.iload_n 3, 1) := by decide +kernel
theorem dX4_multiplyBy_65 : decode cX4_multiplyBy 65 = .ok (.if_icmp .gt 33, 3) := by decide +kernel
theorem dX4_multiplyBy_68 : decode cX4_multiplyBy 68 = .ok (.iload 4, 2) := by decide +kernel
theorem dX4_multiplyBy_70 : decode cX4_multiplyBy 70 = .ok (.aload_n 0, 1) := by decide +kernel
theorem dX4_multiplyBy_71 : decode cX4_multiplyBy 71 = .ok (.iload_n 3, 1) := by decide +kernel
theorem dX4_multiplyBy_72 : decode cX4_multiplyBy 72 = .ok (.iload 5, 2) := by decide +kernel
theorem dX4_multiplyBy_74 : decode cX4_multiplyBy 74 = .ok (.isub, 1) := by decide +kernel
theorem dX4_multiplyBy_75 : decode cX4_multiplyBy 75 = .ok (.invokevirtual 19, 3) := by decide +kernel
theorem dX4_multiplyBy_78 : decode cX4_multiplyBy 78 = .ok (.aload_n 1, 1) := by decide +kernel
theorem dX4_multiplyBy_79 : decode cX4_multiplyBy 79 = .ok (.iload 5, 2) := by decide +kernel
theorem dX4_multiplyBy_81 : decode cX4_multiplyBy 81 = .ok (.invokevirtual 19, 3) := by decide +kernel
theorem dX4_multiplyBy_84 : decode cX4_multiplyBy 84 = .ok (.imul, 1) := by decide +kernel
theorem dX4_multiplyBy_85 : decode cX4_multiplyBy 85 = .ok (.iadd, 1) := by decide +kernel
theorem dX4_multiplyBy_86 : decode cX4_multiplyBy 86 = .ok (.sipush 32003, 3) := by decide +kernel
theorem dX4_multiplyBy_89 : decode cX4_multiplyBy 89 = .ok (.irem, 1) := by decide +kernel
theorem dX4_multiplyBy_90 : decode cX4_multiplyBy 90 = .ok (.istore 4, 2) := by decide +kernel
theorem dX4_multiplyBy_92 : decode cX4_multiplyBy 92 = .ok (.iinc 5 1, 3) := by decide +kernel
theorem dX4_multiplyBy_95 : decode cX4_multiplyBy 95 = .ok (.goto (-42), 3) := by decide +kernel
theorem dX4_multiplyBy_98 : decode cX4_multiplyBy 98 = .ok (.aload_n 0, 1) := by decide +kernel
theorem dX4_multiplyBy_99 : decode cX4_multiplyBy 99 = .ok (.getfield 11, 3) := by decide +kernel
theorem dX4_multiplyBy_102 : decode cX4_multiplyBy 102 = .ok (.iload_n 3, 1) := by decide +kernel
theorem dX4_multiplyBy_103 : decode cX4_multiplyBy 103 = .ok (.iload 4, 2) := by decide +kernel
theorem dX4_multiplyBy_105 : decode cX4_multiplyBy 105 = .ok (.iastore, 1) := by decide +kernel
theorem dX4_multiplyBy_106 : decode cX4_multiplyBy 106 = .ok (.iinc 3 (-1), 3) := by decide +kernel
theorem dX4_multiplyBy_109 : decode cX4_multiplyBy 109 = .ok (.goto (-66), 3) := by decide +kernel
theorem dX4_multiplyBy_112 : decode cX4_multiplyBy 112 = .ok (.aload_n 0, 1) := by decide +kernel
theorem dX4_multiplyBy_113 : decode cX4_multiplyBy 113 = .ok (.iload_n 2, 1) := by decide +kernel
theorem dX4_multiplyBy_114 : decode cX4_multiplyBy 114 = .ok (.invokevirtual 29, 3) := by decide +kernel
theorem dX4_multiplyBy_117 : decode cX4_multiplyBy 117 = .ok (.return_, 1) := by decide +kernel
theorem dX4_moveBy_0 : decode cX4_moveBy 0 = .ok (.iconst 0, 1) := by decide +kernel
theorem dX4_moveBy_1 : decode cX4_moveBy 1 = .ok (.istore_n 2, 1) := by decide +kernel
theorem dX4_moveBy_2 : decode cX4_moveBy 2 = .ok (.iload_n 2, 1) := by decide +kernel
theorem dX4_moveBy_3 : decode cX4_moveBy 3 = .ok (.aload_n 0, 1) := by decide +kernel
theorem dX4_moveBy_4 : decode cX4_moveBy 4 = .ok (.getfield 15, 3) := by decide +kernel
theorem dX4_moveBy_7 : decode cX4_moveBy 7 = .ok (.if_icmp .ge 63, 3) := by decide +kernel
theorem dX4_moveBy_10 : decode cX4_moveBy 10 = .ok (.aload_n 0, 1) := by decide +kernel
theorem dX4_moveBy_11 : decode cX4_moveBy 11 = .ok (.getfield 15, 3) := by decide +kernel
theorem dX4_moveBy_14 : decode cX4_moveBy 14 = .ok (.aload_n 0, 1) := by decide +kernel
theorem dX4_moveBy_15 : decode cX4_moveBy 15 = .ok (.getfield 11, 3) := by decide +kernel
theorem dX4_moveBy_18 : decode cX4_moveBy 18 = .ok (.arraylength, 1) := by decide +kernel
theorem dX4_moveBy_19 : decode cX4_moveBy 19 = .ok (.iconst 1, 1) := by decide +kernel
theorem dX4_moveBy_20 : decode cX4_moveBy 20 = .ok (.isub, 1) := by decide +kernel
theorem dX4_moveBy_21 : decode cX4_moveBy 21 = .ok (.invokestatic 37, 3) := by decide +kernel
theorem dX4_moveBy_24 : decode cX4_moveBy 24 = .ok (.iconst 1, 1) := by decide +kernel
theorem dX4_moveBy_25 : decode cX4_moveBy 25 = .ok (.isub, 1) := by decide +kernel
theorem dX4_moveBy_26 : decode cX4_moveBy 26 = .ok (.istore_n 3, 1) := by decide +kernel
theorem dX4_moveBy_27 : decode cX4_moveBy 27 = .ok (.iload_n 3, 1) := by decide +kernel
theorem dX4_moveBy_28 : decode cX4_moveBy 28 = .ok (.iload_n 2, 1) := by decide +kernel
theorem dX4_moveBy_29 : decode cX4_moveBy 29 = .ok (.if_icmp .lt 35, 3) := by decide +kernel
theorem dX4_moveBy_32 : decode cX4_moveBy 32 = .ok (.aload_n 0, 1) := by decide +kernel
theorem dX4_moveBy_33 : decode cX4_moveBy 33 = .ok (.getfield 11, 3) := by decide +kernel
theorem dX4_moveBy_36 : decode cX4_moveBy 36 = .ok (.iload_n 3, 1) := by decide +kernel
theorem dX4_moveBy_37 : decode cX4_moveBy 37 = .ok (.aload_n 0, 1) := by decide +kernel
theorem dX4_moveBy_38 : decode cX4_moveBy 38 = .ok (.getfield 11, 3) := by decide +kernel
theorem dX4_moveBy_41 : decode cX4_moveBy 41 = .ok (.iload_n 3, 1) := by decide +kernel
theorem dX4_moveBy_42 : decode cX4_moveBy 42 = .ok (.iaload, 1) := by decide +kernel
theorem dX4_moveBy_43 : decode cX4_moveBy 43 = .ok (.iload_n 1, 1) := by decide +kernel
theorem dX4_moveBy_44 : decode cX4_moveBy 44 = .ok (.aload_n 0, 1) := by decide +kernel
theorem dX4_moveBy_45 : decode cX4_moveBy 45 = .ok (.iload_n 3, 1) := by decide +kernel
theorem dX4_moveBy_46 : decode cX4_moveBy 46 = .ok (.iconst 1, 1) := by decide +kernel
theorem dX4_moveBy_47 : decode cX4_moveBy 47 = .ok (.iadd, 1) := by decide +kernel
theorem dX4_moveBy_48 : decode cX4_moveBy 48 = .ok (.invokevirtual 19, 3) := by decide +kernel
theorem dX4_moveBy_51 : decode cX4_moveBy 51 = .ok (.imul, 1) := by decide +kernel
theorem dX4_moveBy_52 : decode cX4_moveBy 52 = .ok (.iadd, 1) := by decide +kernel
theorem dX4_moveBy_53 : decode cX4_moveBy 53 = .ok (.sipush 32003, 3) := by decide +kernel
theorem dX4_moveBy_56 : decode cX4_moveBy 56 = .ok (.irem, 1) := by decide +kernel
theorem dX4_moveBy_57 : decode cX4_moveBy 57 = .ok (.iastore, 1) := by decide +kernel
theorem dX4_moveBy_58 : decode cX4_moveBy 58 = .ok (.iinc 3 (-1), 3) := by decide +kernel
theorem dX4_moveBy_61 : decode cX4_moveBy 61 = .ok (.goto (-34), 3) := by decide +kernel
theorem dX4_moveBy_64 : decode cX4_moveBy 64 = .ok (.iinc 2 1, 3) := by decide +kernel
theorem dX4_moveBy_67 : decode cX4_moveBy 67 = .ok (.goto (-65), 3) := by decide +kernel
theorem dX4_moveBy_70 : decode cX4_moveBy 70 = .ok (.return_, 1) := by decide +kernel
theorem dX4_divideBy_0 : decode cX4_divideBy 0 = .ok (.aload_n 2, 1) := by decide +kernel
theorem dX4_divideBy_1 : decode cX4_divideBy 1 = .ok (.iconst 0, 1) := by decide +kernel
theorem dX4_divideBy_2 : decode cX4_divideBy 2 = .ok (.invokevirtual 40, 3) := by decide +kernel
theorem dX4_divideBy_5 : decode cX4_divideBy 5 = .ok (.aload_n 1, 1) := by decide +kernel
theorem dX4_divideBy_6 : decode cX4_divideBy 6 = .ok (.invokevirtual 33, 3) := by decide +kernel
theorem dX4_divideBy_9 : decode cX4_divideBy 9 = .ok (.ifCond .eq 4, 3) := by decide +kernel
theorem dX4_divideBy_12 : decode cX4_divideBy 12 = .ok (.return_, 1) := by decide +kernel
theorem dX4_divideBy_13 : decode cX4_divideBy 13 = .ok (.aload_n 1, 1) := by decide +kernel
theorem dX4_divideBy_14 : decode cX4_divideBy 14 = .ok (.invokevirtual 43, 3) := by decide +kernel
theorem dX4_divideBy_17 : decode cX4_divideBy 17 = .ok (.invokestatic 47, 3) := by decide +kernel
theorem dX4_divideBy_20 : decode cX4_divideBy 20 = .ok (.istore_n 3, 1) := by decide +kernel
theorem dX4_divideBy_21 : decode cX4_divideBy 21 = .ok (.aload_n 0, 1) := by decide +kernel
theorem dX4_divideBy_22 : decode cX4_divideBy 22 = .ok (.getfield 15, 3) := by decide +kernel
theorem dX4_divideBy_25 : decode cX4_divideBy 25 = .ok (.istore 4, 2) := by decide +kernel
theorem dX4_divideBy_27 : decode cX4_divideBy 27 = .ok (.iload 4, 2) := by decide +kernel
theorem dX4_divideBy_29 : decode cX4_divideBy 29 = .ok (.aload_n 1, 1) := by decide +kernel
theorem dX4_divideBy_30 : decode cX4_divideBy 30 = .ok (.getfield 15, 3) := by decide +kernel
theorem dX4_divideBy_33 : decode cX4_divideBy 33 = .ok (.if_icmp .lt 57, 3) := by decide +kernel
theorem dX4_divideBy_36 : decode cX4_divideBy 36 = .ok (.aload_n 0, 1) := by decide +kernel
theorem dX4_divideBy_37 : decode cX4_divideBy 37 = .ok (.iload 4, 2) := by decide +kernel
theorem dX4_divideBy_39 : decode cX4_divideBy 39 = .ok (.invokevirtual 19, 3) := by decide +kernel
theorem dX4_divideBy_42 : decode cX4_divideBy 42 = .ok (.iload_n 3, 1) := by decide +kernel
theorem dX4_divideBy_43 : decode cX4_divideBy 43 = .ok (.imul, 1) := by decide +kernel
theorem dX4_divideBy_44 : decode cX4_divideBy 44 = .ok (.sipush 32003, 3) := by decide +kernel
theorem dX4_divideBy_47 : decode cX4_divideBy 47 = .ok (.irem, 1) := by decide +kernel
theorem dX4_divideBy_48 : decode cX4_divideBy 48 = .ok (.istore 5, 2) := by decide +kernel
theorem dX4_divideBy_50 : decode cX4_divideBy 50 = .ok (.iload 5, 2) := by decide +kernel
theorem dX4_divideBy_52 : decode cX4_divideBy 52 = .ok (.ifCond .eq 32, 3) := by decide +kernel
theorem dX4_divideBy_55 : decode cX4_divideBy 55 = .ok (.iload 4, 2) := by decide +kernel
theorem dX4_divideBy_57 : decode cX4_divideBy 57 = .ok (.aload_n 1, 1) := by decide +kernel
theorem dX4_divideBy_58 : decode cX4_divideBy 58 = .ok (.getfield 15, 3) := by decide +kernel
theorem dX4_divideBy_61 : decode cX4_divideBy 61 = .ok (.isub, 1) := by decide +kernel
theorem dX4_divideBy_62 : decode cX4_divideBy 62 = .ok (.istore 6, 2) := by decide +kernel
theorem dX4_divideBy_64 : decode cX4_divideBy 64 = .ok (.aload_n 2, 1) := by decide +kernel
theorem dX4_divideBy_65 : decode cX4_divideBy 65 = .ok (.iload 6, 2) := by decide +kernel
theorem dX4_divideBy_67 : decode cX4_divideBy 67 = .ok (.iload 5, 2) := by decide +kernel
theorem dX4_divideBy_69 : decode cX4_divideBy 69 = .ok (.invokevirtual 50, 3) := by decide +kernel
theorem dX4_divideBy_72 : decode cX4_divideBy 72 = .ok (.aload_n 0, 1) := by decide +kernel
theorem dX4_divideBy_73 : decode cX4_divideBy 73 = .ok (.iload 5, 2) := by decide +kernel
theorem dX4_divideBy_75 : decode cX4_divideBy 75 = .ok (.invokestatic 54, 3) := by decide +kernel
theorem dX4_divideBy_78 : decode cX4_divideBy 78 = .ok (.aload_n 1, 1) := by decide +kernel
theorem dX4_divideBy_79 : decode cX4_divideBy 79 = .ok (.iload 6, 2) := by decide +kernel
theorem dX4_divideBy_81 : decode cX4_divideBy 81 = .ok (.invokevirtual 57, 3) := by decide +kernel
theorem dX4_divideBy_84 : decode cX4_divideBy 84 = .ok (.iinc 4 (-1), 3) := by decide +kernel
theorem dX4_divideBy_87 : decode cX4_divideBy 87 = .ok (.goto (-60), 3) := by decide +kernel
theorem dX4_divideBy_90 : decode cX4_divideBy 90 = .ok (.return_, 1) := by decide +kernel
theorem dX4_valueAt_0 : decode cX4_valueAt 0 = .ok (.iconst 0, 1) := by decide +kernel
theorem dX4_valueAt_1 : decode cX4_valueAt 1 = .ok (.istore_n 2, 1) := by decide +kernel
theorem dX4_valueAt_2 : decode cX4_valueAt 2 = .ok (.aload_n 0, 1) := by decide +kernel
theorem dX4_valueAt_3 : decode cX4_valueAt 3 = .ok (.getfield 15, 3) := by decide +kernel
theorem dX4_valueAt_6 : decode cX4_valueAt 6 = .ok (.istore_n 3, 1) := by decide +kernel
theorem dX4_valueAt_7 : decode cX4_valueAt 7 = .ok (.iload_n 3, 1) := by decide +kernel
theorem dX4_valueAt_8 : decode cX4_valueAt 8 = .ok (.ifCond .lt 23, 3) := by decide +kernel
theorem dX4_valueAt_11 : decode cX4_valueAt 11 = .ok (.iload_n 2, 1) := by decide +kernel
theorem dX4_valueAt_12 : decode cX4_valueAt 12 = .ok (.iload_n 1, 1) := by decide +kernel
theorem dX4_valueAt_13 : decode cX4_valueAt 13 = .ok (.imul, 1) := by decide +kernel
theorem dX4_valueAt_14 : decode cX4_valueAt 14 = .ok (.aload_n 0, 1) := by decide +kernel
theorem dX4_valueAt_15 : decode cX4_valueAt 15 = .ok (.iload_n 3, 1) := by decide +kernel
theorem dX4_valueAt_16 : decode cX4_valueAt 16 = .ok (.invokevirtual 19, 3) := by decide +kernel
theorem dX4_valueAt_19 : decode cX4_valueAt 19 = .ok (.iadd, 1) := by decide +kernel
theorem dX4_valueAt_20 : decode cX4_valueAt 20 = .ok (.sipush 32003, 3) := by decide +kernel
theorem dX4_valueAt_23 : decode cX4_valueAt 23 = .ok (.irem, 1) := by decide +kernel
theorem dX4_valueAt_24 : decode cX4_valueAt 24 = .ok (.istore_n 2, 1) := by decide +kernel
theorem dX4_valueAt_25 : decode cX4_valueAt 25 = .ok (.iinc 3 (-1), 3) := by decide +kernel
theorem dX4_valueAt_28 : decode cX4_valueAt 28 = .ok (.goto (-21), 3) := by decide +kernel
theorem dX4_valueAt_31 : decode cX4_valueAt 31 = .ok (.iload_n 2, 1) := by decide +kernel
theorem dX4_valueAt_32 : decode cX4_valueAt 32 = .ok (.ireturn, 1) := by decide +kernel
theorem dX4_settle_0 : decode cX4_settle 0 = .ok (.iload_n 1, 1) := by decide +kernel
theorem dX4_settle_1 : decode cX4_settle 1 = .ok (.aload_n 0, 1) := by decide +kernel
theorem dX4_settle_2 : decode cX4_settle 2 = .ok (.getfield 11, 3) := by decide +kernel
theorem dX4_settle_5 : decode cX4_settle 5 = .ok (.arraylength, 1) := by decide +kernel
theorem dX4_settle_6 : decode cX4_settle 6 = .ok (.if_icmp .ge 7, 3) := by decide +kernel
theorem dX4_settle_9 : decode cX4_settle 9 = .ok (.iload_n 1, 1) := by decide +kernel
theorem dX4_settle_10 : decode cX4_settle 10 = .ok (.goto 10, 3) := by decide +kernel
theorem dX4_settle_13 : decode cX4_settle 13 = .ok (.aload_n 0, 1) := by decide +kernel
theorem dX4_settle_14 : decode cX4_settle 14 = .ok (.getfield 11, 3) := by decide +kernel
theorem dX4_settle_17 : decode cX4_settle 17 = .ok (.arraylength, 1) := by decide +kernel
theorem dX4_settle_18 : decode cX4_settle 18 = .ok (.iconst 1, 1) := by decide +kernel
theorem dX4_settle_19 : decode cX4_settle 19 = .ok (.isub, 1) := by decide +kernel
theorem dX4_settle_20 : decode cX4_settle 20 = .ok (.istore_n 2, 1) := by decide +kernel
theorem dX4_settle_21 : decode cX4_settle 21 = .ok (.iload_n 2, 1) := by decide +kernel
theorem dX4_settle_22 : decode cX4_settle 22 = .ok (.ifCond .lt 18, 3) := by decide +kernel
theorem dX4_settle_25 : decode cX4_settle 25 = .ok (.aload_n 0, 1) := by decide +kernel
theorem dX4_settle_26 : decode cX4_settle 26 = .ok (.getfield 11, 3) := by decide +kernel
theorem dX4_settle_29 : decode cX4_settle 29 = .ok (.iload_n 2, 1) := by decide +kernel
theorem dX4_settle_30 : decode cX4_settle 30 = .ok (.iaload, 1) := by decide +kernel
theorem dX4_settle_31 : decode cX4_settle 31 = .ok (.ifCond .ne 9, 3) := by decide +kernel
theorem dX4_settle_34 : decode cX4_settle 34 = .ok (.iinc 2 (-1), 3) := by decide +kernel
theorem dX4_settle_37 : decode cX4_settle 37 = .ok (.goto (-16), 3) := by decide +kernel
theorem dX4_settle_40 : decode cX4_settle 40 = .ok (.aload_n 0, 1) := by decide +kernel
theorem dX4_settle_41 : decode cX4_settle 41 = .ok (.iload_n 2, 1) := by decide +kernel
theorem dX4_settle_42 : decode cX4_settle 42 = .ok (.putfield 15, 3) := by decide +kernel
theorem dX4_settle_45 : decode cX4_settle 45 = .ok (.return_, 1) := by decide +kernel
set_option maxRecDepth 20000 in
theorem ggX4_leading_X4_number : GoodIn wsX4_leading wsX4_number := goodIn_r _ [6, 7, 8, 9] (by decide +kernel) (by decide +kernel)
set_option maxRecDepth 20000 in
theorem gX4_leading_X4_number : GoodIn wsX4_leading (wsV RX4 19 RX4 yX4_number wsX4_number) := goodIn_app (goodIn_of _ (by decide +kernel)) ggX4_leading_X4_number
set_option maxRecDepth 20000 in
theorem ggX4_setNumber_X4_settle : GoodIn wsX4_setNumber wsX4_settle := goodIn_r _ [11, 1, 2, 12, 13] (by decide +kernel) (by decide +kernel)
set_option maxRecDepth 20000 in
theorem gX4_setNumber_X4_settle : GoodIn wsX4_setNumber (wsV RX4 29 RX4 yX4_settle wsX4_settle) := goodIn_app (goodIn_of _ (by decide +kernel)) ggX4_setNumber_X4_settle
set_option maxRecDepth 20000 in
theorem ggX4_copyFrom_X4_number : GoodIn wsX4_copyFrom wsX4_number := goodIn_r _ [7, 1, 8, 9] (by decide +kernel) (by decide +kernel)
set_option maxRecDepth 20000 in
theorem gX4_copyFrom_X4_number : GoodIn wsX4_copyFrom (wsV RX4 19 RX4 yX4_number wsX4_number) := goodIn_app (goodIn_of _ (by decide +kernel)) ggX4_copyFrom_X4_number
set_option maxRecDepth 20000 in
theorem ggX4_scaleBy_X4_settle : GoodIn wsX4_scaleBy wsX4_settle := goodIn_r _ [7, 1, 2, 8, 9] (by decide +kernel) (by decide +kernel)
set_option maxRecDepth 20000 in
theorem gX4_scaleBy_X4_settle : GoodIn wsX4_scaleBy (wsV RX4 29 RX4 yX4_settle wsX4_settle) := goodIn_app (goodIn_of _ (by decide +kernel)) ggX4_scaleBy_X4_settle
set_option maxRecDepth 20000 in
theorem ggX4_addMultiple_X4_number : GoodIn wsX4_addMultiple wsX4_number := goodIn_r _ [11, 6, 16, 17] (by decide +kernel) (by decide +kernel)
set_option maxRecDepth 20000 in
theorem gX4_addMultiple_X4_number : GoodIn wsX4_addMultiple (wsV RX4 19 RX4 yX4_number wsX4_number) := goodIn_app (goodIn_of _ (by decide +kernel)) ggX4_addMultiple_X4_number
set_option maxRecDepth 20000 in
theorem ggX4_addMultiple_X4_settle : GoodIn wsX4_addMultiple wsX4_settle := goodIn_r _ [15, 6, 1, 16, 17] (by decide +kernel) (by decide +kernel)
set_option maxRecDepth 20000 in
theorem gX4_addMultiple_X4_settle : GoodIn wsX4_addMultiple (wsV RX4 29 RX4 yX4_settle wsX4_settle) := goodIn_app (goodIn_of _ (by decide +kernel)) ggX4_addMultiple_X4_settle
set_option maxRecDepth 20000 in
theorem ggX4_multiplyBy_X4_isZero : GoodIn wsX4_multiplyBy wsX4_isZero := goodIn_r _ [11, 1, 20, 21] (by decide +kernel) (by decide +kernel)
set_option maxRecDepth 20000 in
theorem gX4_multiplyBy_X4_isZero : GoodIn wsX4_multiplyBy (wsV RX4 33 RX4 yX4_isZero wsX4_isZero) := goodIn_app (goodIn_of _ (by decide +kernel)) ggX4_multiplyBy_X4_isZero
set_option maxRecDepth 20000 in
theorem ggX4_multiplyBy_X4_number : GoodIn wsX4_multiplyBy wsX4_number := goodIn_r _ [15, 2, 20, 21] (by decide +kernel) (by decide +kernel)
set_option maxRecDepth 20000 in
theorem gX4_multiplyBy_X4_number : GoodIn wsX4_multiplyBy (wsV RX4 19 RX4 yX4_number wsX4_number) := goodIn_app (goodIn_of _ (by decide +kernel)) ggX4_multiplyBy_X4_number
set_option maxRecDepth 20000 in
theorem ggX4_multiplyBy_X4_settle : GoodIn wsX4_multiplyBy wsX4_settle := goodIn_r _ [19, 2, 1, 20, 21] (by decide +kernel) (by decide +kernel)
set_option maxRecDepth 20000 in
theorem gX4_multiplyBy_X4_settle : GoodIn wsX4_multiplyBy (wsV RX4 29 RX4 yX4_settle wsX4_settle) := goodIn_app (goodIn_of _ (by decide +kernel)) ggX4_multiplyBy_X4_settle
set_option maxRecDepth 20000 in
theorem ggX4_moveBy_X4_number : GoodIn wsX4_moveBy wsX4_number := goodIn_r _ [11, 2, 12, 13] (by decide +kernel) (by decide +kernel)
set_option maxRecDepth 20000 in
theorem gX4_moveBy_X4_number : GoodIn wsX4_moveBy (wsV RX4 19 RX4 yX4_number wsX4_number) := goodIn_app (goodIn_of _ (by decide +kernel)) ggX4_moveBy_X4_number
set_option maxRecDepth 20000 in
theorem ggX4_divideBy_X4_becomeNumber : GoodIn wsX4_divideBy wsX4_becomeNumber := goodIn_r _ [6, 7, 1, 41, 42] (by decide +kernel) (by decide +kernel)
set_option maxRecDepth 20000 in
theorem gX4_divideBy_X4_becomeNumber : GoodIn wsX4_divideBy (wsV RX4 40 RX4 yX4_becomeNumber wsX4_becomeNumber) := goodIn_app (goodIn_of _ (by decide +kernel)) ggX4_divideBy_X4_becomeNumber
set_option maxRecDepth 20000 in
theorem ggX4_divideBy_X4_isZero : GoodIn wsX4_divideBy wsX4_isZero := goodIn_r _ [11, 1, 41, 42] (by decide +kernel) (by decide +kernel)
set_option maxRecDepth 20000 in
theorem gX4_divideBy_X4_isZero : GoodIn wsX4_divideBy (wsV RX4 33 RX4 yX4_isZero wsX4_isZero) := goodIn_app (goodIn_of _ (by decide +kernel)) ggX4_divideBy_X4_isZero
set_option maxRecDepth 20000 in
theorem ggX4_divideBy_X4_leading : GoodIn wsX4_divideBy wsX4_leading := goodIn_r _ [15, 1, 16, 17, 18, 5, 19, 7, 41, 42] (by decide +kernel) (by decide +kernel)
set_option maxRecDepth 20000 in
theorem gX4_divideBy_X4_leading : GoodIn wsX4_divideBy (wsV RX4 43 RX4 yX4_leading wsX4_leading) := goodIn_app (goodIn_of _ (by decide +kernel)) ggX4_divideBy_X4_leading
set_option maxRecDepth 20000 in
theorem ggX4_divideBy_X7_inverse : GoodIn wsX4_divideBy wsX7_inverse := goodIn_r _ [22] (by decide +kernel) (by decide +kernel)
set_option maxRecDepth 20000 in
theorem gX4_divideBy_X7_inverse_n47 : GoodIn wsX4_divideBy (wsX7_inverse) := ggX4_divideBy_X7_inverse
set_option maxRecDepth 20000 in
theorem ggX4_divideBy_X4_number : GoodIn wsX4_divideBy wsX4_number := goodIn_r _ [19, 7, 41, 42] (by decide +kernel) (by decide +kernel)
set_option maxRecDepth 20000 in
theorem gX4_divideBy_X4_number : GoodIn wsX4_divideBy (wsV RX4 19 RX4 yX4_number wsX4_number) := goodIn_app (goodIn_of _ (by decide +kernel)) ggX4_divideBy_X4_number
set_option maxRecDepth 20000 in
theorem ggX4_divideBy_X4_setNumber : GoodIn wsX4_divideBy wsX4_setNumber := goodIn_r _ [26, 7, 1, 27, 28, 29, 30, 31, 32, 33, 5, 34, 41, 42] (by decide +kernel) (by decide +kernel)
set_option maxRecDepth 20000 in
theorem gX4_divideBy_X4_setNumber : GoodIn wsX4_divideBy (wsV RX4 50 RX4 yX4_setNumber wsX4_setNumber) := goodIn_app (goodIn_of _ (by decide +kernel)) ggX4_divideBy_X4_setNumber
set_option maxRecDepth 20000 in
theorem ggX4_divideBy_X7_negative : GoodIn wsX4_divideBy wsX7_negative := goodIn_r _ [36] (by decide +kernel) (by decide +kernel)
set_option maxRecDepth 20000 in
theorem gX4_divideBy_X7_negative_n54 : GoodIn wsX4_divideBy (wsX7_negative) := ggX4_divideBy_X7_negative
set_option maxRecDepth 20000 in
theorem ggX4_divideBy_X4_addMultiple : GoodIn wsX4_divideBy wsX4_addMultiple := goodIn_r _ [40, 1, 27, 28, 29, 30, 7, 16, 17, 18, 5, 19, 31, 32, 33, 34, 41, 42] (by decide +kernel) (by decide +kernel)
set_option maxRecDepth 20000 in
theorem gX4_divideBy_X4_addMultiple : GoodIn wsX4_divideBy (wsV RX4 57 RX4 yX4_addMultiple wsX4_addMultiple) := goodIn_app (goodIn_of _ (by decide +kernel)) ggX4_divideBy_X4_addMultiple
set_option maxRecDepth 20000 in
theorem ggX4_valueAt_X4_number : GoodIn wsX4_valueAt wsX4_number := goodIn_r _ [6, 7, 8, 9] (by decide +kernel) (by decide +kernel)
set_option maxRecDepth 20000 in
theorem gX4_valueAt_X4_number : GoodIn wsX4_valueAt (wsV RX4 19 RX4 yX4_number wsX4_number) := goodIn_app (goodIn_of _ (by decide +kernel)) ggX4_valueAt_X4_number
