theorem dX8_init_0 : decode cX8_init 0 = .ok (.aload_n 0, 1) := by decide +kernel
theorem dX8_init_1 : decode cX8_init 1 = .ok (.invokespecial 1, 3) := by decide +kernel
theorem dX8_init_4 : decode cX8_init 4 = .ok (.aload_n 0, 1) := by decide +kernel
theorem dX8_init_5 : decode cX8_init 5 = .ok (.bipush 64, 2) := by decide +kernel
theorem dX8_init_7 : decode cX8_init 7 = .ok (.newarray .long, 2) := by decide +kernel
theorem dX8_init_9 : decode cX8_init 9 = .ok (.putfield 7, 3) := by decide +kernel
theorem dX8_init_12 : decode cX8_init 12 = .ok (.aload_n 0, 1) := by decide +kernel
theorem dX8_init_13 : decode cX8_init 13 = .ok (.bipush 64, 2) := by decide +kernel
theorem dX8_init_15 : decode cX8_init 15 = .ok (.newarray .long, 2) := by decide +kernel
theorem dX8_init_17 : decode cX8_init 17 = .ok (.putfield 13, 3) := by decide +kernel
theorem dX8_init_20 : decode cX8_init 20 = .ok (.aload_n 0, 1) := by decide +kernel
theorem dX8_init_21 : decode cX8_init 21 = .ok (.bipush 64, 2) := by decide +kernel
theorem dX8_init_23 : decode cX8_init 23 = .ok (.newarray .long, 2) := by decide +kernel
theorem dX8_init_25 : decode cX8_init 25 = .ok (.putfield 16, 3) := by decide +kernel
theorem dX8_init_28 : decode cX8_init 28 = .ok (.aload_n 0, 1) := by decide +kernel
theorem dX8_init_29 : decode cX8_init 29 = .ok (.bipush 64, 2) := by decide +kernel
theorem dX8_init_31 : decode cX8_init 31 = .ok (.newarray .long, 2) := by decide +kernel
theorem dX8_init_33 : decode cX8_init 33 = .ok (.putfield 19, 3) := by decide +kernel
theorem dX8_init_36 : decode cX8_init 36 = .ok (.aload_n 0, 1) := by decide +kernel
theorem dX8_init_37 : decode cX8_init 37 = .ok (.bipush 64, 2) := by decide +kernel
theorem dX8_init_39 : decode cX8_init 39 = .ok (.newarray .long, 2) := by decide +kernel
theorem dX8_init_41 : decode cX8_init 41 = .ok (.putfield 22, 3) := by decide +kernel
theorem dX8_init_44 : decode cX8_init 44 = .ok (.aload_n 0, 1) := by decide +kernel
theorem dX8_init_45 : decode cX8_init 45 = .ok (.bipush 9, 2) := by decide +kernel
theorem dX8_init_47 : decode cX8_init 47 = .ok (.newarray .int, 2) := by decide +kernel
theorem dX8_init_49 : decode cX8_init 49 = .ok (.putfield 25, 3) := by decide +kernel
theorem dX8_init_52 : decode cX8_init 52 = .ok (.aload_n 0, 1) := by decide +kernel
theorem dX8_init_53 : decode cX8_init 53 = .ok (.bipush 64, 2) := by decide +kernel
theorem dX8_init_55 : decode cX8_init 55 = .ok (.newarray .long, 2) := by decide +kernel
theorem dX8_init_57 : decode cX8_init 57 = .ok (.putfield 29, 3) := by decide +kernel
theorem dX8_init_60 : decode cX8_init 60 = .ok (.aload_n 0, 1) := by decide +kernel
theorem dX8_init_61 : decode cX8_init 61 = .ok (.bipush 64, 2) := by decide +kernel
theorem dX8_init_63 : decode cX8_init 63 = .ok (.newarray .long, 2) := by decide +kernel
theorem dX8_init_65 : decode cX8_init 65 = .ok (.putfield 32, 3) := by decide +kernel
theorem dX8_init_68 : decode cX8_init 68 = .ok (.aload_n 0, 1) := by decide +kernel
theorem dX8_init_69 : decode cX8_init 69 = .ok (.bipush 64, 2) := by decide +kernel
theorem dX8_init_71 : decode cX8_init 71 = .ok (.newarray .long, 2) := by decide +kernel
theorem dX8_init_73 : decode cX8_init 73 = .ok (.putfield 35, 3) := by decide +kernel
theorem dX8_init_76 : decode cX8_init 76 = .ok (.aload_n 0, 1) := by decide +kernel
theorem dX8_init_77 : decode cX8_init 77 = .ok (.bipush 64, 2) := by decide +kernel
theorem dX8_init_79 : decode cX8_init 79 = .ok (.newarray .long, 2) := by decide +kernel
theorem dX8_init_81 : decode cX8_init 81 = .ok (.putfield 38, 3) := by decide +kernel
theorem dX8_init_84 : decode cX8_init 84 = .ok (.aload_n 0, 1) := by decide +kernel
theorem dX8_init_85 : decode cX8_init 85 = .ok (.bipush 64, 2) := by decide +kernel
theorem dX8_init_87 : decode cX8_init 87 = .ok (.newarray .long, 2) := by decide +kernel
theorem dX8_init_89 : decode cX8_init 89 = .ok (.putfield 41, 3) := by decide +kernel
theorem dX8_init_92 : decode cX8_init 92 = .ok (.aload_n 0, 1) := by decide +kernel
theorem dX8_init_93 : decode cX8_init 93 = .ok (.bipush 64, 2) := by decide +kernel
theorem dX8_init_95 : decode cX8_init 95 = .ok (.newarray .long, 2) := by decide +kernel
theorem dX8_init_97 : decode cX8_init 97 = .ok (.putfield 44, 3) := by decide +kernel
theorem dX8_init_100 : decode cX8_init 100 = .ok (.aload_n 0, 1) := by decide +kernel
theorem dX8_init_101 : decode cX8_init 101 = .ok (.bipush 64, 2) := by decide +kernel
theorem dX8_init_103 : decode cX8_init 103 = .ok (.newarray .long, 2) := by decide +kernel
theorem dX8_init_105 : decode cX8_init 105 = .ok (.putfield 47, 3) := by decide +kernel
theorem dX8_init_108 : decode cX8_init 108 = .ok (.aload_n 0, 1) := by decide +kernel
theorem dX8_init_109 : decode cX8_init 109 = .ok (.sipush 1408, 3) := by decide +kernel
theorem dX8_init_112 : decode cX8_init 112 = .ok (.newarray .long, 2) := by decide +kernel
theorem dX8_init_114 : decode cX8_init 114 = .ok (.putfield 50, 3) := by decide +kernel
theorem dX8_init_117 : decode cX8_init 117 = .ok (.aload_n 0, 1) := by decide +kernel
theorem dX8_init_118 : decode cX8_init 118 = .ok (.bipush 21, 2) := by decide +kernel
theorem dX8_init_120 : decode cX8_init 120 = .ok (.newarray .int, 2) := by decide +kernel
theorem dX8_init_122 : decode cX8_init 122 = .ok (.putfield 53, 3) := by decide +kernel
theorem dX8_init_125 : decode cX8_init 125 = .ok (.aload_n 0, 1) := by decide +kernel
theorem dX8_init_126 : decode cX8_init 126 = .ok (.bipush 61, 2) := by decide +kernel
theorem dX8_init_128 : decode cX8_init 128 = .ok (.newarray .long, 2) := by decide +kernel
theorem dX8_init_130 : decode cX8_init 130 = .ok (.putfield 56, 3) := by decide +kernel
theorem dX8_init_133 : decode cX8_init 133 = .ok (.aload_n 0, 1) := by decide +kernel
theorem dX8_init_134 : decode cX8_init 134 = .ok (.getfield 7, 3) := by decide +kernel
theorem dX8_init_137 : decode cX8_init 137 = .ok (.iconst 0, 1) := by decide +kernel
theorem dX8_init_138 : decode cX8_init 138 = .ok (.lconst 1, 1) := by decide +kernel
theorem dX8_init_139 : decode cX8_init 139 = .ok (.lastore, 1) := by decide +kernel
theorem dX8_init_140 : decode cX8_init 140 = .ok (.aload_n 0, 1) := by decide +kernel
theorem dX8_init_141 : decode cX8_init 141 = .ok (.getfield 13, 3) := by decide +kernel
theorem dX8_init_144 : decode cX8_init 144 = .ok (.iconst 0, 1) := by decide +kernel
theorem dX8_init_145 : decode cX8_init 145 = .ok (.lconst 1, 1) := by decide +kernel
theorem dX8_init_146 : decode cX8_init 146 = .ok (.lastore, 1) := by decide +kernel
theorem dX8_init_147 : decode cX8_init 147 = .ok (.return_, 1) := by decide +kernel
theorem dX8_thrown_0 : decode cX8_thrown 0 = .ok (.aload_n 0, 1) := by decide +kernel
theorem dX8_thrown_1 : decode cX8_thrown 1 = .ok (.getfield 59, 3) := by decide +kernel
theorem dX8_thrown_4 : decode cX8_thrown 4 = .ok (.ireturn, 1) := by decide +kernel
theorem dX8_raise_0 : decode cX8_raise 0 = .ok (.aload_n 0, 1) := by decide +kernel
theorem dX8_raise_1 : decode cX8_raise 1 = .ok (.iload_n 1, 1) := by decide +kernel
theorem dX8_raise_2 : decode cX8_raise 2 = .ok (.putfield 59, 3) := by decide +kernel
theorem dX8_raise_5 : decode cX8_raise 5 = .ok (.iconst 0, 1) := by decide +kernel
theorem dX8_raise_6 : decode cX8_raise 6 = .ok (.ireturn, 1) := by decide +kernel
theorem dX8_in_0 : decode cX8_in 0 = .ok (.lload_n 0, 1) := by decide +kernel
theorem dX8_in_1 : decode cX8_in 1 = .ok (.lload_n 2, 1) := by decide +kernel
theorem dX8_in_2 : decode cX8_in 2 = .ok (.lcmp, 1) := by decide +kernel
theorem dX8_in_3 : decode cX8_in 3 = .ok (.ifCond .lt 14, 3) := by decide +kernel
theorem dX8_in_6 : decode cX8_in 6 = .ok (.lload_n 0, 1) := by decide +kernel
theorem dX8_in_7 : decode cX8_in 7 = .ok (.lload 4, 2) := by decide +kernel
theorem dX8_in_9 : decode cX8_in 9 = .ok (.lcmp, 1) := by decide +kernel
theorem dX8_in_10 : decode cX8_in 10 = .ok (.ifCond .gt 7, 3) := by decide +kernel
theorem dX8_in_13 : decode cX8_in 13 = .ok (.iconst 1, 1) := by decide +kernel
theorem dX8_in_14 : decode cX8_in 14 = .ok (.goto 4, 3) := by decide +kernel
theorem dX8_in_17 : decode cX8_in 17 = .ok (.iconst 0, 1) := by decide +kernel
theorem dX8_in_18 : decode cX8_in 18 = .ok (.ireturn, 1) := by decide +kernel
theorem dX8_modulo_0 : decode cX8_modulo 0 = .ok (.lload_n 0, 1) := by decide +kernel
theorem dX8_modulo_1 : decode cX8_modulo 1 = .ok (.ldc2_w 63, 3) := by decide +kernel
theorem dX8_modulo_4 : decode cX8_modulo 4 = .ok (.lrem, 1) := by decide +kernel
theorem dX8_modulo_5 : decode cX8_modulo 5 = .ok (.lstore_n 2, 1) := by decide +kernel
theorem dX8_modulo_6 : decode cX8_modulo 6 = .ok (.lload_n 2, 1) := by decide +kernel
theorem dX8_modulo_7 : decode cX8_modulo 7 = .ok (.lconst 0, 1) := by decide +kernel
theorem dX8_modulo_8 : decode cX8_modulo 8 = .ok (.lcmp, 1) := by decide +kernel
theorem dX8_modulo_9 : decode cX8_modulo 9 = .ok (.ifCond .ge 11, 3) := by decide +kernel
theorem dX8_modulo_12 : decode cX8_modulo 12 = .ok (.lload_n 2, 1) := by decide +kernel
theorem dX8_modulo_13 : decode cX8_modulo 13 = .ok (.ldc2_w 63, 3) := by decide +kernel
theorem dX8_modulo_16 : decode cX8_modulo 16 = .ok (.ladd, 1) := by decide +kernel
theorem dX8_modulo_17 : decode cX8_modulo 17 = .ok (.goto 4, 3) := by decide +kernel
theorem dX8_modulo_20 : decode cX8_modulo 20 = .ok (.lload_n 2, 1) := by decide +kernel
theorem dX8_modulo_21 : decode cX8_modulo 21 = .ok (.lreturn, 1) := by decide +kernel
theorem dX8_inverse_0 : decode cX8_inverse 0 = .ok (.lconst 1, 1) := by decide +kernel
theorem dX8_inverse_1 : decode cX8_inverse 1 = .ok (.lstore_n 2, 1) := by decide +kernel
theorem dX8_inverse_2 : decode cX8_inverse 2 = .ok (.lload_n 0, 1) := by decide +kernel
theorem dX8_inverse_3 : decode cX8_inverse 3 = .ok (.lstore 4, 2) := by decide +kernel
theorem dX8_inverse_5 : decode cX8_inverse 5 = .ok (.sipush 32001, 3) := by decide +kernel
theorem dX8_inverse_8 : decode cX8_inverse 8 = .ok (.istore 6, 2) := by decide +kernel
theorem dX8_inverse_10 : decode cX8_inverse 10 = .ok (.iload 6, 2) := by decide +kernel
theorem dX8_inverse_12 : decode cX8_inverse 12 = .ok (.ifCond .le 44, 3) := by decide +kernel
theorem dX8_inverse_15 : decode cX8_inverse 15 = .ok (.iload 6, 2) := by decide +kernel
theorem dX8_inverse_17 : decode cX8_inverse 17 = .ok (.iconst 2, 1) := by decide +kernel
theorem dX8_inverse_18 : decode cX8_inverse 18 = .ok (.irem, 1) := by decide +kernel
theorem dX8_inverse_19 : decode cX8_inverse 19 = .ok (.iconst 1, 1) := by decide +kernel
theorem dX8_inverse_20 : decode cX8_inverse 20 = .ok (.if_icmp .ne 14, 3) := by decide +kernel
theorem dX8_inverse_23 : decode cX8_inverse 23 = .ok (.lload_n 2, 1) := by decide +kernel
theorem dX8_inverse_24 : decode cX8_inverse 24 = .ok (.lload 4, 2) := by decide +kernel
theorem dX8_inverse_26 : decode cX8_inverse 26 = .ok (.lmul, 1) := by decide +kernel
theorem dX8_inverse_27 : decode cX8_inverse 27 = .ok (.ldc2_w 63, 3) := by decide +kernel
theorem dX8_inverse_30 : decode cX8_inverse 30 = .ok (.lrem, 1) := by decide +kernel
theorem dX8_inverse_31 : decode cX8_inverse 31 = .ok (.goto 4, 3) := by decide +kernel
theorem dX8_inverse_34 : decode cX8_inverse 34 = .ok (.lload_n 2, 1) := by decide +kernel
theorem dX8_inverse_35 : decode cX8_inverse 35 = .ok (.lstore_n 2, 1) := by decide +kernel
theorem dX8_inverse_36 : decode cX8_inverse 36 = .ok (.lload 4, 2) := by decide +kernel
theorem dX8_inverse_38 : decode cX8_inverse 38 = .ok (.lload 4, 2) := by decide +kernel
theorem dX8_inverse_40 : decode cX8_inverse 40 = .ok (.lmul, 1) := by decide +kernel
theorem dX8_inverse_41 : decode cX8_inverse 41 = .ok (.ldc2_w 63, 3) := by decide +kernel
theorem dX8_inverse_44 : decode cX8_inverse 44 = .ok (.lrem, 1) := by decide +kernel
theorem dX8_inverse_45 : decode cX8_inverse 45 = .ok (.lstore 4, 2) := by decide +kernel
theorem dX8_inverse_47 : decode cX8_inverse 47 = .ok (.iload 6, 2) := by decide +kernel
theorem dX8_inverse_49 : decode cX8_inverse 49 = .ok (.iconst 2, 1) := by decide +kernel
theorem dX8_inverse_50 : decode cX8_inverse 50 = .ok (.idiv, 1) := by decide +kernel
theorem dX8_inverse_51 : decode cX8_inverse 51 = .ok (.istore 6, 2) := by decide +kernel
theorem dX8_inverse_53 : decode cX8_inverse 53 = .ok (.goto (-43), 3) := by decide +kernel
theorem dX8_inverse_56 : decode cX8_inverse 56 = .ok (.lload_n 2, 1) := by decide +kernel
theorem dX8_inverse_57 : decode cX8_inverse 57 = .ok (.lreturn, 1) := by decide +kernel
theorem dX8_empty_0 : decode cX8_empty 0 = .ok (.iconst 0, 1) := by decide +kernel
theorem dX8_empty_1 : decode cX8_empty 1 = .ok (.istore_n 1, 1) := by decide +kernel
theorem dX8_empty_2 : decode cX8_empty 2 = .ok (.iload_n 1, 1) := by decide +kernel
theorem dX8_empty_3 : decode cX8_empty 3 = .ok (.bipush 64, 2) := by decide +kernel
theorem dX8_empty_5 : decode cX8_empty 5 = .ok (.if_icmp .ge 13, 3) := by decide +kernel
theorem dX8_empty_8 : decode cX8_empty 8 = .ok (.aload_n 0, 1) := by decide +kernel
theorem dX8_empty_9 : decode cX8_empty 9 = .ok (.iload_n 1, 1) := by decide +kernel
theorem dX8_empty_10 : decode cX8_empty 10 = .ok (.lconst 0, 1) := by decide +kernel
theorem dX8_empty_11 : decode cX8_empty 11 = .ok (.lastore, 1) := by decide +kernel
theorem dX8_empty_12 : decode cX8_empty 12 = .ok (.iinc 1 1, 3) := by decide +kernel
theorem dX8_empty_15 : decode cX8_empty 15 = .ok (.goto (-13), 3) := by decide +kernel
theorem dX8_empty_18 : decode cX8_empty 18 = .ok (.return_, 1) := by decide +kernel
theorem dX8_copy_0 : decode cX8_copy 0 = .ok (.iconst 0, 1) := by decide +kernel
theorem dX8_copy_1 : decode cX8_copy 1 = .ok (.istore_n 2, 1) := by decide +kernel
theorem dX8_copy_2 : decode cX8_copy 2 = .ok (.iload_n 2, 1) := by decide +kernel
theorem dX8_copy_3 : decode cX8_copy 3 = .ok (.bipush 64, 2) := by decide +kernel
theorem dX8_copy_5 : decode cX8_copy 5 = .ok (.if_icmp .ge 15, 3) := by decide +kernel
theorem dX8_copy_8 : decode cX8_copy 8 = .ok (.aload_n 0, 1) := by decide +kernel
theorem dX8_copy_9 : decode cX8_copy 9 = .ok (.iload_n 2, 1) := by decide +kernel
theorem dX8_copy_10 : decode cX8_copy 10 = .ok (.aload_n 1, 1) := by decide +kernel
theorem dX8_copy_11 : decode cX8_copy 11 = .ok (.iload_n 2, 1) := by decide +kernel
theorem dX8_copy_12 : decode cX8_copy 12 = .ok (.laload, 1) := by decide +kernel
theorem dX8_copy_13 : decode cX8_copy 13 = .ok (.lastore, 1) := by decide +kernel
theorem dX8_copy_14 : decode cX8_copy 14 = .ok (.iinc 2 1, 3) := by decide +kernel
theorem dX8_copy_17 : decode cX8_copy 17 = .ok (.goto (-15), 3) := by decide +kernel
theorem dX8_copy_20 : decode cX8_copy 20 = .ok (.return_, 1) := by decide +kernel
theorem dX8_high_0 : decode cX8_high 0 = .ok (.bipush 63, 2) := by decide +kernel
theorem dX8_high_2 : decode cX8_high 2 = .ok (.istore_n 1, 1) := by decide +kernel
theorem dX8_high_3 : decode cX8_high 3 = .ok (.iload_n 1, 1) := by decide +kernel
theorem dX8_high_4 : decode cX8_high 4 = .ok (.ifCond .lt 17, 3) := by decide +kernel
theorem dX8_high_7 : decode cX8_high 7 = .ok (.aload_n 0, 1) := by decide +kernel
theorem dX8_high_8 : decode cX8_high 8 = .ok (.iload_n 1, 1) := by decide +kernel
theorem dX8_high_9 : decode cX8_high 9 = .ok (.laload, 1) := by decide +kernel
theorem dX8_high_10 : decode cX8_high 10 = .ok (.lconst 0, 1) := by decide +kernel
theorem dX8_high_11 : decode cX8_high 11 = .ok (.lcmp, 1) := by decide +kernel
theorem dX8_high_12 : decode cX8_high 12 = .ok (.ifCond .ne 9, 3) := by decide +kernel
theorem dX8_high_15 : decode cX8_high 15 = .ok (.iinc 1 (-1), 3) := by decide +kernel
theorem dX8_high_18 : decode cX8_high 18 = .ok (.goto (-15), 3) := by decide +kernel
theorem dX8_high_21 : decode cX8_high 21 = .ok (.iload_n 1, 1) := by decide +kernel
theorem dX8_high_22 : decode cX8_high 22 = .ok (.ireturn, 1) := by decide +kernel
theorem dX8_valueAt_0 : decode cX8_valueAt 0 = .ok (.lconst 0, 1) := by decide +kernel
theorem dX8_valueAt_1 : decode cX8_valueAt 1 = .ok (.lstore_n 3, 1) := by decide +kernel
theorem dX8_valueAt_2 : decode cX8_valueAt 2 = .ok (.bipush 63, 2) := by decide +kernel
theorem dX8_valueAt_4 : decode cX8_valueAt 4 = .ok (.istore 5, 2) := by decide +kernel
theorem dX8_valueAt_6 : decode cX8_valueAt 6 = .ok (.iload 5, 2) := by decide +kernel
theorem dX8_valueAt_8 : decode cX8_valueAt 8 = .ok (.ifCond .lt 22, 3) := by decide +kernel
theorem dX8_valueAt_11 : decode cX8_valueAt 11 = .ok (.lload_n 3, 1) := by decide +kernel
theorem dX8_valueAt_12 : decode cX8_valueAt 12 = .ok (.lload_n 1, 1) := by decide +kernel
theorem dX8_valueAt_13 : decode cX8_valueAt 13 = .ok (.lmul, 1) := by decide +kernel
theorem dX8_valueAt_14 : decode cX8_valueAt 14 = .ok (.aload_n 0, 1) := by decide +kernel
theorem dX8_valueAt_15 : decode cX8_valueAt 15 = .ok (.iload 5, 2) := by decide +kernel
theorem dX8_valueAt_17 : decode cX8_valueAt 17 = .ok (.laload, 1) := by decide +kernel
theorem dX8_valueAt_18 : decode cX8_valueAt 18 = .ok (.ladd, 1) := by decide +kernel
theorem dX8_valueAt_19 : decode cX8_valueAt 19 = .ok (.ldc2_w 63, 3) := by decide +kernel
theorem dX8_valueAt_22 : decode cX8_valueAt 22 = .ok (.lrem, 1) := by decide +kernel
theorem dX8_valueAt_23 : decode cX8_valueAt 23 = .ok (.lstore_n 3, 1) := by decide +kernel
theorem dX8_valueAt_24 : decode cX8_valueAt 24 = .ok (.iinc 5 (-1), 3) := by decide +kernel
theorem dX8_valueAt_27 : decode cX8_valueAt 27 = .ok (.goto (-21), 3) := by decide +kernel
theorem dX8_valueAt_30 : decode cX8_valueAt 30 = .ok (.lload_n 3, 1) := by decide +kernel
theorem dX8_valueAt_31 : decode cX8_valueAt 31 = .ok (.lreturn, 1) := by decide +kernel
theorem dX8_move_0 : decode cX8_move 0 = .ok (.aload_n 0, 1) := by decide +kernel
theorem dX8_move_1 : decode cX8_move 1 = .ok (.invokestatic 65, 3) := by decide +kernel
theorem dX8_move_4 : decode cX8_move 4 = .ok (.istore_n 3, 1) := by decide +kernel
theorem dX8_move_5 : decode cX8_move 5 = .ok (.iconst 0, 1) := by decide +kernel
theorem dX8_move_6 : decode cX8_move 6 = .ok (.istore 4, 2) := by decide +kernel
theorem dX8_move_8 : decode cX8_move 8 = .ok (.iload 4, 2) := by decide +kernel
theorem dX8_move_10 : decode cX8_move 10 = .ok (.iload_n 3, 1) := by decide +kernel
theorem dX8_move_11 : decode cX8_move 11 = .ok (.if_icmp .ge 48, 3) := by decide +kernel
theorem dX8_move_14 : decode cX8_move 14 = .ok (.iload_n 3, 1) := by decide +kernel
theorem dX8_move_15 : decode cX8_move 15 = .ok (.iconst 1, 1) := by decide +kernel
theorem dX8_move_16 : decode cX8_move 16 = .ok (.isub, 1) := by decide +kernel
theorem dX8_move_17 : decode cX8_move 17 = .ok (.istore 5, 2) := by decide +kernel
theorem dX8_move_19 : decode cX8_move 19 = .ok (.iload 5, 2) := by decide +kernel
theorem dX8_move_21 : decode cX8_move 21 = .ok (.iload 4, 2) := by decide +kernel
theorem dX8_move_23 : decode cX8_move 23 = .ok (.if_icmp .lt 30, 3) := by decide +kernel
theorem dX8_move_26 : decode cX8_move 26 = .ok (.aload_n 0, 1) := by decide +kernel
theorem dX8_move_27 : decode cX8_move 27 = .ok (.iload 5, 2) := by decide +kernel
theorem dX8_move_29 : decode cX8_move 29 = .ok (.aload_n 0, 1) := by decide +kernel
theorem dX8_move_30 : decode cX8_move 30 = .ok (.iload 5, 2) := by decide +kernel
theorem dX8_move_32 : decode cX8_move 32 = .ok (.laload, 1) := by decide +kernel
theorem dX8_move_33 : decode cX8_move 33 = .ok (.lload_n 1, 1) := by decide +kernel
theorem dX8_move_34 : decode cX8_move 34 = .ok (.aload_n 0, 1) := by decide +kernel
theorem dX8_move_35 : decode cX8_move 35 = .ok (.iload 5, 2) := by decide +kernel
theorem dX8_move_37 : decode cX8_move 37 = .ok (.iconst 1, 1) := by decide +kernel
theorem dX8_move_38 : decode cX8_move 38 = .ok (.iadd, 1) := by decide +kernel
theorem dX8_move_39 : decode cX8_move 39 = .ok (.laload, 1) := by decide +kernel
theorem dX8_move_40 : decode cX8_move 40 = .ok (.lmul, 1) := by decide +kernel
theorem dX8_move_41 : decode cX8_move 41 = .ok (.ladd, 1) := by decide +kernel
theorem dX8_move_42 : decode cX8_move 42 = .ok (.ldc2_w 63, 3) := by decide +kernel
theorem dX8_move_45 : decode cX8_move 45 = .ok (.lrem, 1) := by decide +kernel
theorem dX8_move_46 : decode cX8_move 46 = .ok (.lastore, 1) := by decide +kernel
theorem dX8_move_47 : decode cX8_move 47 = .ok (.iinc 5 (-1), 3) := by decide +kernel
theorem dX8_move_50 : decode cX8_move 50 = .ok (.goto (-31), 3) := by decide +kernel
theorem dX8_move_53 : decode cX8_move 53 = .ok (.iinc 4 1, 3) := by decide +kernel
theorem dX8_move_56 : decode cX8_move 56 = .ok (.goto (-48), 3) := by decide +kernel
theorem dX8_move_59 : decode cX8_move 59 = .ok (.return_, 1) := by decide +kernel
theorem dX8_multiply_0 : decode cX8_multiply 0 = .ok (.aload_n 0, 1) := by decide +kernel
theorem dX8_multiply_1 : decode cX8_multiply 1 = .ok (.getfield 44, 3) := by decide +kernel
theorem dX8_multiply_4 : decode cX8_multiply 4 = .ok (.invokestatic 69, 3) := by decide +kernel
theorem dX8_multiply_7 : decode cX8_multiply 7 = .ok (.aload_n 2, 1) := by decide +kernel
theorem dX8_multiply_8 : decode cX8_multiply 8 = .ok (.invokestatic 65, 3) := by decide +kernel
theorem dX8_multiply_11 : decode cX8_multiply 11 = .ok (.istore_n 3, 1) := by decide +kernel
theorem dX8_multiply_12 : decode cX8_multiply 12 = .ok (.aload_n 1, 1) := by decide +kernel
theorem dX8_multiply_13 : decode cX8_multiply 13 = .ok (.invokestatic 65, 3) := by decide +kernel
theorem dX8_multiply_16 : decode cX8_multiply 16 = .ok (.istore 4, 2) := by decide +kernel
theorem dX8_multiply_18 : decode cX8_multiply 18 = .ok (.iload 4, 2) := by decide +kernel
theorem dX8_multiply_20 : decode cX8_multiply 20 = .ok (.ifCond .lt 58, 3) := by decide +kernel
theorem dX8_multiply_23 : decode cX8_multiply 23 = .ok (.iconst 0, 1) := by decide +kernel
theorem dX8_multiply_24 : decode cX8_multiply 24 = .ok (.istore 5, 2) := by decide +kernel
theorem dX8_multiply_26 : decode cX8_multiply 26 = .ok (.iload 5, 2) := by decide +kernel
theorem dX8_multiply_28 : decode cX8_multiply 28 = .ok (.iload_n 3, 1) := by decide +kernel
theorem dX8_multiply_29 : decode cX8_multiply 29 = .ok (.if_icmp .gt 43, 3) := by decide +kernel
theorem dX8_multiply_32 : decode cX8_multiply 32 = .ok (.aload_n 0, 1) := by decide +kernel
theorem dX8_multiply_33 : decode cX8_multiply 33 = .ok (.getfield 44, 3) := by decide +kernel
theorem dX8_multiply_36 : decode cX8_multiply 36 = .ok (.iload 4, 2) := by decide +kernel
theorem dX8_multiply_38 : decode cX8_multiply 38 = .ok (.iload 5, 2) := by decide +kernel
theorem dX8_multiply_40 : decode cX8_multiply 40 = .ok (.iadd, 1) := by decide +kernel
theorem dX8_multiply_41 : decode cX8_multiply 41 = .ok (.aload_n 0, 1) := by decide +kernel
theorem dX8_multiply_42 : decode cX8_multiply 42 = .ok (.getfield 44, 3) := by decide +kernel
theorem dX8_multiply_45 : decode cX8_multiply 45 = .ok (.iload 4, 2) := by decide +kernel
theorem dX8_multiply_47 : decode cX8_multiply 47 = .ok (.iload 5, 2) := by decide +kernel
theorem dX8_multiply_49 : decode cX8_multiply 49 = .ok (.iadd, 1) := by decide +kernel
theorem dX8_multiply_50 : decode cX8_multiply 50 = .ok (.laload, 1) := by decide +kernel
theorem dX8_multiply_51 : decode cX8_multiply 51 = .ok (.aload_n 1, 1) := by decide +kernel
theorem dX8_multiply_52 : decode cX8_multiply 52 = .ok (.iload 4, 2) := by decide +kernel
theorem dX8_multiply_54 : decode cX8_multiply 54 = .ok (.laload, 1) := by decide +kernel
theorem dX8_multiply_55 : decode cX8_multiply 55 = .ok (.aload_n 2, 1) := by decide +kernel
theorem dX8_multiply_56 : decode cX8_multiply 56 = .ok (.iload 5, 2) := by decide +kernel
theorem dX8_multiply_58 : decode cX8_multiply 58 = .ok (.laload, 1) := by decide +kernel
theorem dX8_multiply_59 : decode cX8_multiply 59 = .ok (.lmul, 1) := by decide +kernel
theorem dX8_multiply_60 : decode cX8_multiply 60 = .ok (.ladd, 1) := by decide +kernel
theorem dX8_multiply_61 : decode cX8_multiply 61 = .ok (.ldc2_w 63, 3) := by decide +kernel
theorem dX8_multiply_64 : decode cX8_multiply 64 = .ok (.lrem, 1) := by decide +kernel
theorem dX8_multiply_65 : decode cX8_multiply 65 = .ok (.lastore, 1) := by decide +kernel
theorem dX8_multiply_66 : decode cX8_multiply 66 = .ok (.iinc 5 1, 3) := by decide +kernel
theorem dX8_multiply_69 : decode cX8_multiply 69 = .ok (.goto (-43), 3) := by decide +kernel
theorem dX8_multiply_72 : decode cX8_multiply 72 = .ok (.iinc 4 (-1), 3) := by decide +kernel
theorem dX8_multiply_75 : decode cX8_multiply 75 = .ok (.goto (-57), 3) := by decide +kernel
theorem dX8_multiply_78 : decode cX8_multiply 78 = .ok (.return_, 1) := by decide +kernel
theorem dX8_divide_0 : decode cX8_divide 0 = .ok (.aload_n 2, 1) := by decide +kernel
theorem dX8_divide_1 : decode cX8_divide 1 = .ok (.invokestatic 65, 3) := by decide +kernel
theorem dX8_divide_4 : decode cX8_divide 4 = .ok (.istore_n 3, 1) := by decide +kernel
theorem dX8_divide_5 : decode cX8_divide 5 = .ok (.aload_n 2, 1) := by decide +kernel
theorem dX8_divide_6 : decode cX8_divide 6 = .ok (.iload_n 3, 1) := by decide +kernel
theorem dX8_divide_7 : decode cX8_divide 7 = .ok (.laload, 1) := by decide +kernel
theorem dX8_divide_8 : decode cX8_divide 8 = .ok (.invokestatic 73, 3) := by decide +kernel
theorem dX8_divide_11 : decode cX8_divide 11 = .ok (.lstore 4, 2) := by decide +kernel
theorem dX8_divide_13 : decode cX8_divide 13 = .ok (.aload_n 0, 1) := by decide +kernel
theorem dX8_divide_14 : decode cX8_divide 14 = .ok (.getfield 47, 3) := by decide +kernel
theorem dX8_divide_17 : decode cX8_divide 17 = .ok (.invokestatic 69, 3) := by decide +kernel
theorem dX8_divide_20 : decode cX8_divide 20 = .ok (.aload_n 1, 1) := by decide +kernel
theorem dX8_divide_21 : decode cX8_divide 21 = .ok (.invokestatic 65, 3) := by decide +kernel
theorem dX8_divide_24 : decode cX8_divide 24 = .ok (.istore 6, 2) := by decide +kernel
theorem dX8_divide_26 : decode cX8_divide 26 = .ok (.iload 6, 2) := by decide +kernel
theorem dX8_divide_28 : decode cX8_divide 28 = .ok (.iload_n 3, 1) := by decide +kernel
theorem dX8_divide_29 : decode cX8_divide 29 = .ok (.if_icmp .lt 84, 3) := by decide +kernel
theorem dX8_divide_32 : decode cX8_divide 32 = .ok (.aload_n 1, 1) := by decide +kernel
theorem dX8_divide_33 : decode cX8_divide 33 = .ok (.iload 6, 2) := by decide +kernel
theorem dX8_divide_35 : decode cX8_divide 35 = .ok (.laload, 1) := by decide +kernel
theorem dX8_divide_36 : decode cX8_divide 36 = .ok (.lload 4, 2) := by decide +kernel
theorem dX8_divide_38 : decode cX8_divide 38 = .ok (.lmul, 1) := by decide +kernel
theorem dX8_divide_39 : decode cX8_divide 39 = .ok (.ldc2_w 63, 3) := by decide +kernel
theorem dX8_divide_42 : decode cX8_divide 42 = .ok (.lrem, 1) := by decide +kernel
theorem dX8_divide_43 : decode cX8_divide 43 = .ok (.lstore 7, 2) := by decide +kernel
theorem dX8_divide_45 : decode cX8_divide 45 = .ok (.aload_n 0, 1) := by decide +kernel
theorem dX8_divide_46 : decode cX8_divide 46 = .ok (.getfield 47, 3) := by decide +kernel
theorem dX8_divide_49 : decode cX8_divide 49 = .ok (.iload 6, 2) := by decide +kernel
theorem dX8_divide_51 : decode cX8_divide 51 = .ok (.iload_n 3, 1) := by decide +kernel
theorem dX8_divide_52 : decode cX8_divide 52 = .ok (.isub, 1) := by decide +kernel
theorem dX8_divide_53 : decode cX8_divide 53 = .ok (.lload 7, 2) := by decide +kernel
theorem dX8_divide_55 : decode cX8_divide 55 = .ok (.lastore, 1) := by decide +kernel
theorem dX8_divide_56 : decode cX8_divide 56 = .ok (.iconst 0, 1) := by decide +kernel
theorem dX8_divide_57 : decode cX8_divide 57 = .ok (.istore 9, 2) := by decide +kernel
theorem dX8_divide_59 : decode cX8_divide 59 = .ok (.iload 9, 2) := by decide +kernel
theorem dX8_divide_61 : decode cX8_divide 61 = .ok (.iload_n 3, 1) := by decide +kernel
theorem dX8_divide_62 : decode cX8_divide 62 = .ok (.if_icmp .gt 45, 3) := by decide +kernel
theorem dX8_divide_65 : decode cX8_divide 65 = .ok (.lload 7, 2) := by decide +kernel
theorem dX8_divide_67 : decode cX8_divide 67 = .ok (.lconst 0, 1) := by decide +kernel
theorem dX8_divide_68 : decode cX8_divide 68 = .ok (.lcmp, 1) := by decide +kernel
theorem dX8_divide_69 : decode cX8_divide 69 = .ok (.ifCond .le 38, 3) := by decide +kernel
theorem dX8_divide_72 : decode cX8_divide 72 = .ok (.aload_n 1, 1) := by decide +kernel
theorem dX8_divide_73 : decode cX8_divide 73 = .ok (.iload 6, 2) := by decide +kernel
theorem dX8_divide_75 : decode cX8_divide 75 = .ok (.iload_n 3, 1) := by decide +kernel
theorem dX8_divide_76 : decode cX8_divide 76 = .ok (.isub, 1) := by decide +kernel
theorem dX8_divide_77 : decode cX8_divide 77 = .ok (.iload 9, 2) := by decide +kernel
theorem dX8_divide_79 : decode cX8_divide 79 = .ok (.iadd, 1) := by decide +kernel
theorem dX8_divide_80 : decode cX8_divide 80 = .ok (.aload_n 1, 1) := by decide +kernel
theorem dX8_divide_81 : decode cX8_divide 81 = .ok (.iload 6, 2) := by decide +kernel
theorem dX8_divide_83 : decode cX8_divide 83 = .ok (.iload_n 3, 1) := by decide +kernel
theorem dX8_divide_84 : decode cX8_divide 84 = .ok (.isub, 1) := by decide +kernel
theorem dX8_divide_85 : decode cX8_divide 85 = .ok (.iload 9, 2) := by decide +kernel
theorem dX8_divide_87 : decode cX8_divide 87 = .ok (.iadd, 1) := by decide +kernel
theorem dX8_divide_88 : decode cX8_divide 88 = .ok (.laload, 1) := by decide +kernel
theorem dX8_divide_89 : decode cX8_divide 89 = .ok (.lload 7, 2) := by decide +kernel
theorem dX8_divide_91 : decode cX8_divide 91 = .ok (.aload_n 2, 1) := by decide +kernel
theorem dX8_divide_92 : decode cX8_divide 92 = .ok (.iload 9, 2) := by decide +kernel
theorem dX8_divide_94 : decode cX8_divide 94 = .ok (.laload, 1) := by decide +kernel
theorem dX8_divide_95 : decode cX8_divide 95 = .ok (.lmul, 1) := by decide +kernel
theorem dX8_divide_96 : decode cX8_divide 96 = .ok (.lsub, 1) := by decide +kernel
theorem dX8_divide_97 : decode cX8_divide 97 = .ok (.invokestatic 77, 3) := by decide +kernel
theorem dX8_divide_100 : decode cX8_divide 100 = .ok (.lastore, 1) := by decide +kernel
theorem dX8_divide_101 : decode cX8_divide 101 = .ok (.iinc 9 1, 3) := by decide +kernel
theorem dX8_divide_104 : decode cX8_divide 104 = .ok (.goto (-45), 3) := by decide +kernel
theorem dX8_divide_107 : decode cX8_divide 107 = .ok (.iinc 6 (-1), 3) := by decide +kernel
theorem dX8_divide_110 : decode cX8_divide 110 = .ok (.goto (-84), 3) := by decide +kernel
theorem dX8_divide_113 : decode cX8_divide 113 = .ok (.return_, 1) := by decide +kernel
theorem dX8_common_0 : decode cX8_common 0 = .ok (.aload_n 0, 1) := by decide +kernel
theorem dX8_common_1 : decode cX8_common 1 = .ok (.getfield 41, 3) := by decide +kernel
theorem dX8_common_4 : decode cX8_common 4 = .ok (.invokestatic 65, 3) := by decide +kernel
theorem dX8_common_7 : decode cX8_common 7 = .ok (.ifCond .lt 58, 3) := by decide +kernel
theorem dX8_common_10 : decode cX8_common 10 = .ok (.aload_n 0, 1) := by decide +kernel
theorem dX8_common_11 : decode cX8_common 11 = .ok (.aload_n 0, 1) := by decide +kernel
theorem dX8_common_12 : decode cX8_common 12 = .ok (.getfield 38, 3) := by decide +kernel
theorem dX8_common_15 : decode cX8_common 15 = .ok (.aload_n 0, 1) := by decide +kernel
theorem dX8_common_16 : decode cX8_common 16 = .ok (.getfield 41, 3) := by decide +kernel
theorem dX8_common_19 : decode cX8_common 19 = .ok (.invokevirtual 80, 3) := by decide +kernel
theorem dX8_common_22 : decode cX8_common 22 = .ok (.iconst 0, 1) := by decide +kernel
theorem dX8_common_23 : decode cX8_common 23 = .ok (.istore_n 1, 1) := by decide +kernel
theorem dX8_common_24 : decode cX8_common 24 = .ok (.iload_n 1, 1) := by decide +kernel
theorem dX8_common_25 : decode cX8_common 25 = .ok (.bipush 64, 2) := by decide +kernel
theorem dX8_common_27 : decode cX8_common 27 = .ok (.if_icmp .ge 35, 3) := by decide +kernel
theorem dX8_common_30 : decode cX8_common 30 = .ok (.aload_n 0, 1) := by decide +kernel
theorem dX8_common_31 : decode cX8_common 31 = .ok (.getfield 38, 3) := by decide +kernel
theorem dX8_common_34 : decode cX8_common 34 = .ok (.iload_n 1, 1) := by decide +kernel
theorem dX8_common_35 : decode cX8_common 35 = .ok (.laload, 1) := by decide +kernel
theorem dX8_common_36 : decode cX8_common 36 = .ok (.lstore_n 2, 1) := by decide +kernel
theorem dX8_common_37 : decode cX8_common 37 = .ok (.aload_n 0, 1) := by decide +kernel
theorem dX8_common_38 : decode cX8_common 38 = .ok (.getfield 38, 3) := by decide +kernel
theorem dX8_common_41 : decode cX8_common 41 = .ok (.iload_n 1, 1) := by decide +kernel
theorem dX8_common_42 : decode cX8_common 42 = .ok (.aload_n 0, 1) := by decide +kernel
theorem dX8_common_43 : decode cX8_common 43 = .ok (.getfield 41, 3) := by decide +kernel
theorem dX8_common_46 : decode cX8_common 46 = .ok (.iload_n 1, 1) := by decide +kernel
theorem dX8_common_47 : decode cX8_common 47 = .ok (.laload, 1) := by decide +kernel
theorem dX8_common_48 : decode cX8_common 48 = .ok (.lastore, 1) := by decide +kernel
theorem dX8_common_49 : decode cX8_common 49 = .ok (.aload_n 0, 1) := by decide +kernel
theorem dX8_common_50 : decode cX8_common 50 = .ok (.getfield 41, 3) := by decide +kernel
theorem dX8_common_53 : decode cX8_common 53 = .ok (.iload_n 1, 1) := by decide +kernel
theorem dX8_common_54 : decode cX8_common 54 = .ok (.lload_n 2, 1) := by decide +kernel
theorem dX8_common_55 : decode cX8_common 55 = .ok (.lastore, 1) := by decide +kernel
theorem dX8_common_56 : decode cX8_common 56 = .ok (.iinc 1 1, 3) := by decide +kernel
theorem dX8_common_59 : decode cX8_common 59 = .ok (.goto (-35), 3) := by decide +kernel
theorem dX8_common_62 : decode cX8_common 62 = .ok (.goto (-62), 3) := by decide +kernel
theorem dX8_common_65 : decode cX8_common 65 = .ok (.aload_n 0, 1) := by decide +kernel
theorem dX8_common_66 : decode cX8_common 66 = .ok (.getfield 38, 3) := by decide +kernel
theorem dX8_common_69 : decode cX8_common 69 = .ok (.invokestatic 65, 3) := by decide +kernel
theorem dX8_common_72 : decode cX8_common 72 = .ok (.istore_n 1, 1) := by decide +kernel
theorem dX8_common_73 : decode cX8_common 73 = .ok (.aload_n 0, 1) := by decide +kernel
theorem dX8_common_74 : decode cX8_common 74 = .ok (.getfield 38, 3) := by decide +kernel
theorem dX8_common_77 : decode cX8_common 77 = .ok (.iload_n 1, 1) := by decide +kernel
theorem dX8_common_78 : decode cX8_common 78 = .ok (.laload, 1) := by decide +kernel
theorem dX8_common_79 : decode cX8_common 79 = .ok (.invokestatic 73, 3) := by decide +kernel
theorem dX8_common_82 : decode cX8_common 82 = .ok (.lstore_n 2, 1) := by decide +kernel
theorem dX8_common_83 : decode cX8_common 83 = .ok (.iconst 0, 1) := by decide +kernel
theorem dX8_common_84 : decode cX8_common 84 = .ok (.istore 4, 2) := by decide +kernel
theorem dX8_common_86 : decode cX8_common 86 = .ok (.iload 4, 2) := by decide +kernel
theorem dX8_common_88 : decode cX8_common 88 = .ok (.iload_n 1, 1) := by decide +kernel
theorem dX8_common_89 : decode cX8_common 89 = .ok (.if_icmp .gt 29, 3) := by decide +kernel
theorem dX8_common_92 : decode cX8_common 92 = .ok (.aload_n 0, 1) := by decide +kernel
theorem dX8_common_93 : decode cX8_common 93 = .ok (.getfield 38, 3) := by decide +kernel
theorem dX8_common_96 : decode cX8_common 96 = .ok (.iload 4, 2) := by decide +kernel
theorem dX8_common_98 : decode cX8_common 98 = .ok (.aload_n 0, 1) := by decide +kernel
theorem dX8_common_99 : decode cX8_common 99 = .ok (.getfield 38, 3) := by decide +kernel
theorem dX8_common_102 : decode cX8_common 102 = .ok (.iload 4, 2) := by decide +kernel
theorem dX8_common_104 : decode cX8_common 104 = .ok (.laload, 1) := by decide +kernel
theorem dX8_common_105 : decode cX8_common 105 = .ok (.lload_n 2, 1) := by decide +kernel
theorem dX8_common_106 : decode cX8_common 106 = .ok (.lmul, 1) := by decide +kernel
theorem dX8_common_107 : decode cX8_common 107 = .ok (.ldc2_w 63, 3) := by decide +kernel
theorem dX8_common_110 : decode cX8_common 110 = .ok (.lrem, 1) := by decide +kernel
theorem dX8_common_111 : decode cX8_common 111 = .ok (.lastore, 1) := by decide +kernel
theorem dX8_common_112 : decode cX8_common 112 = .ok (.iinc 4 1, 3) := by decide +kernel
theorem dX8_common_115 : decode cX8_common 115 = .ok (.goto (-29), 3) := by decide +kernel
theorem dX8_common_118 : decode cX8_common 118 = .ok (.return_, 1) := by decide +kernel
theorem dX8_isPower_0 : decode cX8_isPower 0 = .ok (.aload_n 0, 1) := by decide +kernel
theorem dX8_isPower_1 : decode cX8_isPower 1 = .ok (.iload_n 1, 1) := by decide +kernel
theorem dX8_isPower_2 : decode cX8_isPower 2 = .ok (.i2l, 1) := by decide +kernel
theorem dX8_isPower_3 : decode cX8_isPower 3 = .ok (.lconst 0, 1) := by decide +kernel
theorem dX8_isPower_4 : decode cX8_isPower 4 = .ok (.ldc2_w 84, 3) := by decide +kernel
theorem dX8_isPower_7 : decode cX8_isPower 7 = .ok (.invokestatic 86, 3) := by decide +kernel
theorem dX8_isPower_10 : decode cX8_isPower 10 = .ok (.ifCond .eq 7, 3) := by decide +kernel
theorem dX8_isPower_13 : decode cX8_isPower 13 = .ok (.iconst 0, 1) := by decide +kernel
theorem dX8_isPower_14 : decode cX8_isPower 14 = .ok (.goto 4, 3) := by decide +kernel
theorem dX8_isPower_17 : decode cX8_isPower 17 = .ok (.iconst 1, 1) := by decide +kernel
theorem dX8_isPower_18 : decode cX8_isPower 18 = .ok (.putfield 59, 3) := by decide +kernel
theorem dX8_isPower_21 : decode cX8_isPower 21 = .ok (.aload_n 0, 1) := by decide +kernel
theorem dX8_isPower_22 : decode cX8_isPower 22 = .ok (.getfield 59, 3) := by decide +kernel
theorem dX8_isPower_25 : decode cX8_isPower 25 = .ok (.ifCond .ne 7, 3) := by decide +kernel
theorem dX8_isPower_28 : decode cX8_isPower 28 = .ok (.iconst 1, 1) := by decide +kernel
theorem dX8_isPower_29 : decode cX8_isPower 29 = .ok (.goto 4, 3) := by decide +kernel
theorem dX8_isPower_32 : decode cX8_isPower 32 = .ok (.iconst 0, 1) := by decide +kernel
theorem dX8_isPower_33 : decode cX8_isPower 33 = .ok (.ireturn, 1) := by decide +kernel
theorem dX8_put_0 : decode cX8_put 0 = .ok (.aload_n 0, 1) := by decide +kernel
theorem dX8_put_1 : decode cX8_put 1 = .ok (.iload_n 2, 1) := by decide +kernel
theorem dX8_put_2 : decode cX8_put 2 = .ok (.invokevirtual 90, 3) := by decide +kernel
theorem dX8_put_5 : decode cX8_put 5 = .ok (.ifCond .ne 5, 3) := by decide +kernel
theorem dX8_put_8 : decode cX8_put 8 = .ok (.iconst 0, 1) := by decide +kernel
theorem dX8_put_9 : decode cX8_put 9 = .ok (.ireturn, 1) := by decide +kernel
theorem dX8_put_10 : decode cX8_put 10 = .ok (.iload_n 1, 1) := by decide +kernel
theorem dX8_put_11 : decode cX8_put 11 = .ok (.ifCond .eq 12, 3) := by decide +kernel
theorem dX8_put_14 : decode cX8_put 14 = .ok (.aload_n 0, 1) := by decide +kernel
theorem dX8_put_15 : decode cX8_put 15 = .ok (.getfield 7, 3) := by decide +kernel
theorem dX8_put_18 : decode cX8_put 18 = .ok (.iload_n 2, 1) := by decide +kernel
theorem dX8_put_19 : decode cX8_put 19 = .ok (.laload, 1) := by decide +kernel
theorem dX8_put_20 : decode cX8_put 20 = .ok (.goto 9, 3) := by decide +kernel
theorem dX8_put_23 : decode cX8_put 23 = .ok (.aload_n 0, 1) := by decide +kernel
theorem dX8_put_24 : decode cX8_put 24 = .ok (.getfield 13, 3) := by decide +kernel
theorem dX8_put_27 : decode cX8_put 27 = .ok (.iload_n 2, 1) := by decide +kernel
theorem dX8_put_28 : decode cX8_put 28 = .ok (.laload, 1) := by decide +kernel
theorem dX8_put_29 : decode cX8_put 29 = .ok (.lstore 5, 2) := by decide +kernel
theorem dX8_put_31 : decode cX8_put 31 = .ok (.iload_n 1, 1) := by decide +kernel
theorem dX8_put_32 : decode cX8_put 32 = .ok (.ifCond .eq 16, 3) := by decide +kernel
theorem dX8_put_35 : decode cX8_put 35 = .ok (.aload_n 0, 1) := by decide +kernel
theorem dX8_put_36 : decode cX8_put 36 = .ok (.getfield 7, 3) := by decide +kernel
theorem dX8_put_39 : decode cX8_put 39 = .ok (.iload_n 2, 1) := by decide +kernel
theorem dX8_put_40 : decode cX8_put 40 = .ok (.lload_n 3, 1) := by decide +kernel
theorem dX8_put_41 : decode cX8_put 41 = .ok (.invokestatic 77, 3) := by decide +kernel
theorem dX8_put_44 : decode cX8_put 44 = .ok (.lastore, 1) := by decide +kernel
theorem dX8_put_45 : decode cX8_put 45 = .ok (.goto 13, 3) := by decide +kernel
theorem dX8_put_48 : decode cX8_put 48 = .ok (.aload_n 0, 1) := by decide +kernel
theorem dX8_put_49 : decode cX8_put 49 = .ok (.getfield 13, 3) := by decide +kernel
theorem dX8_put_52 : decode cX8_put 52 = .ok (.iload_n 2, 1) := by decide +kernel
theorem dX8_put_53 : decode cX8_put 53 = .ok (.lload_n 3, 1) := by decide +kernel
theorem dX8_put_54 : decode cX8_put 54 = .ok (.invokestatic 77, 3) := by decide +kernel
theorem dX8_put_57 : decode cX8_put 57 = .ok (.lastore, 1) := by decide +kernel
theorem dX8_put_58 : decode cX8_put 58 = .ok (.lload 5, 2) := by decide +kernel
theorem dX8_put_60 : decode cX8_put 60 = .ok (.lload_n 3, 1) := by decide +kernel
theorem dX8_put_61 : decode cX8_put 61 = .ok (.invokestatic 77, 3) := by decide +kernel
theorem dX8_put_64 : decode cX8_put 64 = .ok (.lcmp, 1) := by decide +kernel
theorem dX8_put_65 : decode cX8_put 65 = .ok (.ifCond .eq 7, 3) := by decide +kernel
theorem dX8_put_68 : decode cX8_put 68 = .ok (.iconst 1, 1) := by decide +kernel
theorem dX8_put_69 : decode cX8_put 69 = .ok (.goto 4, 3) := by decide +kernel
theorem dX8_put_72 : decode cX8_put 72 = .ok (.iconst 0, 1) := by decide +kernel
theorem dX8_put_73 : decode cX8_put 73 = .ok (.ireturn, 1) := by decide +kernel
theorem dX8_at_0 : decode cX8_at 0 = .ok (.aload_n 0, 1) := by decide +kernel
theorem dX8_at_1 : decode cX8_at 1 = .ok (.iload_n 2, 1) := by decide +kernel
theorem dX8_at_2 : decode cX8_at 2 = .ok (.invokevirtual 90, 3) := by decide +kernel
theorem dX8_at_5 : decode cX8_at 5 = .ok (.ifCond .ne 5, 3) := by decide +kernel
theorem dX8_at_8 : decode cX8_at 8 = .ok (.iconst 0, 1) := by decide +kernel
theorem dX8_at_9 : decode cX8_at 9 = .ok (.ireturn, 1) := by decide +kernel
theorem dX8_at_10 : decode cX8_at 10 = .ok (.iload_n 1, 1) := by decide +kernel
theorem dX8_at_11 : decode cX8_at 11 = .ok (.ifCond .eq 12, 3) := by decide +kernel
theorem dX8_at_14 : decode cX8_at 14 = .ok (.aload_n 0, 1) := by decide +kernel
theorem dX8_at_15 : decode cX8_at 15 = .ok (.getfield 7, 3) := by decide +kernel
theorem dX8_at_18 : decode cX8_at 18 = .ok (.iload_n 2, 1) := by decide +kernel
theorem dX8_at_19 : decode cX8_at 19 = .ok (.laload, 1) := by decide +kernel
theorem dX8_at_20 : decode cX8_at 20 = .ok (.goto 9, 3) := by decide +kernel
theorem dX8_at_23 : decode cX8_at 23 = .ok (.aload_n 0, 1) := by decide +kernel
theorem dX8_at_24 : decode cX8_at 24 = .ok (.getfield 13, 3) := by decide +kernel
theorem dX8_at_27 : decode cX8_at 27 = .ok (.iload_n 2, 1) := by decide +kernel
theorem dX8_at_28 : decode cX8_at 28 = .ok (.laload, 1) := by decide +kernel
theorem dX8_at_29 : decode cX8_at 29 = .ok (.l2i, 1) := by decide +kernel
theorem dX8_at_30 : decode cX8_at 30 = .ok (.ireturn, 1) := by decide +kernel
theorem dX8_shift_0 : decode cX8_shift 0 = .ok (.aload_n 0, 1) := by decide +kernel
theorem dX8_shift_1 : decode cX8_shift 1 = .ok (.iconst 0, 1) := by decide +kernel
theorem dX8_shift_2 : decode cX8_shift 2 = .ok (.putfield 59, 3) := by decide +kernel
theorem dX8_shift_5 : decode cX8_shift 5 = .ok (.aload_n 0, 1) := by decide +kernel
theorem dX8_shift_6 : decode cX8_shift 6 = .ok (.getfield 7, 3) := by decide +kernel
theorem dX8_shift_9 : decode cX8_shift 9 = .ok (.iload_n 1, 1) := by decide +kernel
theorem dX8_shift_10 : decode cX8_shift 10 = .ok (.i2l, 1) := by decide +kernel
theorem dX8_shift_11 : decode cX8_shift 11 = .ok (.invokestatic 77, 3) := by decide +kernel
theorem dX8_shift_14 : decode cX8_shift 14 = .ok (.invokestatic 94, 3) := by decide +kernel
theorem dX8_shift_17 : decode cX8_shift 17 = .ok (.aload_n 0, 1) := by decide +kernel
theorem dX8_shift_18 : decode cX8_shift 18 = .ok (.getfield 13, 3) := by decide +kernel
theorem dX8_shift_21 : decode cX8_shift 21 = .ok (.iload_n 1, 1) := by decide +kernel
theorem dX8_shift_22 : decode cX8_shift 22 = .ok (.i2l, 1) := by decide +kernel
theorem dX8_shift_23 : decode cX8_shift 23 = .ok (.invokestatic 77, 3) := by decide +kernel
theorem dX8_shift_26 : decode cX8_shift 26 = .ok (.invokestatic 94, 3) := by decide +kernel
theorem dX8_shift_29 : decode cX8_shift 29 = .ok (.return_, 1) := by decide +kernel
theorem dX8_clear_0 : decode cX8_clear 0 = .ok (.aload_n 0, 1) := by decide +kernel
theorem dX8_clear_1 : decode cX8_clear 1 = .ok (.iconst 0, 1) := by decide +kernel
theorem dX8_clear_2 : decode cX8_clear 2 = .ok (.putfield 59, 3) := by decide +kernel
theorem dX8_clear_5 : decode cX8_clear 5 = .ok (.aload_n 0, 1) := by decide +kernel
theorem dX8_clear_6 : decode cX8_clear 6 = .ok (.getfield 7, 3) := by decide +kernel
theorem dX8_clear_9 : decode cX8_clear 9 = .ok (.invokestatic 69, 3) := by decide +kernel
theorem dX8_clear_12 : decode cX8_clear 12 = .ok (.aload_n 0, 1) := by decide +kernel
theorem dX8_clear_13 : decode cX8_clear 13 = .ok (.getfield 13, 3) := by decide +kernel
theorem dX8_clear_16 : decode cX8_clear 16 = .ok (.invokestatic 69, 3) := by decide +kernel
theorem dX8_clear_19 : decode cX8_clear 19 = .ok (.aload_n 0, 1) := by decide +kernel
theorem dX8_clear_20 : decode cX8_clear 20 = .ok (.getfield 7, 3) := by decide +kernel
theorem dX8_clear_23 : decode cX8_clear 23 = .ok (.iconst 0, 1) := by decide +kernel
theorem dX8_clear_24 : decode cX8_clear 24 = .ok (.lconst 1, 1) := by decide +kernel
theorem dX8_clear_25 : decode cX8_clear 25 = .ok (.lastore, 1) := by decide +kernel
theorem dX8_clear_26 : decode cX8_clear 26 = .ok (.aload_n 0, 1) := by decide +kernel
theorem dX8_clear_27 : decode cX8_clear 27 = .ok (.getfield 13, 3) := by decide +kernel
theorem dX8_clear_30 : decode cX8_clear 30 = .ok (.iconst 0, 1) := by decide +kernel
theorem dX8_clear_31 : decode cX8_clear 31 = .ok (.lconst 1, 1) := by decide +kernel
theorem dX8_clear_32 : decode cX8_clear 32 = .ok (.lastore, 1) := by decide +kernel
theorem dX8_clear_33 : decode cX8_clear 33 = .ok (.return_, 1) := by decide +kernel
theorem dX8_isNone_0 : decode cX8_isNone 0 = .ok (.aload_n 0, 1) := by decide +kernel
theorem dX8_isNone_1 : decode cX8_isNone 1 = .ok (.getfield 7, 3) := by decide +kernel
theorem dX8_isNone_4 : decode cX8_isNone 4 = .ok (.invokestatic 65, 3) := by decide +kernel
theorem dX8_isNone_7 : decode cX8_isNone 7 = .ok (.ifCond .lt 13, 3) := by decide +kernel
theorem dX8_isNone_10 : decode cX8_isNone 10 = .ok (.aload_n 0, 1) := by decide +kernel
theorem dX8_isNone_11 : decode cX8_isNone 11 = .ok (.getfield 13, 3) := by decide +kernel
theorem dX8_isNone_14 : decode cX8_isNone 14 = .ok (.invokestatic 65, 3) := by decide +kernel
theorem dX8_isNone_17 : decode cX8_isNone 17 = .ok (.ifCond .ge 7, 3) := by decide +kernel
theorem dX8_isNone_20 : decode cX8_isNone 20 = .ok (.iconst 1, 1) := by decide +kernel
theorem dX8_isNone_21 : decode cX8_isNone 21 = .ok (.goto 4, 3) := by decide +kernel
theorem dX8_isNone_24 : decode cX8_isNone 24 = .ok (.iconst 0, 1) := by decide +kernel
theorem dX8_isNone_25 : decode cX8_isNone 25 = .ok (.ireturn, 1) := by decide +kernel
theorem dX8_findSplit_0 : decode cX8_findSplit 0 = .ok (.aload_n 0, 1) := by decide +kernel
theorem dX8_findSplit_1 : decode cX8_findSplit 1 = .ok (.getfield 16, 3) := by decide +kernel
theorem dX8_findSplit_4 : decode cX8_findSplit 4 = .ok (.aload_n 0, 1) := by decide +kernel
theorem dX8_findSplit_5 : decode cX8_findSplit 5 = .ok (.getfield 7, 3) := by decide +kernel
theorem dX8_findSplit_8 : decode cX8_findSplit 8 = .ok (.invokestatic 98, 3) := by decide +kernel
theorem dX8_findSplit_11 : decode cX8_findSplit 11 = .ok (.aload_n 0, 1) := by decide +kernel
theorem dX8_findSplit_12 : decode cX8_findSplit 12 = .ok (.getfield 19, 3) := by decide +kernel
theorem dX8_findSplit_15 : decode cX8_findSplit 15 = .ok (.aload_n 0, 1) := by decide +kernel
theorem dX8_findSplit_16 : decode cX8_findSplit 16 = .ok (.getfield 13, 3) := by decide +kernel
theorem dX8_findSplit_19 : decode cX8_findSplit 19 = .ok (.invokestatic 98, 3) := by decide +kernel
theorem dX8_findSplit_22 : decode cX8_findSplit 22 = .ok (.aload_n 0, 1) := by decide +kernel
theorem dX8_findSplit_23 : decode cX8_findSplit 23 = .ok (.getfield 22, 3) := by decide +kernel
theorem dX8_findSplit_26 : decode cX8_findSplit 26 = .ok (.invokestatic 69, 3) := by decide +kernel
theorem dX8_findSplit_29 : decode cX8_findSplit 29 = .ok (.aload_n 0, 1) := by decide +kernel
theorem dX8_findSplit_30 : decode cX8_findSplit 30 = .ok (.getfield 22, 3) := by decide +kernel
theorem dX8_findSplit_33 : decode cX8_findSplit 33 = .ok (.iconst 0, 1) := by decide +kernel
theorem dX8_findSplit_34 : decode cX8_findSplit 34 = .ok (.lconst 1, 1) := by decide +kernel
theorem dX8_findSplit_35 : decode cX8_findSplit 35 = .ok (.lastore, 1) := by decide +kernel
theorem dX8_findSplit_36 : decode cX8_findSplit 36 = .ok (.iconst 0, 1) := by decide +kernel
theorem dX8_findSplit_37 : decode cX8_findSplit 37 = .ok (.istore_n 1, 1) := by decide +kernel
theorem dX8_findSplit_38 : decode cX8_findSplit 38 = .ok (.iload_n 1, 1) := by decide +kernel
theorem dX8_findSplit_39 : decode cX8_findSplit 39 = .ok (.bipush 9, 2) := by decide +kernel
theorem dX8_findSplit_41 : decode cX8_findSplit 41 = .ok (.if_icmp .ge 149, 3) := by decide +kernel
theorem dX8_findSplit_44 : decode cX8_findSplit 44 = .ok (.aload_n 0, 1) := by decide +kernel
theorem dX8_findSplit_45 : decode cX8_findSplit 45 = .ok (.getfield 38, 3) := by decide +kernel
theorem dX8_findSplit_48 : decode cX8_findSplit 48 = .ok (.aload_n 0, 1) := by decide +kernel
theorem dX8_findSplit_49 : decode cX8_findSplit 49 = .ok (.getfield 16, 3) := by decide +kernel
theorem dX8_findSplit_52 : decode cX8_findSplit 52 = .ok (.invokestatic 98, 3) := by decide +kernel
theorem dX8_findSplit_55 : decode cX8_findSplit 55 = .ok (.aload_n 0, 1) := by decide +kernel
theorem dX8_findSplit_56 : decode cX8_findSplit 56 = .ok (.getfield 41, 3) := by decide +kernel
theorem dX8_findSplit_59 : decode cX8_findSplit 59 = .ok (.aload_n 0, 1) := by decide +kernel
theorem dX8_findSplit_60 : decode cX8_findSplit 60 = .ok (.getfield 19, 3) := by decide +kernel
theorem dX8_findSplit_63 : decode cX8_findSplit 63 = .ok (.invokestatic 98, 3) := by decide +kernel
theorem dX8_findSplit_66 : decode cX8_findSplit 66 = .ok (.aload_n 0, 1) := by decide +kernel
theorem dX8_findSplit_67 : decode cX8_findSplit 67 = .ok (.getfield 41, 3) := by decide +kernel
theorem dX8_findSplit_70 : decode cX8_findSplit 70 = .ok (.iload_n 1, 1) := by decide +kernel
theorem dX8_findSplit_71 : decode cX8_findSplit 71 = .ok (.i2l, 1) := by decide +kernel
theorem dX8_findSplit_72 : decode cX8_findSplit 72 = .ok (.invokestatic 94, 3) := by decide +kernel
theorem dX8_findSplit_75 : decode cX8_findSplit 75 = .ok (.aload_n 0, 1) := by decide +kernel
theorem dX8_findSplit_76 : decode cX8_findSplit 76 = .ok (.invokevirtual 101, 3) := by decide +kernel
theorem dX8_findSplit_79 : decode cX8_findSplit 79 = .ok (.aload_n 0, 1) := by decide +kernel
theorem dX8_findSplit_80 : decode cX8_findSplit 80 = .ok (.getfield 25, 3) := by decide +kernel
theorem dX8_findSplit_83 : decode cX8_findSplit 83 = .ok (.iload_n 1, 1) := by decide +kernel
theorem dX8_findSplit_84 : decode cX8_findSplit 84 = .ok (.aload_n 0, 1) := by decide +kernel
theorem dX8_findSplit_85 : decode cX8_findSplit 85 = .ok (.getfield 38, 3) := by decide +kernel
theorem dX8_findSplit_88 : decode cX8_findSplit 88 = .ok (.invokestatic 65, 3) := by decide +kernel
theorem dX8_findSplit_91 : decode cX8_findSplit 91 = .ok (.iastore, 1) := by decide +kernel
theorem dX8_findSplit_92 : decode cX8_findSplit 92 = .ok (.aload_n 0, 1) := by decide +kernel
theorem dX8_findSplit_93 : decode cX8_findSplit 93 = .ok (.aload_n 0, 1) := by decide +kernel
theorem dX8_findSplit_94 : decode cX8_findSplit 94 = .ok (.getfield 16, 3) := by decide +kernel
theorem dX8_findSplit_97 : decode cX8_findSplit 97 = .ok (.aload_n 0, 1) := by decide +kernel
theorem dX8_findSplit_98 : decode cX8_findSplit 98 = .ok (.getfield 38, 3) := by decide +kernel
theorem dX8_findSplit_101 : decode cX8_findSplit 101 = .ok (.invokevirtual 80, 3) := by decide +kernel
theorem dX8_findSplit_104 : decode cX8_findSplit 104 = .ok (.aload_n 0, 1) := by decide +kernel
theorem dX8_findSplit_105 : decode cX8_findSplit 105 = .ok (.getfield 16, 3) := by decide +kernel
theorem dX8_findSplit_108 : decode cX8_findSplit 108 = .ok (.aload_n 0, 1) := by decide +kernel
theorem dX8_findSplit_109 : decode cX8_findSplit 109 = .ok (.getfield 47, 3) := by decide +kernel
theorem dX8_findSplit_112 : decode cX8_findSplit 112 = .ok (.invokestatic 98, 3) := by decide +kernel
theorem dX8_findSplit_115 : decode cX8_findSplit 115 = .ok (.iconst 1, 1) := by decide +kernel
theorem dX8_findSplit_116 : decode cX8_findSplit 116 = .ok (.istore_n 2, 1) := by decide +kernel
theorem dX8_findSplit_117 : decode cX8_findSplit 117 = .ok (.iload_n 2, 1) := by decide +kernel
theorem dX8_findSplit_118 : decode cX8_findSplit 118 = .ok (.iload_n 1, 1) := by decide +kernel
theorem dX8_findSplit_119 : decode cX8_findSplit 119 = .ok (.if_icmp .gt 42, 3) := by decide +kernel
theorem dX8_findSplit_122 : decode cX8_findSplit 122 = .ok (.aload_n 0, 1) := by decide +kernel
theorem dX8_findSplit_123 : decode cX8_findSplit 123 = .ok (.getfield 38, 3) := by decide +kernel
theorem dX8_findSplit_126 : decode cX8_findSplit 126 = .ok (.ldc2_w 104, 3) := by decide +kernel
theorem dX8_findSplit_129 : decode cX8_findSplit 129 = .ok (.invokestatic 94, 3) := by decide +kernel
theorem dX8_findSplit_132 : decode cX8_findSplit 132 = .ok (.aload_n 0, 1) := by decide +kernel
theorem dX8_findSplit_133 : decode cX8_findSplit 133 = .ok (.aload_n 0, 1) := by decide +kernel
theorem dX8_findSplit_134 : decode cX8_findSplit 134 = .ok (.getfield 22, 3) := by decide +kernel
theorem dX8_findSplit_137 : decode cX8_findSplit 137 = .ok (.aload_n 0, 1) := by decide +kernel
theorem dX8_findSplit_138 : decode cX8_findSplit 138 = .ok (.getfield 38, 3) := by decide +kernel
theorem dX8_findSplit_141 : decode cX8_findSplit 141 = .ok (.invokevirtual 106, 3) := by decide +kernel
theorem dX8_findSplit_144 : decode cX8_findSplit 144 = .ok (.aload_n 0, 1) := by decide +kernel
theorem dX8_findSplit_145 : decode cX8_findSplit 145 = .ok (.getfield 22, 3) := by decide +kernel
theorem dX8_findSplit_148 : decode cX8_findSplit 148 = .ok (.aload_n 0, 1) := by decide +kernel
theorem dX8_findSplit_149 : decode cX8_findSplit 149 = .ok (.getfield 44, 3) := by decide +kernel
theorem dX8_findSplit_152 : decode cX8_findSplit 152 = .ok (.invokestatic 98, 3) := by decide +kernel
theorem dX8_findSplit_155 : decode cX8_findSplit 155 = .ok (.iinc 2 1, 3) := by decide +kernel
theorem dX8_findSplit_158 : decode cX8_findSplit 158 = .ok (.goto (-41), 3) := by decide +kernel
theorem dX8_findSplit_161 : decode cX8_findSplit 161 = .ok (.aload_n 0, 1) := by decide +kernel
theorem dX8_findSplit_162 : decode cX8_findSplit 162 = .ok (.aload_n 0, 1) := by decide +kernel
theorem dX8_findSplit_163 : decode cX8_findSplit 163 = .ok (.getfield 19, 3) := by decide +kernel
theorem dX8_findSplit_166 : decode cX8_findSplit 166 = .ok (.aload_n 0, 1) := by decide +kernel
theorem dX8_findSplit_167 : decode cX8_findSplit 167 = .ok (.getfield 38, 3) := by decide +kernel
theorem dX8_findSplit_170 : decode cX8_findSplit 170 = .ok (.invokevirtual 80, 3) := by decide +kernel
theorem dX8_findSplit_173 : decode cX8_findSplit 173 = .ok (.aload_n 0, 1) := by decide +kernel
theorem dX8_findSplit_174 : decode cX8_findSplit 174 = .ok (.getfield 19, 3) := by decide +kernel
theorem dX8_findSplit_177 : decode cX8_findSplit 177 = .ok (.aload_n 0, 1) := by decide +kernel
theorem dX8_findSplit_178 : decode cX8_findSplit 178 = .ok (.getfield 47, 3) := by decide +kernel
theorem dX8_findSplit_181 : decode cX8_findSplit 181 = .ok (.invokestatic 98, 3) := by decide +kernel
theorem dX8_findSplit_184 : decode cX8_findSplit 184 = .ok (.iinc 1 1, 3) := by decide +kernel
theorem dX8_findSplit_187 : decode cX8_findSplit 187 = .ok (.goto (-149), 3) := by decide +kernel
theorem dX8_findSplit_190 : decode cX8_findSplit 190 = .ok (.return_, 1) := by decide +kernel
theorem dX8_found_0 : decode cX8_found 0 = .ok (.aload_n 0, 1) := by decide +kernel
theorem dX8_found_1 : decode cX8_found 1 = .ok (.aload_n 0, 1) := by decide +kernel
theorem dX8_found_2 : decode cX8_found 2 = .ok (.invokevirtual 109, 3) := by decide +kernel
theorem dX8_found_5 : decode cX8_found 5 = .ok (.ifCond .eq 7, 3) := by decide +kernel
theorem dX8_found_8 : decode cX8_found 8 = .ok (.iconst 1, 1) := by decide +kernel
theorem dX8_found_9 : decode cX8_found 9 = .ok (.goto 20, 3) := by decide +kernel
theorem dX8_found_12 : decode cX8_found 12 = .ok (.iload_n 1, 1) := by decide +kernel
theorem dX8_found_13 : decode cX8_found 13 = .ok (.i2l, 1) := by decide +kernel
theorem dX8_found_14 : decode cX8_found 14 = .ok (.lconst 0, 1) := by decide +kernel
theorem dX8_found_15 : decode cX8_found 15 = .ok (.ldc2_w 113, 3) := by decide +kernel
theorem dX8_found_18 : decode cX8_found 18 = .ok (.invokestatic 86, 3) := by decide +kernel
theorem dX8_found_21 : decode cX8_found 21 = .ok (.ifCond .eq 7, 3) := by decide +kernel
theorem dX8_found_24 : decode cX8_found 24 = .ok (.iconst 0, 1) := by decide +kernel
theorem dX8_found_25 : decode cX8_found 25 = .ok (.goto 4, 3) := by decide +kernel
theorem dX8_found_28 : decode cX8_found 28 = .ok (.iconst 2, 1) := by decide +kernel
theorem dX8_found_29 : decode cX8_found 29 = .ok (.putfield 59, 3) := by decide +kernel
theorem dX8_found_32 : decode cX8_found 32 = .ok (.aload_n 0, 1) := by decide +kernel
theorem dX8_found_33 : decode cX8_found 33 = .ok (.getfield 59, 3) := by decide +kernel
theorem dX8_found_36 : decode cX8_found 36 = .ok (.ifCond .le 5, 3) := by decide +kernel
theorem dX8_found_39 : decode cX8_found 39 = .ok (.iconst 0, 1) := by decide +kernel
theorem dX8_found_40 : decode cX8_found 40 = .ok (.ireturn, 1) := by decide +kernel
theorem dX8_found_41 : decode cX8_found 41 = .ok (.aload_n 0, 1) := by decide +kernel
theorem dX8_found_42 : decode cX8_found 42 = .ok (.invokevirtual 115, 3) := by decide +kernel
theorem dX8_found_45 : decode cX8_found 45 = .ok (.aload_n 0, 1) := by decide +kernel
theorem dX8_found_46 : decode cX8_found 46 = .ok (.getfield 25, 3) := by decide +kernel
theorem dX8_found_49 : decode cX8_found 49 = .ok (.iload_n 1, 1) := by decide +kernel
theorem dX8_found_50 : decode cX8_found 50 = .ok (.iaload, 1) := by decide +kernel
theorem dX8_found_51 : decode cX8_found 51 = .ok (.ireturn, 1) := by decide +kernel
theorem dX8_takes_0 : decode cX8_takes 0 = .ok (.aload_n 0, 1) := by decide +kernel
theorem dX8_takes_1 : decode cX8_takes 1 = .ok (.aload_n 0, 1) := by decide +kernel
theorem dX8_takes_2 : decode cX8_takes 2 = .ok (.invokevirtual 109, 3) := by decide +kernel
theorem dX8_takes_5 : decode cX8_takes 5 = .ok (.ifCond .eq 7, 3) := by decide +kernel
theorem dX8_takes_8 : decode cX8_takes 8 = .ok (.iconst 1, 1) := by decide +kernel
theorem dX8_takes_9 : decode cX8_takes 9 = .ok (.goto 20, 3) := by decide +kernel
theorem dX8_takes_12 : decode cX8_takes 12 = .ok (.iload_n 1, 1) := by decide +kernel
theorem dX8_takes_13 : decode cX8_takes 13 = .ok (.i2l, 1) := by decide +kernel
theorem dX8_takes_14 : decode cX8_takes 14 = .ok (.lconst 0, 1) := by decide +kernel
theorem dX8_takes_15 : decode cX8_takes 15 = .ok (.ldc2_w 118, 3) := by decide +kernel
theorem dX8_takes_18 : decode cX8_takes 18 = .ok (.invokestatic 86, 3) := by decide +kernel
theorem dX8_takes_21 : decode cX8_takes 21 = .ok (.ifCond .eq 7, 3) := by decide +kernel
theorem dX8_takes_24 : decode cX8_takes 24 = .ok (.iconst 0, 1) := by decide +kernel
theorem dX8_takes_25 : decode cX8_takes 25 = .ok (.goto 4, 3) := by decide +kernel
theorem dX8_takes_28 : decode cX8_takes 28 = .ok (.iconst 2, 1) := by decide +kernel
theorem dX8_takes_29 : decode cX8_takes 29 = .ok (.putfield 59, 3) := by decide +kernel
theorem dX8_takes_32 : decode cX8_takes 32 = .ok (.aload_n 0, 1) := by decide +kernel
theorem dX8_takes_33 : decode cX8_takes 33 = .ok (.getfield 59, 3) := by decide +kernel
theorem dX8_takes_36 : decode cX8_takes 36 = .ok (.ifCond .le 5, 3) := by decide +kernel
theorem dX8_takes_39 : decode cX8_takes 39 = .ok (.iconst 0, 1) := by decide +kernel
theorem dX8_takes_40 : decode cX8_takes 40 = .ok (.ireturn, 1) := by decide +kernel
theorem dX8_takes_41 : decode cX8_takes 41 = .ok (.aload_n 0, 1) := by decide +kernel
theorem dX8_takes_42 : decode cX8_takes 42 = .ok (.invokevirtual 115, 3) := by decide +kernel
theorem dX8_takes_45 : decode cX8_takes 45 = .ok (.aload_n 0, 1) := by decide +kernel
theorem dX8_takes_46 : decode cX8_takes 46 = .ok (.getfield 44, 3) := by decide +kernel
theorem dX8_takes_49 : decode cX8_takes 49 = .ok (.iload_n 1, 1) := by decide +kernel
theorem dX8_takes_50 : decode cX8_takes 50 = .ok (.ifCond .ne 10, 3) := by decide +kernel
theorem dX8_takes_53 : decode cX8_takes 53 = .ok (.aload_n 0, 1) := by decide +kernel
theorem dX8_takes_54 : decode cX8_takes 54 = .ok (.getfield 16, 3) := by decide +kernel
theorem dX8_takes_57 : decode cX8_takes 57 = .ok (.goto 19, 3) := by decide +kernel
theorem dX8_takes_60 : decode cX8_takes 60 = .ok (.iload_n 1, 1) := by decide +kernel
theorem dX8_takes_61 : decode cX8_takes 61 = .ok (.iconst 1, 1) := by decide +kernel
theorem dX8_takes_62 : decode cX8_takes 62 = .ok (.if_icmp .ne 10, 3) := by decide +kernel
theorem dX8_takes_65 : decode cX8_takes 65 = .ok (.aload_n 0, 1) := by decide +kernel
theorem dX8_takes_66 : decode cX8_takes 66 = .ok (.getfield 19, 3) := by decide +kernel
theorem dX8_takes_69 : decode cX8_takes 69 = .ok (.goto 7, 3) := by decide +kernel
theorem dX8_takes_72 : decode cX8_takes 72 = .ok (.aload_n 0, 1) := by decide +kernel
theorem dX8_takes_73 : decode cX8_takes 73 = .ok (.getfield 22, 3) := by decide +kernel
theorem dX8_takes_76 : decode cX8_takes 76 = .ok (.invokestatic 98, 3) := by decide +kernel
theorem dX8_takes_79 : decode cX8_takes 79 = .ok (.iconst 1, 1) := by decide +kernel
theorem dX8_takes_80 : decode cX8_takes 80 = .ok (.ireturn, 1) := by decide +kernel
theorem dX8_degree_0 : decode cX8_degree 0 = .ok (.aload_n 0, 1) := by decide +kernel
theorem dX8_degree_1 : decode cX8_degree 1 = .ok (.iload_n 1, 1) := by decide +kernel
theorem dX8_degree_2 : decode cX8_degree 2 = .ok (.invokevirtual 120, 3) := by decide +kernel
theorem dX8_degree_5 : decode cX8_degree 5 = .ok (.ifCond .eq 13, 3) := by decide +kernel
theorem dX8_degree_8 : decode cX8_degree 8 = .ok (.aload_n 0, 1) := by decide +kernel
theorem dX8_degree_9 : decode cX8_degree 9 = .ok (.getfield 44, 3) := by decide +kernel
theorem dX8_degree_12 : decode cX8_degree 12 = .ok (.invokestatic 65, 3) := by decide +kernel
theorem dX8_degree_15 : decode cX8_degree 15 = .ok (.goto 4, 3) := by decide +kernel
theorem dX8_degree_18 : decode cX8_degree 18 = .ok (.iconst 0, 1) := by decide +kernel
theorem dX8_degree_19 : decode cX8_degree 19 = .ok (.ireturn, 1) := by decide +kernel
theorem dX8_split_0 : decode cX8_split 0 = .ok (.aload_n 0, 1) := by decide +kernel
theorem dX8_split_1 : decode cX8_split 1 = .ok (.iload_n 1, 1) := by decide +kernel
theorem dX8_split_2 : decode cX8_split 2 = .ok (.invokevirtual 120, 3) := by decide +kernel
theorem dX8_split_5 : decode cX8_split 5 = .ok (.ifCond .eq 25, 3) := by decide +kernel
theorem dX8_split_8 : decode cX8_split 8 = .ok (.iload_n 2, 1) := by decide +kernel
theorem dX8_split_9 : decode cX8_split 9 = .ok (.i2l, 1) := by decide +kernel
theorem dX8_split_10 : decode cX8_split 10 = .ok (.lconst 0, 1) := by decide +kernel
theorem dX8_split_11 : decode cX8_split 11 = .ok (.ldc2_w 123, 3) := by decide +kernel
theorem dX8_split_14 : decode cX8_split 14 = .ok (.invokestatic 86, 3) := by decide +kernel
theorem dX8_split_17 : decode cX8_split 17 = .ok (.ifCond .eq 13, 3) := by decide +kernel
theorem dX8_split_20 : decode cX8_split 20 = .ok (.aload_n 0, 1) := by decide +kernel
theorem dX8_split_21 : decode cX8_split 21 = .ok (.getfield 44, 3) := by decide +kernel
theorem dX8_split_24 : decode cX8_split 24 = .ok (.iload_n 2, 1) := by decide +kernel
theorem dX8_split_25 : decode cX8_split 25 = .ok (.laload, 1) := by decide +kernel
theorem dX8_split_26 : decode cX8_split 26 = .ok (.l2i, 1) := by decide +kernel
theorem dX8_split_27 : decode cX8_split 27 = .ok (.goto 4, 3) := by decide +kernel
theorem dX8_split_30 : decode cX8_split 30 = .ok (.iconst 0, 1) := by decide +kernel
theorem dX8_split_31 : decode cX8_split 31 = .ok (.ireturn, 1) := by decide +kernel
theorem dX8_fill_0 : decode cX8_fill 0 = .ok (.aload_n 0, 1) := by decide +kernel
theorem dX8_fill_1 : decode cX8_fill 1 = .ok (.getfield 41, 3) := by decide +kernel
theorem dX8_fill_4 : decode cX8_fill 4 = .ok (.aload_n 0, 1) := by decide +kernel
theorem dX8_fill_5 : decode cX8_fill 5 = .ok (.getfield 19, 3) := by decide +kernel
theorem dX8_fill_8 : decode cX8_fill 8 = .ok (.invokestatic 98, 3) := by decide +kernel
theorem dX8_fill_11 : decode cX8_fill 11 = .ok (.aload_n 0, 1) := by decide +kernel
theorem dX8_fill_12 : decode cX8_fill 12 = .ok (.getfield 41, 3) := by decide +kernel
theorem dX8_fill_15 : decode cX8_fill 15 = .ok (.ldc2_w 104, 3) := by decide +kernel
theorem dX8_fill_18 : decode cX8_fill 18 = .ok (.invokestatic 94, 3) := by decide +kernel
theorem dX8_fill_21 : decode cX8_fill 21 = .ok (.iconst 0, 1) := by decide +kernel
theorem dX8_fill_22 : decode cX8_fill 22 = .ok (.istore_n 1, 1) := by decide +kernel
theorem dX8_fill_23 : decode cX8_fill 23 = .ok (.iload_n 1, 1) := by decide +kernel
theorem dX8_fill_24 : decode cX8_fill 24 = .ok (.bipush 20, 2) := by decide +kernel
theorem dX8_fill_26 : decode cX8_fill 26 = .ok (.if_icmp .gt 137, 3) := by decide +kernel
theorem dX8_fill_29 : decode cX8_fill 29 = .ok (.aload_n 0, 1) := by decide +kernel
theorem dX8_fill_30 : decode cX8_fill 30 = .ok (.getfield 38, 3) := by decide +kernel
theorem dX8_fill_33 : decode cX8_fill 33 = .ok (.invokestatic 69, 3) := by decide +kernel
theorem dX8_fill_36 : decode cX8_fill 36 = .ok (.aload_n 0, 1) := by decide +kernel
theorem dX8_fill_37 : decode cX8_fill 37 = .ok (.getfield 38, 3) := by decide +kernel
theorem dX8_fill_40 : decode cX8_fill 40 = .ok (.iload_n 1, 1) := by decide +kernel
theorem dX8_fill_41 : decode cX8_fill 41 = .ok (.lconst 1, 1) := by decide +kernel
theorem dX8_fill_42 : decode cX8_fill 42 = .ok (.lastore, 1) := by decide +kernel
theorem dX8_fill_43 : decode cX8_fill 43 = .ok (.aload_n 0, 1) := by decide +kernel
theorem dX8_fill_44 : decode cX8_fill 44 = .ok (.aload_n 0, 1) := by decide +kernel
theorem dX8_fill_45 : decode cX8_fill 45 = .ok (.getfield 41, 3) := by decide +kernel
theorem dX8_fill_48 : decode cX8_fill 48 = .ok (.aload_n 0, 1) := by decide +kernel
theorem dX8_fill_49 : decode cX8_fill 49 = .ok (.getfield 38, 3) := by decide +kernel
theorem dX8_fill_52 : decode cX8_fill 52 = .ok (.invokevirtual 106, 3) := by decide +kernel
theorem dX8_fill_55 : decode cX8_fill 55 = .ok (.iconst 0, 1) := by decide +kernel
theorem dX8_fill_56 : decode cX8_fill 56 = .ok (.istore_n 2, 1) := by decide +kernel
theorem dX8_fill_57 : decode cX8_fill 57 = .ok (.iload_n 2, 1) := by decide +kernel
theorem dX8_fill_58 : decode cX8_fill 58 = .ok (.bipush 64, 2) := by decide +kernel
theorem dX8_fill_60 : decode cX8_fill 60 = .ok (.if_icmp .ge 30, 3) := by decide +kernel
theorem dX8_fill_63 : decode cX8_fill 63 = .ok (.aload_n 0, 1) := by decide +kernel
theorem dX8_fill_64 : decode cX8_fill 64 = .ok (.getfield 50, 3) := by decide +kernel
theorem dX8_fill_67 : decode cX8_fill 67 = .ok (.bipush 22, 2) := by decide +kernel
theorem dX8_fill_69 : decode cX8_fill 69 = .ok (.iload_n 2, 1) := by decide +kernel
theorem dX8_fill_70 : decode cX8_fill 70 = .ok (.imul, 1) := by decide +kernel
theorem dX8_fill_71 : decode cX8_fill 71 = .ok (.iload_n 1, 1) := by decide +kernel
theorem dX8_fill_72 : decode cX8_fill 72 = .ok (.iadd, 1) := by decide +kernel
theorem dX8_fill_73 : decode cX8_fill 73 = .ok (.ldc2_w 63, 3) := by decide +kernel
theorem dX8_fill_76 : decode cX8_fill 76 = .ok (.aload_n 0, 1) := by decide +kernel
theorem dX8_fill_77 : decode cX8_fill 77 = .ok (.getfield 44, 3) := by decide +kernel
theorem dX8_fill_80 : decode cX8_fill 80 = .ok (.iload_n 2, 1) := by decide +kernel
theorem dX8_fill_81 : decode cX8_fill 81 = .ok (.laload, 1) := by decide +kernel
theorem dX8_fill_82 : decode cX8_fill 82 = .ok (.lsub, 1) := by decide +kernel
theorem dX8_fill_83 : decode cX8_fill 83 = .ok (.lastore, 1) := by decide +kernel
theorem dX8_fill_84 : decode cX8_fill 84 = .ok (.iinc 2 1, 3) := by decide +kernel
theorem dX8_fill_87 : decode cX8_fill 87 = .ok (.goto (-30), 3) := by decide +kernel
theorem dX8_fill_90 : decode cX8_fill 90 = .ok (.aload_n 0, 1) := by decide +kernel
theorem dX8_fill_91 : decode cX8_fill 91 = .ok (.getfield 38, 3) := by decide +kernel
theorem dX8_fill_94 : decode cX8_fill 94 = .ok (.lconst 1, 1) := by decide +kernel
theorem dX8_fill_95 : decode cX8_fill 95 = .ok (.invokestatic 94, 3) := by decide +kernel
theorem dX8_fill_98 : decode cX8_fill 98 = .ok (.aload_n 0, 1) := by decide +kernel
theorem dX8_fill_99 : decode cX8_fill 99 = .ok (.aload_n 0, 1) := by decide +kernel
theorem dX8_fill_100 : decode cX8_fill 100 = .ok (.getfield 16, 3) := by decide +kernel
theorem dX8_fill_103 : decode cX8_fill 103 = .ok (.aload_n 0, 1) := by decide +kernel
theorem dX8_fill_104 : decode cX8_fill 104 = .ok (.getfield 38, 3) := by decide +kernel
theorem dX8_fill_107 : decode cX8_fill 107 = .ok (.invokevirtual 106, 3) := by decide +kernel
theorem dX8_fill_110 : decode cX8_fill 110 = .ok (.iconst 0, 1) := by decide +kernel
theorem dX8_fill_111 : decode cX8_fill 111 = .ok (.istore_n 2, 1) := by decide +kernel
theorem dX8_fill_112 : decode cX8_fill 112 = .ok (.iload_n 2, 1) := by decide +kernel
theorem dX8_fill_113 : decode cX8_fill 113 = .ok (.bipush 64, 2) := by decide +kernel
theorem dX8_fill_115 : decode cX8_fill 115 = .ok (.if_icmp .ge 42, 3) := by decide +kernel
theorem dX8_fill_118 : decode cX8_fill 118 = .ok (.aload_n 0, 1) := by decide +kernel
theorem dX8_fill_119 : decode cX8_fill 119 = .ok (.getfield 50, 3) := by decide +kernel
theorem dX8_fill_122 : decode cX8_fill 122 = .ok (.bipush 22, 2) := by decide +kernel
theorem dX8_fill_124 : decode cX8_fill 124 = .ok (.iload_n 2, 1) := by decide +kernel
theorem dX8_fill_125 : decode cX8_fill 125 = .ok (.imul, 1) := by decide +kernel
theorem dX8_fill_126 : decode cX8_fill 126 = .ok (.iload_n 1, 1) := by decide +kernel
theorem dX8_fill_127 : decode cX8_fill 127 = .ok (.iadd, 1) := by decide +kernel
theorem dX8_fill_128 : decode cX8_fill 128 = .ok (.aload_n 0, 1) := by decide +kernel
theorem dX8_fill_129 : decode cX8_fill 129 = .ok (.getfield 50, 3) := by decide +kernel
theorem dX8_fill_132 : decode cX8_fill 132 = .ok (.bipush 22, 2) := by decide +kernel
theorem dX8_fill_134 : decode cX8_fill 134 = .ok (.iload_n 2, 1) := by decide +kernel
theorem dX8_fill_135 : decode cX8_fill 135 = .ok (.imul, 1) := by decide +kernel
theorem dX8_fill_136 : decode cX8_fill 136 = .ok (.iload_n 1, 1) := by decide +kernel
theorem dX8_fill_137 : decode cX8_fill 137 = .ok (.iadd, 1) := by decide +kernel
theorem dX8_fill_138 : decode cX8_fill 138 = .ok (.laload, 1) := by decide +kernel
theorem dX8_fill_139 : decode cX8_fill 139 = .ok (.aload_n 0, 1) := by decide +kernel
theorem dX8_fill_140 : decode cX8_fill 140 = .ok (.getfield 44, 3) := by decide +kernel
theorem dX8_fill_143 : decode cX8_fill 143 = .ok (.iload_n 2, 1) := by decide +kernel
theorem dX8_fill_144 : decode cX8_fill 144 = .ok (.laload, 1) := by decide +kernel
theorem dX8_fill_145 : decode cX8_fill 145 = .ok (.ladd, 1) := by decide +kernel
theorem dX8_fill_146 : decode cX8_fill 146 = .ok (.ldc2_w 63, 3) := by decide +kernel
theorem dX8_fill_149 : decode cX8_fill 149 = .ok (.lrem, 1) := by decide +kernel
theorem dX8_fill_150 : decode cX8_fill 150 = .ok (.lastore, 1) := by decide +kernel
theorem dX8_fill_151 : decode cX8_fill 151 = .ok (.iinc 2 1, 3) := by decide +kernel
theorem dX8_fill_154 : decode cX8_fill 154 = .ok (.goto (-42), 3) := by decide +kernel
theorem dX8_fill_157 : decode cX8_fill 157 = .ok (.iinc 1 1, 3) := by decide +kernel
theorem dX8_fill_160 : decode cX8_fill 160 = .ok (.goto (-137), 3) := by decide +kernel
theorem dX8_fill_163 : decode cX8_fill 163 = .ok (.iconst 0, 1) := by decide +kernel
theorem dX8_fill_164 : decode cX8_fill 164 = .ok (.istore_n 1, 1) := by decide +kernel
theorem dX8_fill_165 : decode cX8_fill 165 = .ok (.iload_n 1, 1) := by decide +kernel
theorem dX8_fill_166 : decode cX8_fill 166 = .ok (.bipush 64, 2) := by decide +kernel
theorem dX8_fill_168 : decode cX8_fill 168 = .ok (.if_icmp .ge 27, 3) := by decide +kernel
theorem dX8_fill_171 : decode cX8_fill 171 = .ok (.aload_n 0, 1) := by decide +kernel
theorem dX8_fill_172 : decode cX8_fill 172 = .ok (.getfield 50, 3) := by decide +kernel
theorem dX8_fill_175 : decode cX8_fill 175 = .ok (.bipush 22, 2) := by decide +kernel
theorem dX8_fill_177 : decode cX8_fill 177 = .ok (.iload_n 1, 1) := by decide +kernel
theorem dX8_fill_178 : decode cX8_fill 178 = .ok (.imul, 1) := by decide +kernel
theorem dX8_fill_179 : decode cX8_fill 179 = .ok (.bipush 21, 2) := by decide +kernel
theorem dX8_fill_181 : decode cX8_fill 181 = .ok (.iadd, 1) := by decide +kernel
theorem dX8_fill_182 : decode cX8_fill 182 = .ok (.aload_n 0, 1) := by decide +kernel
theorem dX8_fill_183 : decode cX8_fill 183 = .ok (.getfield 22, 3) := by decide +kernel
theorem dX8_fill_186 : decode cX8_fill 186 = .ok (.iload_n 1, 1) := by decide +kernel
theorem dX8_fill_187 : decode cX8_fill 187 = .ok (.laload, 1) := by decide +kernel
theorem dX8_fill_188 : decode cX8_fill 188 = .ok (.lastore, 1) := by decide +kernel
theorem dX8_fill_189 : decode cX8_fill 189 = .ok (.iinc 1 1, 3) := by decide +kernel
theorem dX8_fill_192 : decode cX8_fill 192 = .ok (.goto (-27), 3) := by decide +kernel
theorem dX8_fill_195 : decode cX8_fill 195 = .ok (.return_, 1) := by decide +kernel
theorem dX8_solve_0 : decode cX8_solve 0 = .ok (.aload_n 0, 1) := by decide +kernel
theorem dX8_solve_1 : decode cX8_solve 1 = .ok (.invokevirtual 115, 3) := by decide +kernel
theorem dX8_solve_4 : decode cX8_solve 4 = .ok (.aload_n 0, 1) := by decide +kernel
theorem dX8_solve_5 : decode cX8_solve 5 = .ok (.invokevirtual 125, 3) := by decide +kernel
theorem dX8_solve_8 : decode cX8_solve 8 = .ok (.iconst 0, 1) := by decide +kernel
theorem dX8_solve_9 : decode cX8_solve 9 = .ok (.istore_n 1, 1) := by decide +kernel
theorem dX8_solve_10 : decode cX8_solve 10 = .ok (.iconst 0, 1) := by decide +kernel
theorem dX8_solve_11 : decode cX8_solve 11 = .ok (.istore_n 2, 1) := by decide +kernel
theorem dX8_solve_12 : decode cX8_solve 12 = .ok (.iload_n 2, 1) := by decide +kernel
theorem dX8_solve_13 : decode cX8_solve 13 = .ok (.bipush 20, 2) := by decide +kernel
theorem dX8_solve_15 : decode cX8_solve 15 = .ok (.if_icmp .gt 193, 3) := by decide +kernel
theorem dX8_solve_18 : decode cX8_solve 18 = .ok (.iload_n 1, 1) := by decide +kernel
theorem dX8_solve_19 : decode cX8_solve 19 = .ok (.istore_n 3, 1) := by decide +kernel
theorem dX8_solve_20 : decode cX8_solve 20 = .ok (.iload_n 3, 1) := by decide +kernel
theorem dX8_solve_21 : decode cX8_solve 21 = .ok (.bipush 64, 2) := by decide +kernel
theorem dX8_solve_23 : decode cX8_solve 23 = .ok (.if_icmp .ge 25, 3) := by decide +kernel
theorem dX8_solve_26 : decode cX8_solve 26 = .ok (.aload_n 0, 1) := by decide +kernel
theorem dX8_solve_27 : decode cX8_solve 27 = .ok (.getfield 50, 3) := by decide +kernel
theorem dX8_solve_30 : decode cX8_solve 30 = .ok (.bipush 22, 2) := by decide +kernel
theorem dX8_solve_32 : decode cX8_solve 32 = .ok (.iload_n 3, 1) := by decide +kernel
theorem dX8_solve_33 : decode cX8_solve 33 = .ok (.imul, 1) := by decide +kernel
theorem dX8_solve_34 : decode cX8_solve 34 = .ok (.iload_n 2, 1) := by decide +kernel
theorem dX8_solve_35 : decode cX8_solve 35 = .ok (.iadd, 1) := by decide +kernel
theorem dX8_solve_36 : decode cX8_solve 36 = .ok (.laload, 1) := by decide +kernel
theorem dX8_solve_37 : decode cX8_solve 37 = .ok (.lconst 0, 1) := by decide +kernel
theorem dX8_solve_38 : decode cX8_solve 38 = .ok (.lcmp, 1) := by decide +kernel
theorem dX8_solve_39 : decode cX8_solve 39 = .ok (.ifCond .ne 9, 3) := by decide +kernel
theorem dX8_solve_42 : decode cX8_solve 42 = .ok (.iinc 3 1, 3) := by decide +kernel
theorem dX8_solve_45 : decode cX8_solve 45 = .ok (.goto (-25), 3) := by decide +kernel
theorem dX8_solve_48 : decode cX8_solve 48 = .ok (.aload_n 0, 1) := by decide +kernel
theorem dX8_solve_49 : decode cX8_solve 49 = .ok (.getfield 53, 3) := by decide +kernel
theorem dX8_solve_52 : decode cX8_solve 52 = .ok (.iload_n 2, 1) := by decide +kernel
theorem dX8_solve_53 : decode cX8_solve 53 = .ok (.iload_n 3, 1) := by decide +kernel
theorem dX8_solve_54 : decode cX8_solve 54 = .ok (.bipush 64, 2) := by decide +kernel
theorem dX8_solve_56 : decode cX8_solve 56 = .ok (.if_icmp .ne 7, 3) := by decide +kernel
theorem dX8_solve_59 : decode cX8_solve 59 = .ok (.iconst (-1), 1) := by decide +kernel
theorem dX8_solve_60 : decode cX8_solve 60 = .ok (.goto 4, 3) := by decide +kernel
theorem dX8_solve_63 : decode cX8_solve 63 = .ok (.iload_n 1, 1) := by decide +kernel
theorem dX8_solve_64 : decode cX8_solve 64 = .ok (.iastore, 1) := by decide +kernel
theorem dX8_solve_65 : decode cX8_solve 65 = .ok (.iload_n 3, 1) := by decide +kernel
theorem dX8_solve_66 : decode cX8_solve 66 = .ok (.bipush 64, 2) := by decide +kernel
theorem dX8_solve_68 : decode cX8_solve 68 = .ok (.if_icmp .ge 13, 3) := by decide +kernel
theorem dX8_solve_71 : decode cX8_solve 71 = .ok (.aload_n 0, 1) := by decide +kernel
theorem dX8_solve_72 : decode cX8_solve 72 = .ok (.iload_n 1, 1) := by decide +kernel
theorem dX8_solve_73 : decode cX8_solve 73 = .ok (.iload_n 3, 1) := by decide +kernel
theorem dX8_solve_74 : decode cX8_solve 74 = .ok (.iload_n 2, 1) := by decide +kernel
theorem dX8_solve_75 : decode cX8_solve 75 = .ok (.invokevirtual 128, 3) := by decide +kernel
theorem dX8_solve_78 : decode cX8_solve 78 = .ok (.iinc 1 1, 3) := by decide +kernel
theorem dX8_solve_81 : decode cX8_solve 81 = .ok (.iconst 1, 1) := by decide +kernel
theorem dX8_solve_82 : decode cX8_solve 82 = .ok (.istore 4, 2) := by decide +kernel
theorem dX8_solve_84 : decode cX8_solve 84 = .ok (.iload_n 1, 1) := by decide +kernel
theorem dX8_solve_85 : decode cX8_solve 85 = .ok (.istore 5, 2) := by decide +kernel
theorem dX8_solve_87 : decode cX8_solve 87 = .ok (.iload 5, 2) := by decide +kernel
theorem dX8_solve_89 : decode cX8_solve 89 = .ok (.bipush 64, 2) := by decide +kernel
theorem dX8_solve_91 : decode cX8_solve 91 = .ok (.if_icmp .ge 39, 3) := by decide +kernel
theorem dX8_solve_94 : decode cX8_solve 94 = .ok (.iload 4, 2) := by decide +kernel
theorem dX8_solve_96 : decode cX8_solve 96 = .ok (.ifCond .eq 25, 3) := by decide +kernel
theorem dX8_solve_99 : decode cX8_solve 99 = .ok (.aload_n 0, 1) := by decide +kernel
theorem dX8_solve_100 : decode cX8_solve 100 = .ok (.getfield 50, 3) := by decide +kernel
theorem dX8_solve_103 : decode cX8_solve 103 = .ok (.bipush 22, 2) := by decide +kernel
theorem dX8_solve_105 : decode cX8_solve 105 = .ok (.iload 5, 2) := by decide +kernel
theorem dX8_solve_107 : decode cX8_solve 107 = .ok (.imul, 1) := by decide +kernel
theorem dX8_solve_108 : decode cX8_solve 108 = .ok (.bipush 21, 2) := by decide +kernel
theorem dX8_solve_110 : decode cX8_solve 110 = .ok (.iadd, 1) := by decide +kernel
theorem dX8_solve_111 : decode cX8_solve 111 = .ok (.laload, 1) := by decide +kernel
theorem dX8_solve_112 : decode cX8_solve 112 = .ok (.lconst 0, 1) := by decide +kernel
theorem dX8_solve_113 : decode cX8_solve 113 = .ok (.lcmp, 1) := by decide +kernel
theorem dX8_solve_114 : decode cX8_solve 114 = .ok (.ifCond .ne 7, 3) := by decide +kernel
theorem dX8_solve_117 : decode cX8_solve 117 = .ok (.iconst 1, 1) := by decide +kernel
theorem dX8_solve_118 : decode cX8_solve 118 = .ok (.goto 4, 3) := by decide +kernel
theorem dX8_solve_121 : decode cX8_solve 121 = .ok (.iconst 0, 1) := by decide +kernel
theorem dX8_solve_122 : decode cX8_solve 122 = .ok (.istore 4, 2) := by decide +kernel
theorem dX8_solve_124 : decode cX8_solve 124 = .ok (.iinc 5 1, 3) := by decide +kernel
theorem dX8_solve_127 : decode cX8_solve 127 = .ok (.goto (-40), 3) := by decide +kernel
theorem dX8_solve_130 : decode cX8_solve 130 = .ok (.iload 4, 2) := by decide +kernel
theorem dX8_solve_132 : decode cX8_solve 132 = .ok (.ifCond .ne 6, 3) := by decide +kernel
theorem dX8_solve_135 : decode cX8_solve 135 = .ok (.goto 67, 3) := by decide +kernel
theorem dX8_solve_138 : decode cX8_solve 138 = .ok (.aload_n 0, 1) := by decide +kernel
theorem dX8_solve_139 : decode cX8_solve 139 = .ok (.getfield 29, 3) := by decide +kernel
theorem dX8_solve_142 : decode cX8_solve 142 = .ok (.invokestatic 69, 3) := by decide +kernel
theorem dX8_solve_145 : decode cX8_solve 145 = .ok (.iconst 0, 1) := by decide +kernel
theorem dX8_solve_146 : decode cX8_solve 146 = .ok (.istore 5, 2) := by decide +kernel
theorem dX8_solve_148 : decode cX8_solve 148 = .ok (.iload 5, 2) := by decide +kernel
theorem dX8_solve_150 : decode cX8_solve 150 = .ok (.iload_n 2, 1) := by decide +kernel
theorem dX8_solve_151 : decode cX8_solve 151 = .ok (.if_icmp .gt 49, 3) := by decide +kernel
theorem dX8_solve_154 : decode cX8_solve 154 = .ok (.aload_n 0, 1) := by decide +kernel
theorem dX8_solve_155 : decode cX8_solve 155 = .ok (.getfield 29, 3) := by decide +kernel
theorem dX8_solve_158 : decode cX8_solve 158 = .ok (.iload 5, 2) := by decide +kernel
theorem dX8_solve_160 : decode cX8_solve 160 = .ok (.aload_n 0, 1) := by decide +kernel
theorem dX8_solve_161 : decode cX8_solve 161 = .ok (.getfield 53, 3) := by decide +kernel
theorem dX8_solve_164 : decode cX8_solve 164 = .ok (.iload 5, 2) := by decide +kernel
theorem dX8_solve_166 : decode cX8_solve 166 = .ok (.iaload, 1) := by decide +kernel
theorem dX8_solve_167 : decode cX8_solve 167 = .ok (.iconst (-1), 1) := by decide +kernel
theorem dX8_solve_168 : decode cX8_solve 168 = .ok (.if_icmp .ne 7, 3) := by decide +kernel
theorem dX8_solve_171 : decode cX8_solve 171 = .ok (.lconst 0, 1) := by decide +kernel
theorem dX8_solve_172 : decode cX8_solve 172 = .ok (.goto 21, 3) := by decide +kernel
theorem dX8_solve_175 : decode cX8_solve 175 = .ok (.aload_n 0, 1) := by decide +kernel
theorem dX8_solve_176 : decode cX8_solve 176 = .ok (.getfield 50, 3) := by decide +kernel
theorem dX8_solve_179 : decode cX8_solve 179 = .ok (.bipush 22, 2) := by decide +kernel
theorem dX8_solve_181 : decode cX8_solve 181 = .ok (.aload_n 0, 1) := by decide +kernel
theorem dX8_solve_182 : decode cX8_solve 182 = .ok (.getfield 53, 3) := by decide +kernel
theorem dX8_solve_185 : decode cX8_solve 185 = .ok (.iload 5, 2) := by decide +kernel
theorem dX8_solve_187 : decode cX8_solve 187 = .ok (.iaload, 1) := by decide +kernel
theorem dX8_solve_188 : decode cX8_solve 188 = .ok (.imul, 1) := by decide +kernel
theorem dX8_solve_189 : decode cX8_solve 189 = .ok (.bipush 21, 2) := by decide +kernel
theorem dX8_solve_191 : decode cX8_solve 191 = .ok (.iadd, 1) := by decide +kernel
theorem dX8_solve_192 : decode cX8_solve 192 = .ok (.laload, 1) := by decide +kernel
theorem dX8_solve_193 : decode cX8_solve 193 = .ok (.lastore, 1) := by decide +kernel
theorem dX8_solve_194 : decode cX8_solve 194 = .ok (.iinc 5 1, 3) := by decide +kernel
theorem dX8_solve_197 : decode cX8_solve 197 = .ok (.goto (-49), 3) := by decide +kernel
theorem dX8_solve_200 : decode cX8_solve 200 = .ok (.iload_n 2, 1) := by decide +kernel
theorem dX8_solve_201 : decode cX8_solve 201 = .ok (.ireturn, 1) := by decide +kernel
theorem dX8_solve_202 : decode cX8_solve 202 = .ok (.iinc 2 1, 3) := by decide +kernel
theorem dX8_solve_205 : decode cX8_solve 205 = .ok (.goto (-193), 3) := by decide +kernel
theorem dX8_solve_208 : decode cX8_solve 208 = .ok (.iconst (-1), 1) := by decide +kernel
theorem dX8_solve_209 : decode cX8_solve 209 = .ok (.ireturn, 1) := by decide +kernel
theorem dX8_bringOut_0 : decode cX8_bringOut 0 = .ok (.iconst 0, 1) := by decide +kernel
theorem dX8_bringOut_1 : decode cX8_bringOut 1 = .ok (.istore 4, 2) := by decide +kernel
theorem dX8_bringOut_3 : decode cX8_bringOut 3 = .ok (.iload 4, 2) := by decide +kernel
theorem dX8_bringOut_5 : decode cX8_bringOut 5 = .ok (.bipush 22, 2) := by decide +kernel
theorem dX8_bringOut_7 : decode cX8_bringOut 7 = .ok (.if_icmp .ge 61, 3) := by decide +kernel
theorem dX8_bringOut_10 : decode cX8_bringOut 10 = .ok (.aload_n 0, 1) := by decide +kernel
theorem dX8_bringOut_11 : decode cX8_bringOut 11 = .ok (.getfield 50, 3) := by decide +kernel
theorem dX8_bringOut_14 : decode cX8_bringOut 14 = .ok (.bipush 22, 2) := by decide +kernel
theorem dX8_bringOut_16 : decode cX8_bringOut 16 = .ok (.iload_n 2, 1) := by decide +kernel
theorem dX8_bringOut_17 : decode cX8_bringOut 17 = .ok (.imul, 1) := by decide +kernel
theorem dX8_bringOut_18 : decode cX8_bringOut 18 = .ok (.iload 4, 2) := by decide +kernel
theorem dX8_bringOut_20 : decode cX8_bringOut 20 = .ok (.iadd, 1) := by decide +kernel
theorem dX8_bringOut_21 : decode cX8_bringOut 21 = .ok (.laload, 1) := by decide +kernel
theorem dX8_bringOut_22 : decode cX8_bringOut 22 = .ok (.lstore 5, 2) := by decide +kernel
theorem dX8_bringOut_24 : decode cX8_bringOut 24 = .ok (.aload_n 0, 1) := by decide +kernel
theorem dX8_bringOut_25 : decode cX8_bringOut 25 = .ok (.getfield 50, 3) := by decide +kernel
theorem dX8_bringOut_28 : decode cX8_bringOut 28 = .ok (.bipush 22, 2) := by decide +kernel
theorem dX8_bringOut_30 : decode cX8_bringOut 30 = .ok (.iload_n 2, 1) := by decide +kernel
theorem dX8_bringOut_31 : decode cX8_bringOut 31 = .ok (.imul, 1) := by decide +kernel
theorem dX8_bringOut_32 : decode cX8_bringOut 32 = .ok (.iload 4, 2) := by decide +kernel
theorem dX8_bringOut_34 : decode cX8_bringOut 34 = .ok (.iadd, 1) := by decide +kernel
theorem dX8_bringOut_35 : decode cX8_bringOut 35 = .ok (.aload_n 0, 1) := by decide +kernel
theorem dX8_bringOut_36 : decode cX8_bringOut 36 = .ok (.getfield 50, 3) := by decide +kernel
theorem dX8_bringOut_39 : decode cX8_bringOut 39 = .ok (.bipush 22, 2) := by decide +kernel
theorem dX8_bringOut_41 : decode cX8_bringOut 41 = .ok (.iload_n 1, 1) := by decide +kernel
theorem dX8_bringOut_42 : decode cX8_bringOut 42 = .ok (.imul, 1) := by decide +kernel
theorem dX8_bringOut_43 : decode cX8_bringOut 43 = .ok (.iload 4, 2) := by decide +kernel
theorem dX8_bringOut_45 : decode cX8_bringOut 45 = .ok (.iadd, 1) := by decide +kernel
theorem dX8_bringOut_46 : decode cX8_bringOut 46 = .ok (.laload, 1) := by decide +kernel
theorem dX8_bringOut_47 : decode cX8_bringOut 47 = .ok (.lastore, 1) := by decide +kernel
theorem dX8_bringOut_48 : decode cX8_bringOut 48 = .ok (.aload_n 0, 1) := by decide +kernel
theorem dX8_bringOut_49 : decode cX8_bringOut 49 = .ok (.getfield 50, 3) := by decide +kernel
theorem dX8_bringOut_52 : decode cX8_bringOut 52 = .ok (.bipush 22, 2) := by decide +kernel
theorem dX8_bringOut_54 : decode cX8_bringOut 54 = .ok (.iload_n 1, 1) := by decide +kernel
theorem dX8_bringOut_55 : decode cX8_bringOut 55 = .ok (.imul, 1) := by decide +kernel
theorem dX8_bringOut_56 : decode cX8_bringOut 56 = .ok (.iload 4, 2) := by decide +kernel
theorem dX8_bringOut_58 : decode cX8_bringOut 58 = .ok (.iadd, 1) := by decide +kernel
theorem dX8_bringOut_59 : decode cX8_bringOut 59 = .ok (.lload 5, 2) := by decide +kernel
theorem dX8_bringOut_61 : decode cX8_bringOut 61 = .ok (.lastore, 1) := by decide +kernel
theorem dX8_bringOut_62 : decode cX8_bringOut 62 = .ok (.iinc 4 1, 3) := by decide +kernel
theorem dX8_bringOut_65 : decode cX8_bringOut 65 = .ok (.goto (-62), 3) := by decide +kernel
theorem dX8_bringOut_68 : decode cX8_bringOut 68 = .ok (.aload_n 0, 1) := by decide +kernel
theorem dX8_bringOut_69 : decode cX8_bringOut 69 = .ok (.getfield 50, 3) := by decide +kernel
theorem dX8_bringOut_72 : decode cX8_bringOut 72 = .ok (.bipush 22, 2) := by decide +kernel
theorem dX8_bringOut_74 : decode cX8_bringOut 74 = .ok (.iload_n 1, 1) := by decide +kernel
theorem dX8_bringOut_75 : decode cX8_bringOut 75 = .ok (.imul, 1) := by decide +kernel
theorem dX8_bringOut_76 : decode cX8_bringOut 76 = .ok (.iload_n 3, 1) := by decide +kernel
theorem dX8_bringOut_77 : decode cX8_bringOut 77 = .ok (.iadd, 1) := by decide +kernel
theorem dX8_bringOut_78 : decode cX8_bringOut 78 = .ok (.laload, 1) := by decide +kernel
theorem dX8_bringOut_79 : decode cX8_bringOut 79 = .ok (.invokestatic 73, 3) := by decide +kernel
theorem dX8_bringOut_82 : decode cX8_bringOut 82 = .ok (.lstore 4, 2) := by decide +kernel
theorem dX8_bringOut_84 : decode cX8_bringOut 84 = .ok (.iconst 0, 1) := by decide +kernel
theorem dX8_bringOut_85 : decode cX8_bringOut 85 = .ok (.istore 6, 2) := by decide +kernel
theorem dX8_bringOut_87 : decode cX8_bringOut 87 = .ok (.iload 6, 2) := by decide +kernel
theorem dX8_bringOut_89 : decode cX8_bringOut 89 = .ok (.bipush 22, 2) := by decide +kernel
theorem dX8_bringOut_91 : decode cX8_bringOut 91 = .ok (.if_icmp .ge 40, 3) := by decide +kernel
theorem dX8_bringOut_94 : decode cX8_bringOut 94 = .ok (.aload_n 0, 1) := by decide +kernel
theorem dX8_bringOut_95 : decode cX8_bringOut 95 = .ok (.getfield 50, 3) := by decide +kernel
theorem dX8_bringOut_98 : decode cX8_bringOut 98 = .ok (.bipush 22, 2) := by decide +kernel
theorem dX8_bringOut_100 : decode cX8_bringOut 100 = .ok (.iload_n 1, 1) := by decide +kernel
theorem dX8_bringOut_101 : decode cX8_bringOut 101 = .ok (.imul, 1) := by decide +kernel
theorem dX8_bringOut_102 : decode cX8_bringOut 102 = .ok (.iload 6, 2) := by decide +kernel
theorem dX8_bringOut_104 : decode cX8_bringOut 104 = .ok (.iadd, 1) := by decide +kernel
theorem dX8_bringOut_105 : decode cX8_bringOut 105 = .ok (.aload_n 0, 1) := by decide +kernel
theorem dX8_bringOut_106 : decode cX8_bringOut 106 = .ok (.getfield 50, 3) := by decide +kernel
theorem dX8_bringOut_109 : decode cX8_bringOut 109 = .ok (.bipush 22, 2) := by decide +kernel
theorem dX8_bringOut_111 : decode cX8_bringOut 111 = .ok (.iload_n 1, 1) := by decide +kernel
theorem dX8_bringOut_112 : decode cX8_bringOut 112 = .ok (.imul, 1) := by decide +kernel
theorem dX8_bringOut_113 : decode cX8_bringOut 113 = .ok (.iload 6, 2) := by decide +kernel
theorem dX8_bringOut_115 : decode cX8_bringOut 115 = .ok (.iadd, 1) := by decide +kernel
theorem dX8_bringOut_116 : decode cX8_bringOut 116 = .ok (.laload, 1) := by decide +kernel
theorem dX8_bringOut_117 : decode cX8_bringOut 117 = .ok (.lload 4, 2) := by decide +kernel
theorem dX8_bringOut_119 : decode cX8_bringOut 119 = .ok (.lmul, 1) := by decide +kernel
theorem dX8_bringOut_120 : decode cX8_bringOut 120 = .ok (.ldc2_w 63, 3) := by decide +kernel
theorem dX8_bringOut_123 : decode cX8_bringOut 123 = .ok (.lrem, 1) := by decide +kernel
theorem dX8_bringOut_124 : decode cX8_bringOut 124 = .ok (.lastore, 1) := by decide +kernel
theorem dX8_bringOut_125 : decode cX8_bringOut 125 = .ok (.iinc 6 1, 3) := by decide +kernel
theorem dX8_bringOut_128 : decode cX8_bringOut 128 = .ok (.goto (-41), 3) := by decide +kernel
theorem dX8_bringOut_131 : decode cX8_bringOut 131 = .ok (.iconst 0, 1) := by decide +kernel
theorem dX8_bringOut_132 : decode cX8_bringOut 132 = .ok (.istore 6, 2) := by decide +kernel
theorem dX8_bringOut_134 : decode cX8_bringOut 134 = .ok (.iload 6, 2) := by decide +kernel
theorem dX8_bringOut_136 : decode cX8_bringOut 136 = .ok (.bipush 64, 2) := by decide +kernel
theorem dX8_bringOut_138 : decode cX8_bringOut 138 = .ok (.if_icmp .ge 101, 3) := by decide +kernel
theorem dX8_bringOut_141 : decode cX8_bringOut 141 = .ok (.iload 6, 2) := by decide +kernel
theorem dX8_bringOut_143 : decode cX8_bringOut 143 = .ok (.iload_n 1, 1) := by decide +kernel
theorem dX8_bringOut_144 : decode cX8_bringOut 144 = .ok (.if_icmp .ne 7, 3) := by decide +kernel
theorem dX8_bringOut_147 : decode cX8_bringOut 147 = .ok (.lconst 0, 1) := by decide +kernel
theorem dX8_bringOut_148 : decode cX8_bringOut 148 = .ok (.goto 15, 3) := by decide +kernel
theorem dX8_bringOut_151 : decode cX8_bringOut 151 = .ok (.aload_n 0, 1) := by decide +kernel
theorem dX8_bringOut_152 : decode cX8_bringOut 152 = .ok (.getfield 50, 3) := by decide +kernel
theorem dX8_bringOut_155 : decode cX8_bringOut 155 = .ok (.bipush 22, 2) := by decide +kernel
theorem dX8_bringOut_157 : decode cX8_bringOut 157 = .ok (.iload 6, 2) := by decide +kernel
theorem dX8_bringOut_159 : decode cX8_bringOut 159 = .ok (.imul, 1) := by decide +kernel
theorem dX8_bringOut_160 : decode cX8_bringOut 160 = .ok (.iload_n 3, 1) := by decide +kernel
theorem dX8_bringOut_161 : decode cX8_bringOut 161 = .ok (.iadd, 1) := by decide +kernel
theorem dX8_bringOut_162 : decode cX8_bringOut 162 = .ok (.laload, 1) := by decide +kernel
theorem dX8_bringOut_163 : decode cX8_bringOut 163 = .ok (.lstore 7, 2) := by decide +kernel
theorem dX8_bringOut_165 : decode cX8_bringOut 165 = .ok (.iconst 0, 1) := by decide +kernel
theorem dX8_bringOut_166 : decode cX8_bringOut 166 = .ok (.istore 9, 2) := by decide +kernel
theorem dX8_bringOut_168 : decode cX8_bringOut 168 = .ok (.iload 9, 2) := by decide +kernel
theorem dX8_bringOut_170 : decode cX8_bringOut 170 = .ok (.bipush 22, 2) := by decide +kernel
theorem dX8_bringOut_172 : decode cX8_bringOut 172 = .ok (.if_icmp .ge 61, 3) := by decide +kernel
theorem dX8_bringOut_175 : decode cX8_bringOut 175 = .ok (.lload 7, 2) := by decide +kernel
theorem dX8_bringOut_177 : decode cX8_bringOut 177 = .ok (.lconst 0, 1) := by decide +kernel
theorem dX8_bringOut_178 : decode cX8_bringOut 178 = .ok (.lcmp, 1) := by decide +kernel
theorem dX8_bringOut_179 : decode cX8_bringOut 179 = .ok (.ifCond .le 54, 3) := by decide +kernel
theorem dX8_bringOut_182 : decode cX8_bringOut 182 = .ok (.aload_n 0, 1) := by decide +kernel
theorem dX8_bringOut_183 : decode cX8_bringOut 183 = .ok (.getfield 50, 3) := by decide +kernel
theorem dX8_bringOut_186 : decode cX8_bringOut 186 = .ok (.bipush 22, 2) := by decide +kernel
theorem dX8_bringOut_188 : decode cX8_bringOut 188 = .ok (.iload 6, 2) := by decide +kernel
theorem dX8_bringOut_190 : decode cX8_bringOut 190 = .ok (.imul, 1) := by decide +kernel
theorem dX8_bringOut_191 : decode cX8_bringOut 191 = .ok (.iload 9, 2) := by decide +kernel
theorem dX8_bringOut_193 : decode cX8_bringOut 193 = .ok (.iadd, 1) := by decide +kernel
theorem dX8_bringOut_194 : decode cX8_bringOut 194 = .ok (.aload_n 0, 1) := by decide +kernel
theorem dX8_bringOut_195 : decode cX8_bringOut 195 = .ok (.getfield 50, 3) := by decide +kernel
theorem dX8_bringOut_198 : decode cX8_bringOut 198 = .ok (.bipush 22, 2) := by decide +kernel
theorem dX8_bringOut_200 : decode cX8_bringOut 200 = .ok (.iload 6, 2) := by decide +kernel
theorem dX8_bringOut_202 : decode cX8_bringOut 202 = .ok (.imul, 1) := by decide +kernel
theorem dX8_bringOut_203 : decode cX8_bringOut 203 = .ok (.iload 9, 2) := by decide +kernel
theorem dX8_bringOut_205 : decode cX8_bringOut 205 = .ok (.iadd, 1) := by decide +kernel
theorem dX8_bringOut_206 : decode cX8_bringOut 206 = .ok (.laload, 1) := by decide +kernel
theorem dX8_bringOut_207 : decode cX8_bringOut 207 = .ok (.lload 7, 2) := by decide +kernel
theorem dX8_bringOut_209 : decode cX8_bringOut 209 = .ok (.aload_n 0, 1) := by decide +kernel
theorem dX8_bringOut_210 : decode cX8_bringOut 210 = .ok (.getfield 50, 3) := by decide +kernel
theorem dX8_bringOut_213 : decode cX8_bringOut 213 = .ok (.bipush 22, 2) := by decide +kernel
theorem dX8_bringOut_215 : decode cX8_bringOut 215 = .ok (.iload_n 1, 1) := by decide +kernel
theorem dX8_bringOut_216 : decode cX8_bringOut 216 = .ok (.imul, 1) := by decide +kernel
theorem dX8_bringOut_217 : decode cX8_bringOut 217 = .ok (.iload 9, 2) := by decide +kernel
theorem dX8_bringOut_219 : decode cX8_bringOut 219 = .ok (.iadd, 1) := by decide +kernel
theorem dX8_bringOut_220 : decode cX8_bringOut 220 = .ok (.laload, 1) := by decide +kernel
theorem dX8_bringOut_221 : decode cX8_bringOut 221 = .ok (.lmul, 1) := by decide +kernel
theorem dX8_bringOut_222 : decode cX8_bringOut 222 = .ok (.lsub, 1) := by decide +kernel
theorem dX8_bringOut_223 : decode cX8_bringOut 223 = .ok (.invokestatic 77, 3) := by decide +kernel
theorem dX8_bringOut_226 : decode cX8_bringOut 226 = .ok (.lastore, 1) := by decide +kernel
theorem dX8_bringOut_227 : decode cX8_bringOut 227 = .ok (.iinc 9 1, 3) := by decide +kernel
theorem dX8_bringOut_230 : decode cX8_bringOut 230 = .ok (.goto (-62), 3) := by decide +kernel
theorem dX8_bringOut_233 : decode cX8_bringOut 233 = .ok (.iinc 6 1, 3) := by decide +kernel
theorem dX8_bringOut_236 : decode cX8_bringOut 236 = .ok (.goto (-102), 3) := by decide +kernel
theorem dX8_bringOut_239 : decode cX8_bringOut 239 = .ok (.return_, 1) := by decide +kernel
theorem dX8_run_0 : decode cX8_run 0 = .ok (.aload_n 0, 1) := by decide +kernel
theorem dX8_run_1 : decode cX8_run 1 = .ok (.aload_n 0, 1) := by decide +kernel
theorem dX8_run_2 : decode cX8_run 2 = .ok (.invokevirtual 109, 3) := by decide +kernel
theorem dX8_run_5 : decode cX8_run 5 = .ok (.ifCond .eq 7, 3) := by decide +kernel
theorem dX8_run_8 : decode cX8_run 8 = .ok (.iconst 1, 1) := by decide +kernel
theorem dX8_run_9 : decode cX8_run 9 = .ok (.goto 4, 3) := by decide +kernel
theorem dX8_run_12 : decode cX8_run 12 = .ok (.iconst 0, 1) := by decide +kernel
theorem dX8_run_13 : decode cX8_run 13 = .ok (.putfield 59, 3) := by decide +kernel
theorem dX8_run_16 : decode cX8_run 16 = .ok (.aload_n 0, 1) := by decide +kernel
theorem dX8_run_17 : decode cX8_run 17 = .ok (.getfield 59, 3) := by decide +kernel
theorem dX8_run_20 : decode cX8_run 20 = .ok (.ifCond .le 7, 3) := by decide +kernel
theorem dX8_run_23 : decode cX8_run 23 = .ok (.iconst 0, 1) := by decide +kernel
theorem dX8_run_24 : decode cX8_run 24 = .ok (.goto 7, 3) := by decide +kernel
theorem dX8_run_27 : decode cX8_run 27 = .ok (.aload_n 0, 1) := by decide +kernel
theorem dX8_run_28 : decode cX8_run 28 = .ok (.invokevirtual 132, 3) := by decide +kernel
theorem dX8_run_31 : decode cX8_run 31 = .ok (.ireturn, 1) := by decide +kernel
theorem dX8_isAnswered_0 : decode cX8_isAnswered 0 = .ok (.aload_n 0, 1) := by decide +kernel
theorem dX8_isAnswered_1 : decode cX8_isAnswered 1 = .ok (.aload_n 0, 1) := by decide +kernel
theorem dX8_isAnswered_2 : decode cX8_isAnswered 2 = .ok (.invokevirtual 109, 3) := by decide +kernel
theorem dX8_isAnswered_5 : decode cX8_isAnswered 5 = .ok (.ifCond .eq 7, 3) := by decide +kernel
theorem dX8_isAnswered_8 : decode cX8_isAnswered 8 = .ok (.iconst 1, 1) := by decide +kernel
theorem dX8_isAnswered_9 : decode cX8_isAnswered 9 = .ok (.goto 4, 3) := by decide +kernel
theorem dX8_isAnswered_12 : decode cX8_isAnswered 12 = .ok (.iconst 0, 1) := by decide +kernel
theorem dX8_isAnswered_13 : decode cX8_isAnswered 13 = .ok (.putfield 59, 3) := by decide +kernel
theorem dX8_isAnswered_16 : decode cX8_isAnswered 16 = .ok (.aload_n 0, 1) := by decide +kernel
theorem dX8_isAnswered_17 : decode cX8_isAnswered 17 = .ok (.getfield 59, 3) := by decide +kernel
theorem dX8_isAnswered_20 : decode cX8_isAnswered 20 = .ok (.ifCond .le 5, 3) := by decide +kernel
theorem dX8_isAnswered_23 : decode cX8_isAnswered 23 = .ok (.iconst 0, 1) := by decide +kernel
theorem dX8_isAnswered_24 : decode cX8_isAnswered 24 = .ok (.ireturn, 1) := by decide +kernel
theorem dX8_isAnswered_25 : decode cX8_isAnswered 25 = .ok (.aload_n 0, 1) := by decide +kernel
theorem dX8_isAnswered_26 : decode cX8_isAnswered 26 = .ok (.aload_n 0, 1) := by decide +kernel
theorem dX8_isAnswered_27 : decode cX8_isAnswered 27 = .ok (.invokevirtual 132, 3) := by decide +kernel
theorem dX8_isAnswered_30 : decode cX8_isAnswered 30 = .ok (.putfield 136, 3) := by decide +kernel
theorem dX8_isAnswered_33 : decode cX8_isAnswered 33 = .ok (.aload_n 0, 1) := by decide +kernel
theorem dX8_isAnswered_34 : decode cX8_isAnswered 34 = .ok (.aload_n 0, 1) := by decide +kernel
theorem dX8_isAnswered_35 : decode cX8_isAnswered 35 = .ok (.getfield 136, 3) := by decide +kernel
theorem dX8_isAnswered_38 : decode cX8_isAnswered 38 = .ok (.iconst (-1), 1) := by decide +kernel
theorem dX8_isAnswered_39 : decode cX8_isAnswered 39 = .ok (.if_icmp .ne 7, 3) := by decide +kernel
theorem dX8_isAnswered_42 : decode cX8_isAnswered 42 = .ok (.iconst 1, 1) := by decide +kernel
theorem dX8_isAnswered_43 : decode cX8_isAnswered 43 = .ok (.goto 4, 3) := by decide +kernel
theorem dX8_isAnswered_46 : decode cX8_isAnswered 46 = .ok (.iconst 0, 1) := by decide +kernel
theorem dX8_isAnswered_47 : decode cX8_isAnswered 47 = .ok (.putfield 59, 3) := by decide +kernel
theorem dX8_isAnswered_50 : decode cX8_isAnswered 50 = .ok (.aload_n 0, 1) := by decide +kernel
theorem dX8_isAnswered_51 : decode cX8_isAnswered 51 = .ok (.getfield 59, 3) := by decide +kernel
theorem dX8_isAnswered_54 : decode cX8_isAnswered 54 = .ok (.ifCond .ne 7, 3) := by decide +kernel
theorem dX8_isAnswered_57 : decode cX8_isAnswered 57 = .ok (.iconst 1, 1) := by decide +kernel
theorem dX8_isAnswered_58 : decode cX8_isAnswered 58 = .ok (.goto 4, 3) := by decide +kernel
theorem dX8_isAnswered_61 : decode cX8_isAnswered 61 = .ok (.iconst 0, 1) := by decide +kernel
theorem dX8_isAnswered_62 : decode cX8_isAnswered 62 = .ok (.ireturn, 1) := by decide +kernel
theorem dX8_answer_0 : decode cX8_answer 0 = .ok (.aload_n 0, 1) := by decide +kernel
theorem dX8_answer_1 : decode cX8_answer 1 = .ok (.invokevirtual 139, 3) := by decide +kernel
theorem dX8_answer_4 : decode cX8_answer 4 = .ok (.ifCond .eq 25, 3) := by decide +kernel
theorem dX8_answer_7 : decode cX8_answer 7 = .ok (.iload_n 1, 1) := by decide +kernel
theorem dX8_answer_8 : decode cX8_answer 8 = .ok (.i2l, 1) := by decide +kernel
theorem dX8_answer_9 : decode cX8_answer 9 = .ok (.lconst 0, 1) := by decide +kernel
theorem dX8_answer_10 : decode cX8_answer 10 = .ok (.ldc2_w 142, 3) := by decide +kernel
theorem dX8_answer_13 : decode cX8_answer 13 = .ok (.invokestatic 86, 3) := by decide +kernel
theorem dX8_answer_16 : decode cX8_answer 16 = .ok (.ifCond .eq 13, 3) := by decide +kernel
theorem dX8_answer_19 : decode cX8_answer 19 = .ok (.aload_n 0, 1) := by decide +kernel
theorem dX8_answer_20 : decode cX8_answer 20 = .ok (.getfield 29, 3) := by decide +kernel
theorem dX8_answer_23 : decode cX8_answer 23 = .ok (.iload_n 1, 1) := by decide +kernel
theorem dX8_answer_24 : decode cX8_answer 24 = .ok (.laload, 1) := by decide +kernel
theorem dX8_answer_25 : decode cX8_answer 25 = .ok (.l2i, 1) := by decide +kernel
theorem dX8_answer_26 : decode cX8_answer 26 = .ok (.goto 4, 3) := by decide +kernel
theorem dX8_answer_29 : decode cX8_answer 29 = .ok (.iconst 0, 1) := by decide +kernel
theorem dX8_answer_30 : decode cX8_answer 30 = .ok (.ireturn, 1) := by decide +kernel
theorem dX8_isClosed_0 : decode cX8_isClosed 0 = .ok (.aload_n 0, 1) := by decide +kernel
theorem dX8_isClosed_1 : decode cX8_isClosed 1 = .ok (.invokevirtual 139, 3) := by decide +kernel
theorem dX8_isClosed_4 : decode cX8_isClosed 4 = .ok (.ifCond .ne 5, 3) := by decide +kernel
theorem dX8_isClosed_7 : decode cX8_isClosed 7 = .ok (.iconst 0, 1) := by decide +kernel
theorem dX8_isClosed_8 : decode cX8_isClosed 8 = .ok (.ireturn, 1) := by decide +kernel
theorem dX8_isClosed_9 : decode cX8_isClosed 9 = .ok (.aload_n 0, 1) := by decide +kernel
theorem dX8_isClosed_10 : decode cX8_isClosed 10 = .ok (.getfield 41, 3) := by decide +kernel
theorem dX8_isClosed_13 : decode cX8_isClosed 13 = .ok (.aload_n 0, 1) := by decide +kernel
theorem dX8_isClosed_14 : decode cX8_isClosed 14 = .ok (.getfield 19, 3) := by decide +kernel
theorem dX8_isClosed_17 : decode cX8_isClosed 17 = .ok (.invokestatic 98, 3) := by decide +kernel
theorem dX8_isClosed_20 : decode cX8_isClosed 20 = .ok (.aload_n 0, 1) := by decide +kernel
theorem dX8_isClosed_21 : decode cX8_isClosed 21 = .ok (.getfield 41, 3) := by decide +kernel
theorem dX8_isClosed_24 : decode cX8_isClosed 24 = .ok (.ldc2_w 104, 3) := by decide +kernel
theorem dX8_isClosed_27 : decode cX8_isClosed 27 = .ok (.invokestatic 94, 3) := by decide +kernel
theorem dX8_isClosed_30 : decode cX8_isClosed 30 = .ok (.aload_n 0, 1) := by decide +kernel
theorem dX8_isClosed_31 : decode cX8_isClosed 31 = .ok (.aload_n 0, 1) := by decide +kernel
theorem dX8_isClosed_32 : decode cX8_isClosed 32 = .ok (.getfield 41, 3) := by decide +kernel
theorem dX8_isClosed_35 : decode cX8_isClosed 35 = .ok (.aload_n 0, 1) := by decide +kernel
theorem dX8_isClosed_36 : decode cX8_isClosed 36 = .ok (.getfield 29, 3) := by decide +kernel
theorem dX8_isClosed_39 : decode cX8_isClosed 39 = .ok (.invokevirtual 106, 3) := by decide +kernel
theorem dX8_isClosed_42 : decode cX8_isClosed 42 = .ok (.aload_n 0, 1) := by decide +kernel
theorem dX8_isClosed_43 : decode cX8_isClosed 43 = .ok (.getfield 32, 3) := by decide +kernel
theorem dX8_isClosed_46 : decode cX8_isClosed 46 = .ok (.aload_n 0, 1) := by decide +kernel
theorem dX8_isClosed_47 : decode cX8_isClosed 47 = .ok (.getfield 44, 3) := by decide +kernel
theorem dX8_isClosed_50 : decode cX8_isClosed 50 = .ok (.invokestatic 98, 3) := by decide +kernel
theorem dX8_isClosed_53 : decode cX8_isClosed 53 = .ok (.aload_n 0, 1) := by decide +kernel
theorem dX8_isClosed_54 : decode cX8_isClosed 54 = .ok (.getfield 35, 3) := by decide +kernel
theorem dX8_isClosed_57 : decode cX8_isClosed 57 = .ok (.aload_n 0, 1) := by decide +kernel
theorem dX8_isClosed_58 : decode cX8_isClosed 58 = .ok (.getfield 22, 3) := by decide +kernel
theorem dX8_isClosed_61 : decode cX8_isClosed 61 = .ok (.invokestatic 98, 3) := by decide +kernel
theorem dX8_isClosed_64 : decode cX8_isClosed 64 = .ok (.aload_n 0, 1) := by decide +kernel
theorem dX8_isClosed_65 : decode cX8_isClosed 65 = .ok (.getfield 38, 3) := by decide +kernel
theorem dX8_isClosed_68 : decode cX8_isClosed 68 = .ok (.aload_n 0, 1) := by decide +kernel
theorem dX8_isClosed_69 : decode cX8_isClosed 69 = .ok (.getfield 35, 3) := by decide +kernel
theorem dX8_isClosed_72 : decode cX8_isClosed 72 = .ok (.invokestatic 98, 3) := by decide +kernel
theorem dX8_isClosed_75 : decode cX8_isClosed 75 = .ok (.aload_n 0, 1) := by decide +kernel
theorem dX8_isClosed_76 : decode cX8_isClosed 76 = .ok (.getfield 41, 3) := by decide +kernel
theorem dX8_isClosed_79 : decode cX8_isClosed 79 = .ok (.aload_n 0, 1) := by decide +kernel
theorem dX8_isClosed_80 : decode cX8_isClosed 80 = .ok (.getfield 32, 3) := by decide +kernel
theorem dX8_isClosed_83 : decode cX8_isClosed 83 = .ok (.invokestatic 98, 3) := by decide +kernel
theorem dX8_isClosed_86 : decode cX8_isClosed 86 = .ok (.aload_n 0, 1) := by decide +kernel
theorem dX8_isClosed_87 : decode cX8_isClosed 87 = .ok (.invokevirtual 101, 3) := by decide +kernel
theorem dX8_isClosed_90 : decode cX8_isClosed 90 = .ok (.aload_n 0, 1) := by decide +kernel
theorem dX8_isClosed_91 : decode cX8_isClosed 91 = .ok (.aload_n 0, 1) := by decide +kernel
theorem dX8_isClosed_92 : decode cX8_isClosed 92 = .ok (.getfield 32, 3) := by decide +kernel
theorem dX8_isClosed_95 : decode cX8_isClosed 95 = .ok (.aload_n 0, 1) := by decide +kernel
theorem dX8_isClosed_96 : decode cX8_isClosed 96 = .ok (.getfield 38, 3) := by decide +kernel
theorem dX8_isClosed_99 : decode cX8_isClosed 99 = .ok (.invokevirtual 80, 3) := by decide +kernel
theorem dX8_isClosed_102 : decode cX8_isClosed 102 = .ok (.aload_n 0, 1) := by decide +kernel
theorem dX8_isClosed_103 : decode cX8_isClosed 103 = .ok (.getfield 32, 3) := by decide +kernel
theorem dX8_isClosed_106 : decode cX8_isClosed 106 = .ok (.aload_n 0, 1) := by decide +kernel
theorem dX8_isClosed_107 : decode cX8_isClosed 107 = .ok (.getfield 47, 3) := by decide +kernel
theorem dX8_isClosed_110 : decode cX8_isClosed 110 = .ok (.invokestatic 98, 3) := by decide +kernel
theorem dX8_isClosed_113 : decode cX8_isClosed 113 = .ok (.aload_n 0, 1) := by decide +kernel
theorem dX8_isClosed_114 : decode cX8_isClosed 114 = .ok (.aload_n 0, 1) := by decide +kernel
theorem dX8_isClosed_115 : decode cX8_isClosed 115 = .ok (.getfield 35, 3) := by decide +kernel
theorem dX8_isClosed_118 : decode cX8_isClosed 118 = .ok (.aload_n 0, 1) := by decide +kernel
theorem dX8_isClosed_119 : decode cX8_isClosed 119 = .ok (.getfield 38, 3) := by decide +kernel
theorem dX8_isClosed_122 : decode cX8_isClosed 122 = .ok (.invokevirtual 80, 3) := by decide +kernel
theorem dX8_isClosed_125 : decode cX8_isClosed 125 = .ok (.aload_n 0, 1) := by decide +kernel
theorem dX8_isClosed_126 : decode cX8_isClosed 126 = .ok (.getfield 35, 3) := by decide +kernel
theorem dX8_isClosed_129 : decode cX8_isClosed 129 = .ok (.aload_n 0, 1) := by decide +kernel
theorem dX8_isClosed_130 : decode cX8_isClosed 130 = .ok (.getfield 47, 3) := by decide +kernel
theorem dX8_isClosed_133 : decode cX8_isClosed 133 = .ok (.invokestatic 98, 3) := by decide +kernel
theorem dX8_isClosed_136 : decode cX8_isClosed 136 = .ok (.aload_n 0, 1) := by decide +kernel
theorem dX8_isClosed_137 : decode cX8_isClosed 137 = .ok (.getfield 35, 3) := by decide +kernel
theorem dX8_isClosed_140 : decode cX8_isClosed 140 = .ok (.aload_n 0, 1) := by decide +kernel
theorem dX8_isClosed_141 : decode cX8_isClosed 141 = .ok (.getfield 35, 3) := by decide +kernel
theorem dX8_isClosed_144 : decode cX8_isClosed 144 = .ok (.invokestatic 65, 3) := by decide +kernel
theorem dX8_isClosed_147 : decode cX8_isClosed 147 = .ok (.laload, 1) := by decide +kernel
theorem dX8_isClosed_148 : decode cX8_isClosed 148 = .ok (.invokestatic 73, 3) := by decide +kernel
theorem dX8_isClosed_151 : decode cX8_isClosed 151 = .ok (.lstore_n 1, 1) := by decide +kernel
theorem dX8_isClosed_152 : decode cX8_isClosed 152 = .ok (.iconst 0, 1) := by decide +kernel
theorem dX8_isClosed_153 : decode cX8_isClosed 153 = .ok (.istore_n 3, 1) := by decide +kernel
theorem dX8_isClosed_154 : decode cX8_isClosed 154 = .ok (.iload_n 3, 1) := by decide +kernel
theorem dX8_isClosed_155 : decode cX8_isClosed 155 = .ok (.bipush 64, 2) := by decide +kernel
theorem dX8_isClosed_157 : decode cX8_isClosed 157 = .ok (.if_icmp .ge 45, 3) := by decide +kernel
theorem dX8_isClosed_160 : decode cX8_isClosed 160 = .ok (.aload_n 0, 1) := by decide +kernel
theorem dX8_isClosed_161 : decode cX8_isClosed 161 = .ok (.getfield 32, 3) := by decide +kernel
theorem dX8_isClosed_164 : decode cX8_isClosed 164 = .ok (.iload_n 3, 1) := by decide +kernel
theorem dX8_isClosed_165 : decode cX8_isClosed 165 = .ok (.aload_n 0, 1) := by decide +kernel
theorem dX8_isClosed_166 : decode cX8_isClosed 166 = .ok (.getfield 32, 3) := by decide +kernel
theorem dX8_isClosed_169 : decode cX8_isClosed 169 = .ok (.iload_n 3, 1) := by decide +kernel
theorem dX8_isClosed_170 : decode cX8_isClosed 170 = .ok (.laload, 1) := by decide +kernel
theorem dX8_isClosed_171 : decode cX8_isClosed 171 = .ok (.lload_n 1, 1) := by decide +kernel
theorem dX8_isClosed_172 : decode cX8_isClosed 172 = .ok (.lmul, 1) := by decide +kernel
theorem dX8_isClosed_173 : decode cX8_isClosed 173 = .ok (.ldc2_w 63, 3) := by decide +kernel
theorem dX8_isClosed_176 : decode cX8_isClosed 176 = .ok (.lrem, 1) := by decide +kernel
theorem dX8_isClosed_177 : decode cX8_isClosed 177 = .ok (.lastore, 1) := by decide +kernel
theorem dX8_isClosed_178 : decode cX8_isClosed 178 = .ok (.aload_n 0, 1) := by decide +kernel
theorem dX8_isClosed_179 : decode cX8_isClosed 179 = .ok (.getfield 35, 3) := by decide +kernel
theorem dX8_isClosed_182 : decode cX8_isClosed 182 = .ok (.iload_n 3, 1) := by decide +kernel
theorem dX8_isClosed_183 : decode cX8_isClosed 183 = .ok (.aload_n 0, 1) := by decide +kernel
theorem dX8_isClosed_184 : decode cX8_isClosed 184 = .ok (.getfield 35, 3) := by decide +kernel
theorem dX8_isClosed_187 : decode cX8_isClosed 187 = .ok (.iload_n 3, 1) := by decide +kernel
theorem dX8_isClosed_188 : decode cX8_isClosed 188 = .ok (.laload, 1) := by decide +kernel
theorem dX8_isClosed_189 : decode cX8_isClosed 189 = .ok (.lload_n 1, 1) := by decide +kernel
theorem dX8_isClosed_190 : decode cX8_isClosed 190 = .ok (.lmul, 1) := by decide +kernel
theorem dX8_isClosed_191 : decode cX8_isClosed 191 = .ok (.ldc2_w 63, 3) := by decide +kernel
theorem dX8_isClosed_194 : decode cX8_isClosed 194 = .ok (.lrem, 1) := by decide +kernel
theorem dX8_isClosed_195 : decode cX8_isClosed 195 = .ok (.lastore, 1) := by decide +kernel
theorem dX8_isClosed_196 : decode cX8_isClosed 196 = .ok (.iinc 3 1, 3) := by decide +kernel
theorem dX8_isClosed_199 : decode cX8_isClosed 199 = .ok (.goto (-45), 3) := by decide +kernel
theorem dX8_isClosed_202 : decode cX8_isClosed 202 = .ok (.iconst 1, 1) := by decide +kernel
theorem dX8_isClosed_203 : decode cX8_isClosed 203 = .ok (.ireturn, 1) := by decide +kernel
theorem dX8_closed_0 : decode cX8_closed 0 = .ok (.aload_n 0, 1) := by decide +kernel
theorem dX8_closed_1 : decode cX8_closed 1 = .ok (.invokevirtual 144, 3) := by decide +kernel
theorem dX8_closed_4 : decode cX8_closed 4 = .ok (.ifCond .eq 15, 3) := by decide +kernel
theorem dX8_closed_7 : decode cX8_closed 7 = .ok (.iload_n 2, 1) := by decide +kernel
theorem dX8_closed_8 : decode cX8_closed 8 = .ok (.i2l, 1) := by decide +kernel
theorem dX8_closed_9 : decode cX8_closed 9 = .ok (.lconst 0, 1) := by decide +kernel
theorem dX8_closed_10 : decode cX8_closed 10 = .ok (.ldc2_w 123, 3) := by decide +kernel
theorem dX8_closed_13 : decode cX8_closed 13 = .ok (.invokestatic 86, 3) := by decide +kernel
theorem dX8_closed_16 : decode cX8_closed 16 = .ok (.ifCond .ne 5, 3) := by decide +kernel
theorem dX8_closed_19 : decode cX8_closed 19 = .ok (.iconst 0, 1) := by decide +kernel
theorem dX8_closed_20 : decode cX8_closed 20 = .ok (.ireturn, 1) := by decide +kernel
theorem dX8_closed_21 : decode cX8_closed 21 = .ok (.iload_n 1, 1) := by decide +kernel
theorem dX8_closed_22 : decode cX8_closed 22 = .ok (.ifCond .eq 12, 3) := by decide +kernel
theorem dX8_closed_25 : decode cX8_closed 25 = .ok (.aload_n 0, 1) := by decide +kernel
theorem dX8_closed_26 : decode cX8_closed 26 = .ok (.getfield 32, 3) := by decide +kernel
theorem dX8_closed_29 : decode cX8_closed 29 = .ok (.iload_n 2, 1) := by decide +kernel
theorem dX8_closed_30 : decode cX8_closed 30 = .ok (.laload, 1) := by decide +kernel
theorem dX8_closed_31 : decode cX8_closed 31 = .ok (.goto 9, 3) := by decide +kernel
theorem dX8_closed_34 : decode cX8_closed 34 = .ok (.aload_n 0, 1) := by decide +kernel
theorem dX8_closed_35 : decode cX8_closed 35 = .ok (.getfield 35, 3) := by decide +kernel
theorem dX8_closed_38 : decode cX8_closed 38 = .ok (.iload_n 2, 1) := by decide +kernel
theorem dX8_closed_39 : decode cX8_closed 39 = .ok (.laload, 1) := by decide +kernel
theorem dX8_closed_40 : decode cX8_closed 40 = .ok (.l2i, 1) := by decide +kernel
theorem dX8_closed_41 : decode cX8_closed 41 = .ok (.ireturn, 1) := by decide +kernel
theorem dX8_value_0 : decode cX8_value 0 = .ok (.aload_n 0, 1) := by decide +kernel
theorem dX8_value_1 : decode cX8_value 1 = .ok (.invokevirtual 144, 3) := by decide +kernel
theorem dX8_value_4 : decode cX8_value 4 = .ok (.ifCond .ne 5, 3) := by decide +kernel
theorem dX8_value_7 : decode cX8_value 7 = .ok (.iconst 0, 1) := by decide +kernel
theorem dX8_value_8 : decode cX8_value 8 = .ok (.ireturn, 1) := by decide +kernel
theorem dX8_value_9 : decode cX8_value 9 = .ok (.aload_n 0, 1) := by decide +kernel
theorem dX8_value_10 : decode cX8_value 10 = .ok (.getfield 35, 3) := by decide +kernel
theorem dX8_value_13 : decode cX8_value 13 = .ok (.lload_n 1, 1) := by decide +kernel
theorem dX8_value_14 : decode cX8_value 14 = .ok (.invokestatic 77, 3) := by decide +kernel
theorem dX8_value_17 : decode cX8_value 17 = .ok (.invokestatic 147, 3) := by decide +kernel
theorem dX8_value_20 : decode cX8_value 20 = .ok (.lstore_n 3, 1) := by decide +kernel
theorem dX8_value_21 : decode cX8_value 21 = .ok (.lload_n 3, 1) := by decide +kernel
theorem dX8_value_22 : decode cX8_value 22 = .ok (.lconst 0, 1) := by decide +kernel
theorem dX8_value_23 : decode cX8_value 23 = .ok (.lcmp, 1) := by decide +kernel
theorem dX8_value_24 : decode cX8_value 24 = .ok (.ifCond .ne 7, 3) := by decide +kernel
theorem dX8_value_27 : decode cX8_value 27 = .ok (.iconst (-1), 1) := by decide +kernel
theorem dX8_value_28 : decode cX8_value 28 = .ok (.goto 24, 3) := by decide +kernel
theorem dX8_value_31 : decode cX8_value 31 = .ok (.aload_n 0, 1) := by decide +kernel
theorem dX8_value_32 : decode cX8_value 32 = .ok (.getfield 32, 3) := by decide +kernel
theorem dX8_value_35 : decode cX8_value 35 = .ok (.lload_n 1, 1) := by decide +kernel
theorem dX8_value_36 : decode cX8_value 36 = .ok (.invokestatic 77, 3) := by decide +kernel
theorem dX8_value_39 : decode cX8_value 39 = .ok (.invokestatic 147, 3) := by decide +kernel
theorem dX8_value_42 : decode cX8_value 42 = .ok (.lload_n 3, 1) := by decide +kernel
theorem dX8_value_43 : decode cX8_value 43 = .ok (.invokestatic 73, 3) := by decide +kernel
theorem dX8_value_46 : decode cX8_value 46 = .ok (.lmul, 1) := by decide +kernel
theorem dX8_value_47 : decode cX8_value 47 = .ok (.ldc2_w 63, 3) := by decide +kernel
theorem dX8_value_50 : decode cX8_value 50 = .ok (.lrem, 1) := by decide +kernel
theorem dX8_value_51 : decode cX8_value 51 = .ok (.l2i, 1) := by decide +kernel
theorem dX8_value_52 : decode cX8_value 52 = .ok (.ireturn, 1) := by decide +kernel
theorem dX8_reaches_0 : decode cX8_reaches 0 = .ok (.aload_n 0, 1) := by decide +kernel
theorem dX8_reaches_1 : decode cX8_reaches 1 = .ok (.getfield 56, 3) := by decide +kernel
theorem dX8_reaches_4 : decode cX8_reaches 4 = .ok (.iconst 0, 1) := by decide +kernel
theorem dX8_reaches_5 : decode cX8_reaches 5 = .ok (.lconst 1, 1) := by decide +kernel
theorem dX8_reaches_6 : decode cX8_reaches 6 = .ok (.lastore, 1) := by decide +kernel
theorem dX8_reaches_7 : decode cX8_reaches 7 = .ok (.iconst 0, 1) := by decide +kernel
theorem dX8_reaches_8 : decode cX8_reaches 8 = .ok (.istore_n 2, 1) := by decide +kernel
theorem dX8_reaches_9 : decode cX8_reaches 9 = .ok (.iload_n 2, 1) := by decide +kernel
theorem dX8_reaches_10 : decode cX8_reaches 10 = .ok (.iload_n 1, 1) := by decide +kernel
theorem dX8_reaches_11 : decode cX8_reaches 11 = .ok (.if_icmp .ge 64, 3) := by decide +kernel
theorem dX8_reaches_14 : decode cX8_reaches 14 = .ok (.aload_n 0, 1) := by decide +kernel
theorem dX8_reaches_15 : decode cX8_reaches 15 = .ok (.getfield 13, 3) := by decide +kernel
theorem dX8_reaches_18 : decode cX8_reaches 18 = .ok (.iload_n 2, 1) := by decide +kernel
theorem dX8_reaches_19 : decode cX8_reaches 19 = .ok (.i2l, 1) := by decide +kernel
theorem dX8_reaches_20 : decode cX8_reaches 20 = .ok (.invokestatic 147, 3) := by decide +kernel
theorem dX8_reaches_23 : decode cX8_reaches 23 = .ok (.lstore_n 3, 1) := by decide +kernel
theorem dX8_reaches_24 : decode cX8_reaches 24 = .ok (.lload_n 3, 1) := by decide +kernel
theorem dX8_reaches_25 : decode cX8_reaches 25 = .ok (.lconst 0, 1) := by decide +kernel
theorem dX8_reaches_26 : decode cX8_reaches 26 = .ok (.lcmp, 1) := by decide +kernel
theorem dX8_reaches_27 : decode cX8_reaches 27 = .ok (.ifCond .ne 5, 3) := by decide +kernel
theorem dX8_reaches_30 : decode cX8_reaches 30 = .ok (.iconst 0, 1) := by decide +kernel
theorem dX8_reaches_31 : decode cX8_reaches 31 = .ok (.ireturn, 1) := by decide +kernel
theorem dX8_reaches_32 : decode cX8_reaches 32 = .ok (.aload_n 0, 1) := by decide +kernel
theorem dX8_reaches_33 : decode cX8_reaches 33 = .ok (.getfield 56, 3) := by decide +kernel
theorem dX8_reaches_36 : decode cX8_reaches 36 = .ok (.iload_n 2, 1) := by decide +kernel
theorem dX8_reaches_37 : decode cX8_reaches 37 = .ok (.iconst 1, 1) := by decide +kernel
theorem dX8_reaches_38 : decode cX8_reaches 38 = .ok (.iadd, 1) := by decide +kernel
theorem dX8_reaches_39 : decode cX8_reaches 39 = .ok (.aload_n 0, 1) := by decide +kernel
theorem dX8_reaches_40 : decode cX8_reaches 40 = .ok (.getfield 56, 3) := by decide +kernel
theorem dX8_reaches_43 : decode cX8_reaches 43 = .ok (.iload_n 2, 1) := by decide +kernel
theorem dX8_reaches_44 : decode cX8_reaches 44 = .ok (.laload, 1) := by decide +kernel
theorem dX8_reaches_45 : decode cX8_reaches 45 = .ok (.aload_n 0, 1) := by decide +kernel
theorem dX8_reaches_46 : decode cX8_reaches 46 = .ok (.getfield 7, 3) := by decide +kernel
theorem dX8_reaches_49 : decode cX8_reaches 49 = .ok (.iload_n 2, 1) := by decide +kernel
theorem dX8_reaches_50 : decode cX8_reaches 50 = .ok (.i2l, 1) := by decide +kernel
theorem dX8_reaches_51 : decode cX8_reaches 51 = .ok (.invokestatic 147, 3) := by decide +kernel
theorem dX8_reaches_54 : decode cX8_reaches 54 = .ok (.lmul, 1) := by decide +kernel
theorem dX8_reaches_55 : decode cX8_reaches 55 = .ok (.ldc2_w 63, 3) := by decide +kernel
theorem dX8_reaches_58 : decode cX8_reaches 58 = .ok (.lrem, 1) := by decide +kernel
theorem dX8_reaches_59 : decode cX8_reaches 59 = .ok (.lload_n 3, 1) := by decide +kernel
theorem dX8_reaches_60 : decode cX8_reaches 60 = .ok (.invokestatic 73, 3) := by decide +kernel
theorem dX8_reaches_63 : decode cX8_reaches 63 = .ok (.lmul, 1) := by decide +kernel
theorem dX8_reaches_64 : decode cX8_reaches 64 = .ok (.ldc2_w 63, 3) := by decide +kernel
theorem dX8_reaches_67 : decode cX8_reaches 67 = .ok (.lrem, 1) := by decide +kernel
theorem dX8_reaches_68 : decode cX8_reaches 68 = .ok (.lastore, 1) := by decide +kernel
theorem dX8_reaches_69 : decode cX8_reaches 69 = .ok (.iinc 2 1, 3) := by decide +kernel
theorem dX8_reaches_72 : decode cX8_reaches 72 = .ok (.goto (-63), 3) := by decide +kernel
theorem dX8_reaches_75 : decode cX8_reaches 75 = .ok (.iconst 1, 1) := by decide +kernel
theorem dX8_reaches_76 : decode cX8_reaches 76 = .ok (.ireturn, 1) := by decide +kernel
theorem dX8_term_0 : decode cX8_term 0 = .ok (.iload_n 1, 1) := by decide +kernel
theorem dX8_term_1 : decode cX8_term 1 = .ok (.i2l, 1) := by decide +kernel
theorem dX8_term_2 : decode cX8_term 2 = .ok (.lconst 0, 1) := by decide +kernel
theorem dX8_term_3 : decode cX8_term 3 = .ok (.ldc2_w 151, 3) := by decide +kernel
theorem dX8_term_6 : decode cX8_term 6 = .ok (.invokestatic 86, 3) := by decide +kernel
theorem dX8_term_9 : decode cX8_term 9 = .ok (.ifCond .ne 9, 3) := by decide +kernel
theorem dX8_term_12 : decode cX8_term 12 = .ok (.aload_n 0, 1) := by decide +kernel
theorem dX8_term_13 : decode cX8_term 13 = .ok (.iconst 1, 1) := by decide +kernel
theorem dX8_term_14 : decode cX8_term 14 = .ok (.invokevirtual 153, 3) := by decide +kernel
theorem dX8_term_17 : decode cX8_term 17 = .ok (.ireturn, 1) := by decide +kernel
theorem dX8_term_18 : decode cX8_term 18 = .ok (.aload_n 0, 1) := by decide +kernel
theorem dX8_term_19 : decode cX8_term 19 = .ok (.aload_n 0, 1) := by decide +kernel
theorem dX8_term_20 : decode cX8_term 20 = .ok (.iload_n 1, 1) := by decide +kernel
theorem dX8_term_21 : decode cX8_term 21 = .ok (.invokevirtual 157, 3) := by decide +kernel
theorem dX8_term_24 : decode cX8_term 24 = .ok (.ifCond .eq 7, 3) := by decide +kernel
theorem dX8_term_27 : decode cX8_term 27 = .ok (.iconst 0, 1) := by decide +kernel
theorem dX8_term_28 : decode cX8_term 28 = .ok (.goto 4, 3) := by decide +kernel
theorem dX8_term_31 : decode cX8_term 31 = .ok (.iconst 2, 1) := by decide +kernel
theorem dX8_term_32 : decode cX8_term 32 = .ok (.putfield 59, 3) := by decide +kernel
theorem dX8_term_35 : decode cX8_term 35 = .ok (.aload_n 0, 1) := by decide +kernel
theorem dX8_term_36 : decode cX8_term 36 = .ok (.getfield 59, 3) := by decide +kernel
theorem dX8_term_39 : decode cX8_term 39 = .ok (.ifCond .le 7, 3) := by decide +kernel
theorem dX8_term_42 : decode cX8_term 42 = .ok (.iconst 0, 1) := by decide +kernel
theorem dX8_term_43 : decode cX8_term 43 = .ok (.goto 10, 3) := by decide +kernel
theorem dX8_term_46 : decode cX8_term 46 = .ok (.aload_n 0, 1) := by decide +kernel
theorem dX8_term_47 : decode cX8_term 47 = .ok (.getfield 56, 3) := by decide +kernel
theorem dX8_term_50 : decode cX8_term 50 = .ok (.iload_n 1, 1) := by decide +kernel
theorem dX8_term_51 : decode cX8_term 51 = .ok (.laload, 1) := by decide +kernel
theorem dX8_term_52 : decode cX8_term 52 = .ok (.l2i, 1) := by decide +kernel
theorem dX8_term_53 : decode cX8_term 53 = .ok (.ireturn, 1) := by decide +kernel
theorem dX8_sum_0 : decode cX8_sum 0 = .ok (.iload_n 1, 1) := by decide +kernel
theorem dX8_sum_1 : decode cX8_sum 1 = .ok (.i2l, 1) := by decide +kernel
theorem dX8_sum_2 : decode cX8_sum 2 = .ok (.lconst 0, 1) := by decide +kernel
theorem dX8_sum_3 : decode cX8_sum 3 = .ok (.ldc2_w 151, 3) := by decide +kernel
theorem dX8_sum_6 : decode cX8_sum 6 = .ok (.invokestatic 86, 3) := by decide +kernel
theorem dX8_sum_9 : decode cX8_sum 9 = .ok (.ifCond .ne 9, 3) := by decide +kernel
theorem dX8_sum_12 : decode cX8_sum 12 = .ok (.aload_n 0, 1) := by decide +kernel
theorem dX8_sum_13 : decode cX8_sum 13 = .ok (.iconst 1, 1) := by decide +kernel
theorem dX8_sum_14 : decode cX8_sum 14 = .ok (.invokevirtual 153, 3) := by decide +kernel
theorem dX8_sum_17 : decode cX8_sum 17 = .ok (.ireturn, 1) := by decide +kernel
theorem dX8_sum_18 : decode cX8_sum 18 = .ok (.aload_n 0, 1) := by decide +kernel
theorem dX8_sum_19 : decode cX8_sum 19 = .ok (.iload_n 1, 1) := by decide +kernel
theorem dX8_sum_20 : decode cX8_sum 20 = .ok (.ifCond .eq 13, 3) := by decide +kernel
theorem dX8_sum_23 : decode cX8_sum 23 = .ok (.aload_n 0, 1) := by decide +kernel
theorem dX8_sum_24 : decode cX8_sum 24 = .ok (.iload_n 1, 1) := by decide +kernel
theorem dX8_sum_25 : decode cX8_sum 25 = .ok (.iconst 1, 1) := by decide +kernel
theorem dX8_sum_26 : decode cX8_sum 26 = .ok (.isub, 1) := by decide +kernel
theorem dX8_sum_27 : decode cX8_sum 27 = .ok (.invokevirtual 157, 3) := by decide +kernel
theorem dX8_sum_30 : decode cX8_sum 30 = .ok (.ifCond .eq 7, 3) := by decide +kernel
theorem dX8_sum_33 : decode cX8_sum 33 = .ok (.iconst 0, 1) := by decide +kernel
theorem dX8_sum_34 : decode cX8_sum 34 = .ok (.goto 4, 3) := by decide +kernel
theorem dX8_sum_37 : decode cX8_sum 37 = .ok (.iconst 2, 1) := by decide +kernel
theorem dX8_sum_38 : decode cX8_sum 38 = .ok (.putfield 59, 3) := by decide +kernel
theorem dX8_sum_41 : decode cX8_sum 41 = .ok (.aload_n 0, 1) := by decide +kernel
theorem dX8_sum_42 : decode cX8_sum 42 = .ok (.getfield 59, 3) := by decide +kernel
theorem dX8_sum_45 : decode cX8_sum 45 = .ok (.ifCond .le 5, 3) := by decide +kernel
theorem dX8_sum_48 : decode cX8_sum 48 = .ok (.iconst 0, 1) := by decide +kernel
theorem dX8_sum_49 : decode cX8_sum 49 = .ok (.ireturn, 1) := by decide +kernel
theorem dX8_sum_50 : decode cX8_sum 50 = .ok (.lconst 0, 1) := by decide +kernel
theorem dX8_sum_51 : decode cX8_sum 51 = .ok (.lstore_n 2, 1) := by decide +kernel
theorem dX8_sum_52 : decode cX8_sum 52 = .ok (.iconst 0, 1) := by decide +kernel
theorem dX8_sum_53 : decode cX8_sum 53 = .ok (.istore 4, 2) := by decide +kernel
theorem dX8_sum_55 : decode cX8_sum 55 = .ok (.iload 4, 2) := by decide +kernel
theorem dX8_sum_57 : decode cX8_sum 57 = .ok (.iload_n 1, 1) := by decide +kernel
theorem dX8_sum_58 : decode cX8_sum 58 = .ok (.if_icmp .ge 19, 3) := by decide +kernel
theorem dX8_sum_61 : decode cX8_sum 61 = .ok (.lload_n 2, 1) := by decide +kernel
theorem dX8_sum_62 : decode cX8_sum 62 = .ok (.aload_n 0, 1) := by decide +kernel
theorem dX8_sum_63 : decode cX8_sum 63 = .ok (.getfield 56, 3) := by decide +kernel
theorem dX8_sum_66 : decode cX8_sum 66 = .ok (.iload 4, 2) := by decide +kernel
theorem dX8_sum_68 : decode cX8_sum 68 = .ok (.laload, 1) := by decide +kernel
theorem dX8_sum_69 : decode cX8_sum 69 = .ok (.ladd, 1) := by decide +kernel
theorem dX8_sum_70 : decode cX8_sum 70 = .ok (.lstore_n 2, 1) := by decide +kernel
theorem dX8_sum_71 : decode cX8_sum 71 = .ok (.iinc 4 1, 3) := by decide +kernel
theorem dX8_sum_74 : decode cX8_sum 74 = .ok (.goto (-19), 3) := by decide +kernel
theorem dX8_sum_77 : decode cX8_sum 77 = .ok (.lload_n 2, 1) := by decide +kernel
theorem dX8_sum_78 : decode cX8_sum 78 = .ok (.ldc2_w 63, 3) := by decide +kernel
theorem dX8_sum_81 : decode cX8_sum 81 = .ok (.lrem, 1) := by decide +kernel
theorem dX8_sum_82 : decode cX8_sum 82 = .ok (.l2i, 1) := by decide +kernel
theorem dX8_sum_83 : decode cX8_sum 83 = .ok (.ireturn, 1) := by decide +kernel
