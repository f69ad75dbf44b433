theorem dX7_negative_0 : decode cX7_negative 0 = .ok (.iload_n 0, 1) := by decide +kernel
theorem dX7_negative_1 : decode cX7_negative 1 = .ok (.ifCond .ne 7, 3) := by decide +kernel
theorem dX7_negative_4 : decode cX7_negative 4 = .ok (.iconst 0, 1) := by decide +kernel
theorem dX7_negative_5 : decode cX7_negative 5 = .ok (.goto 8, 3) := by decide +kernel
theorem dX7_negative_8 : decode cX7_negative 8 = .ok (.sipush 32003, 3) := by decide +kernel
theorem dX7_negative_11 : decode cX7_negative 11 = .ok (.iload_n 0, 1) := by decide +kernel
theorem dX7_negative_12 : decode cX7_negative 12 = .ok (.isub, 1) := by decide +kernel
theorem dX7_negative_13 : decode cX7_negative 13 = .ok (.ireturn, 1) := by decide +kernel
theorem dX7_inverse_0 : decode cX7_inverse 0 = .ok (.iconst 1, 1) := by decide +kernel
theorem dX7_inverse_1 : decode cX7_inverse 1 = .ok (.istore_n 1, 1) := by decide +kernel
theorem dX7_inverse_2 : decode cX7_inverse 2 = .ok (.iload_n 0, 1) := by decide +kernel
theorem dX7_inverse_3 : decode cX7_inverse 3 = .ok (.istore_n 2, 1) := by decide +kernel
theorem dX7_inverse_4 : decode cX7_inverse 4 = .ok (.sipush 32001, 3) := by decide +kernel
theorem dX7_inverse_7 : decode cX7_inverse 7 = .ok (.istore_n 3, 1) := by decide +kernel
theorem dX7_inverse_8 : decode cX7_inverse 8 = .ok (.iload_n 3, 1) := by decide +kernel
theorem dX7_inverse_9 : decode cX7_inverse 9 = .ok (.ifCond .le 33, 3) := by decide +kernel
theorem dX7_inverse_12 : decode cX7_inverse 12 = .ok (.iload_n 3, 1) := by decide +kernel
theorem dX7_inverse_13 : decode cX7_inverse 13 = .ok (.iconst 1, 1) := by decide +kernel
theorem dX7_inverse_14 : decode cX7_inverse 14 = .ok (.iand, 1) := by decide +kernel
theorem dX7_inverse_15 : decode cX7_inverse 15 = .ok (.iconst 1, 1) := by decide +kernel
theorem dX7_inverse_16 : decode cX7_inverse 16 = .ok (.if_icmp .ne 11, 3) := by decide +kernel
theorem dX7_inverse_19 : decode cX7_inverse 19 = .ok (.iload_n 1, 1) := by decide +kernel
theorem dX7_inverse_20 : decode cX7_inverse 20 = .ok (.iload_n 2, 1) := by decide +kernel
theorem dX7_inverse_21 : decode cX7_inverse 21 = .ok (.imul, 1) := by decide +kernel
theorem dX7_inverse_22 : decode cX7_inverse 22 = .ok (.sipush 32003, 3) := by decide +kernel
theorem dX7_inverse_25 : decode cX7_inverse 25 = .ok (.irem, 1) := by decide +kernel
theorem dX7_inverse_26 : decode cX7_inverse 26 = .ok (.istore_n 1, 1) := by decide +kernel
theorem dX7_inverse_27 : decode cX7_inverse 27 = .ok (.iload_n 2, 1) := by decide +kernel
theorem dX7_inverse_28 : decode cX7_inverse 28 = .ok (.iload_n 2, 1) := by decide +kernel
theorem dX7_inverse_29 : decode cX7_inverse 29 = .ok (.imul, 1) := by decide +kernel
theorem dX7_inverse_30 : decode cX7_inverse 30 = .ok (.sipush 32003, 3) := by decide +kernel
theorem dX7_inverse_33 : decode cX7_inverse 33 = .ok (.irem, 1) := by decide +kernel
theorem dX7_inverse_34 : decode cX7_inverse 34 = .ok (.istore_n 2, 1) := by decide +kernel
theorem dX7_inverse_35 : decode cX7_inverse 35 = .ok (.iload_n 3, 1) := by decide +kernel
theorem dX7_inverse_36 : decode cX7_inverse 36 = .ok (.iconst 1, 1) := by decide +kernel
theorem dX7_inverse_37 : decode cX7_inverse 37 = .ok (.ishr, 1) := by decide +kernel
theorem dX7_inverse_38 : decode cX7_inverse 38 = .ok (.istore_n 3, 1) := by decide +kernel
theorem dX7_inverse_39 : decode cX7_inverse 39 = .ok (.goto (-31), 3) := by decide +kernel
theorem dX7_inverse_42 : decode cX7_inverse 42 = .ok (.iload_n 1, 1) := by decide +kernel
theorem dX7_inverse_43 : decode cX7_inverse 43 = .ok (.ireturn, 1) := by decide +kernel
