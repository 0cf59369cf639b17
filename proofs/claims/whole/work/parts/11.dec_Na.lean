theorem d_Na_init_0 : decode prog_6_method_1_code 0 = .ok (.aload_n 0, 1) := by decide +kernel
theorem d_Na_init_1 : decode prog_6_method_1_code 1 = .ok (.invokespecial 3, 3) := by decide +kernel
theorem d_Na_init_4 : decode prog_6_method_1_code 4 = .ok (.aload_n 0, 1) := by decide +kernel
theorem d_Na_init_5 : decode prog_6_method_1_code 5 = .ok (.iconst 0, 1) := by decide +kernel
theorem d_Na_init_6 : decode prog_6_method_1_code 6 = .ok (.putfield 9, 3) := by decide +kernel
theorem d_Na_init_9 : decode prog_6_method_1_code 9 = .ok (.aload_n 0, 1) := by decide +kernel
theorem d_Na_init_10 : decode prog_6_method_1_code 10 = .ok (.iload_n 1, 1) := by decide +kernel
theorem d_Na_init_11 : decode prog_6_method_1_code 11 = .ok (.iconst 0, 1) := by decide +kernel
theorem d_Na_init_12 : decode prog_6_method_1_code 12 = .ok (.invokestatic 15, 3) := by decide +kernel
theorem d_Na_init_15 : decode prog_6_method_1_code 15 = .ok (.newarray .int, 2) := by decide +kernel
theorem d_Na_init_17 : decode prog_6_method_1_code 17 = .ok (.putfield 21, 3) := by decide +kernel
theorem d_Na_init_20 : decode prog_6_method_1_code 20 = .ok (.return_, 1) := by decide +kernel
theorem d_Na_grow_0 : decode prog_6_method_2_code 0 = .ok (.iload_n 1, 1) := by decide +kernel
theorem d_Na_grow_1 : decode prog_6_method_2_code 1 = .ok (.aload_n 0, 1) := by decide +kernel
theorem d_Na_grow_2 : decode prog_6_method_2_code 2 = .ok (.getfield 21, 3) := by decide +kernel
theorem d_Na_grow_5 : decode prog_6_method_2_code 5 = .ok (.arraylength, 1) := by decide +kernel
theorem d_Na_grow_6 : decode prog_6_method_2_code 6 = .ok (.if_icmp .le 25, 3) := by decide +kernel
theorem d_Na_grow_9 : decode prog_6_method_2_code 9 = .ok (.aload_n 0, 1) := by decide +kernel
theorem d_Na_grow_10 : decode prog_6_method_2_code 10 = .ok (.aload_n 0, 1) := by decide +kernel
theorem d_Na_grow_11 : decode prog_6_method_2_code 11 = .ok (.getfield 21, 3) := by decide +kernel
theorem d_Na_grow_14 : decode prog_6_method_2_code 14 = .ok (.iload_n 1, 1) := by decide +kernel
theorem d_Na_grow_15 : decode prog_6_method_2_code 15 = .ok (.iconst 2, 1) := by decide +kernel
theorem d_Na_grow_16 : decode prog_6_method_2_code 16 = .ok (.aload_n 0, 1) := by decide +kernel
theorem d_Na_grow_17 : decode prog_6_method_2_code 17 = .ok (.getfield 21, 3) := by decide +kernel
theorem d_Na_grow_20 : decode prog_6_method_2_code 20 = .ok (.arraylength, 1) := by decide +kernel
theorem d_Na_grow_21 : decode prog_6_method_2_code 21 = .ok (.imul, 1) := by decide +kernel
theorem d_Na_grow_22 : decode prog_6_method_2_code 22 = .ok (.invokestatic 15, 3) := by decide +kernel
theorem d_Na_grow_25 : decode prog_6_method_2_code 25 = .ok (.invokestatic 25, 3) := by decide +kernel
theorem d_Na_grow_28 : decode prog_6_method_2_code 28 = .ok (.putfield 21, 3) := by decide +kernel
theorem d_Na_grow_31 : decode prog_6_method_2_code 31 = .ok (.return_, 1) := by decide +kernel
theorem d_Na_widen_0 : decode prog_6_method_3_code 0 = .ok (.aload_n 0, 1) := by decide +kernel
theorem d_Na_widen_1 : decode prog_6_method_3_code 1 = .ok (.iload_n 1, 1) := by decide +kernel
theorem d_Na_widen_2 : decode prog_6_method_3_code 2 = .ok (.invokevirtual 31, 3) := by decide +kernel
theorem d_Na_widen_5 : decode prog_6_method_3_code 5 = .ok (.aload_n 0, 1) := by decide +kernel
theorem d_Na_widen_6 : decode prog_6_method_3_code 6 = .ok (.getfield 9, 3) := by decide +kernel
theorem d_Na_widen_9 : decode prog_6_method_3_code 9 = .ok (.istore_n 2, 1) := by decide +kernel
theorem d_Na_widen_10 : decode prog_6_method_3_code 10 = .ok (.iload_n 2, 1) := by decide +kernel
theorem d_Na_widen_11 : decode prog_6_method_3_code 11 = .ok (.iload_n 1, 1) := by decide +kernel
theorem d_Na_widen_12 : decode prog_6_method_3_code 12 = .ok (.if_icmp .ge 16, 3) := by decide +kernel
theorem d_Na_widen_15 : decode prog_6_method_3_code 15 = .ok (.aload_n 0, 1) := by decide +kernel
theorem d_Na_widen_16 : decode prog_6_method_3_code 16 = .ok (.getfield 21, 3) := by decide +kernel
theorem d_Na_widen_19 : decode prog_6_method_3_code 19 = .ok (.iload_n 2, 1) := by decide +kernel
theorem d_Na_widen_20 : decode prog_6_method_3_code 20 = .ok (.iconst 0, 1) := by decide +kernel
theorem d_Na_widen_21 : decode prog_6_method_3_code 21 = .ok (.iastore, 1) := by decide +kernel
theorem d_Na_widen_22 : decode prog_6_method_3_code 22 = .ok (.iinc 2 1, 3) := by decide +kernel
theorem d_Na_widen_25 : decode prog_6_method_3_code 25 = .ok (.goto (-15), 3) := by decide +kernel
theorem d_Na_widen_28 : decode prog_6_method_3_code 28 = .ok (.aload_n 0, 1) := by decide +kernel
theorem d_Na_widen_29 : decode prog_6_method_3_code 29 = .ok (.iload_n 1, 1) := by decide +kernel
theorem d_Na_widen_30 : decode prog_6_method_3_code 30 = .ok (.putfield 9, 3) := by decide +kernel
theorem d_Na_widen_33 : decode prog_6_method_3_code 33 = .ok (.return_, 1) := by decide +kernel
theorem d_Na_trim_0 : decode prog_6_method_4_code 0 = .ok (.aload_n 0, 1) := by decide +kernel
theorem d_Na_trim_1 : decode prog_6_method_4_code 1 = .ok (.getfield 9, 3) := by decide +kernel
theorem d_Na_trim_4 : decode prog_6_method_4_code 4 = .ok (.ifCond .le 30, 3) := by decide +kernel
theorem d_Na_trim_7 : decode prog_6_method_4_code 7 = .ok (.aload_n 0, 1) := by decide +kernel
theorem d_Na_trim_8 : decode prog_6_method_4_code 8 = .ok (.getfield 21, 3) := by decide +kernel
theorem d_Na_trim_11 : decode prog_6_method_4_code 11 = .ok (.aload_n 0, 1) := by decide +kernel
theorem d_Na_trim_12 : decode prog_6_method_4_code 12 = .ok (.getfield 9, 3) := by decide +kernel
theorem d_Na_trim_15 : decode prog_6_method_4_code 15 = .ok (.iconst 1, 1) := by decide +kernel
theorem d_Na_trim_16 : decode prog_6_method_4_code 16 = .ok (.isub, 1) := by decide +kernel
theorem d_Na_trim_17 : decode prog_6_method_4_code 17 = .ok (.iaload, 1) := by decide +kernel
theorem d_Na_trim_18 : decode prog_6_method_4_code 18 = .ok (.ifCond .ne 16, 3) := by decide +kernel
theorem d_Na_trim_21 : decode prog_6_method_4_code 21 = .ok (.aload_n 0, 1) := by decide +kernel
theorem d_Na_trim_22 : decode prog_6_method_4_code 22 = .ok (.dup, 1) := by decide +kernel
theorem d_Na_trim_23 : decode prog_6_method_4_code 23 = .ok (.getfield 9, 3) := by decide +kernel
theorem d_Na_trim_26 : decode prog_6_method_4_code 26 = .ok (.iconst 1, 1) := by decide +kernel
theorem d_Na_trim_27 : decode prog_6_method_4_code 27 = .ok (.isub, 1) := by decide +kernel
theorem d_Na_trim_28 : decode prog_6_method_4_code 28 = .ok (.putfield 9, 3) := by decide +kernel
theorem d_Na_trim_31 : decode prog_6_method_4_code 31 = .ok (.goto (-31), 3) := by decide +kernel
theorem d_Na_trim_34 : decode prog_6_method_4_code 34 = .ok (.return_, 1) := by decide +kernel
theorem d_Na_limb_0 : decode prog_6_method_5_code 0 = .ok (.iload_n 1, 1) := by decide +kernel
theorem d_Na_limb_1 : decode prog_6_method_5_code 1 = .ok (.ifCond .lt 20, 3) := by decide +kernel
theorem d_Na_limb_4 : decode prog_6_method_5_code 4 = .ok (.iload_n 1, 1) := by decide +kernel
theorem d_Na_limb_5 : decode prog_6_method_5_code 5 = .ok (.aload_n 0, 1) := by decide +kernel
theorem d_Na_limb_6 : decode prog_6_method_5_code 6 = .ok (.getfield 9, 3) := by decide +kernel
theorem d_Na_limb_9 : decode prog_6_method_5_code 9 = .ok (.if_icmp .ge 12, 3) := by decide +kernel
theorem d_Na_limb_12 : decode prog_6_method_5_code 12 = .ok (.aload_n 0, 1) := by decide +kernel
theorem d_Na_limb_13 : decode prog_6_method_5_code 13 = .ok (.getfield 21, 3) := by decide +kernel
theorem d_Na_limb_16 : decode prog_6_method_5_code 16 = .ok (.iload_n 1, 1) := by decide +kernel
theorem d_Na_limb_17 : decode prog_6_method_5_code 17 = .ok (.iaload, 1) := by decide +kernel
theorem d_Na_limb_18 : decode prog_6_method_5_code 18 = .ok (.goto 4, 3) := by decide +kernel
theorem d_Na_limb_21 : decode prog_6_method_5_code 21 = .ok (.iconst 0, 1) := by decide +kernel
theorem d_Na_limb_22 : decode prog_6_method_5_code 22 = .ok (.ireturn, 1) := by decide +kernel
theorem d_Na_lowTwo_0 : decode prog_6_method_6_code 0 = .ok (.aload_n 0, 1) := by decide +kernel
theorem d_Na_lowTwo_1 : decode prog_6_method_6_code 1 = .ok (.iconst 1, 1) := by decide +kernel
theorem d_Na_lowTwo_2 : decode prog_6_method_6_code 2 = .ok (.invokevirtual 35, 3) := by decide +kernel
theorem d_Na_lowTwo_5 : decode prog_6_method_6_code 5 = .ok (.i2l, 1) := by decide +kernel
theorem d_Na_lowTwo_6 : decode prog_6_method_6_code 6 = .ok (.ldc2_w 39, 3) := by decide +kernel
theorem d_Na_lowTwo_9 : decode prog_6_method_6_code 9 = .ok (.lmul, 1) := by decide +kernel
theorem d_Na_lowTwo_10 : decode prog_6_method_6_code 10 = .ok (.aload_n 0, 1) := by decide +kernel
theorem d_Na_lowTwo_11 : decode prog_6_method_6_code 11 = .ok (.iconst 0, 1) := by decide +kernel
theorem d_Na_lowTwo_12 : decode prog_6_method_6_code 12 = .ok (.invokevirtual 35, 3) := by decide +kernel
theorem d_Na_lowTwo_15 : decode prog_6_method_6_code 15 = .ok (.i2l, 1) := by decide +kernel
theorem d_Na_lowTwo_16 : decode prog_6_method_6_code 16 = .ok (.ladd, 1) := by decide +kernel
theorem d_Na_lowTwo_17 : decode prog_6_method_6_code 17 = .ok (.lreturn, 1) := by decide +kernel
theorem d_Na_isOdd_0 : decode prog_6_method_7_code 0 = .ok (.aload_n 0, 1) := by decide +kernel
theorem d_Na_isOdd_1 : decode prog_6_method_7_code 1 = .ok (.iconst 0, 1) := by decide +kernel
theorem d_Na_isOdd_2 : decode prog_6_method_7_code 2 = .ok (.invokevirtual 35, 3) := by decide +kernel
theorem d_Na_isOdd_5 : decode prog_6_method_7_code 5 = .ok (.iconst 2, 1) := by decide +kernel
theorem d_Na_isOdd_6 : decode prog_6_method_7_code 6 = .ok (.irem, 1) := by decide +kernel
theorem d_Na_isOdd_7 : decode prog_6_method_7_code 7 = .ok (.ifCond .eq 7, 3) := by decide +kernel
theorem d_Na_isOdd_10 : decode prog_6_method_7_code 10 = .ok (.iconst 1, 1) := by decide +kernel
theorem d_Na_isOdd_11 : decode prog_6_method_7_code 11 = .ok (.goto 4, 3) := by decide +kernel
theorem d_Na_isOdd_14 : decode prog_6_method_7_code 14 = .ok (.iconst 0, 1) := by decide +kernel
theorem d_Na_isOdd_15 : decode prog_6_method_7_code 15 = .ok (.ireturn, 1) := by decide +kernel
theorem d_Na_compare_0 : decode prog_6_method_8_code 0 = .ok (.aload_n 0, 1) := by decide +kernel
theorem d_Na_compare_1 : decode prog_6_method_8_code 1 = .ok (.getfield 9, 3) := by decide +kernel
theorem d_Na_compare_4 : decode prog_6_method_8_code 4 = .ok (.aload_n 1, 1) := by decide +kernel
theorem d_Na_compare_5 : decode prog_6_method_8_code 5 = .ok (.getfield 9, 3) := by decide +kernel
theorem d_Na_compare_8 : decode prog_6_method_8_code 8 = .ok (.if_icmp .eq 20, 3) := by decide +kernel
theorem d_Na_compare_11 : decode prog_6_method_8_code 11 = .ok (.aload_n 0, 1) := by decide +kernel
theorem d_Na_compare_12 : decode prog_6_method_8_code 12 = .ok (.getfield 9, 3) := by decide +kernel
theorem d_Na_compare_15 : decode prog_6_method_8_code 15 = .ok (.aload_n 1, 1) := by decide +kernel
theorem d_Na_compare_16 : decode prog_6_method_8_code 16 = .ok (.getfield 9, 3) := by decide +kernel
theorem d_Na_compare_19 : decode prog_6_method_8_code 19 = .ok (.if_icmp .ge 7, 3) := by decide +kernel
theorem d_Na_compare_22 : decode prog_6_method_8_code 22 = .ok (.iconst (-1), 1) := by decide +kernel
theorem d_Na_compare_23 : decode prog_6_method_8_code 23 = .ok (.goto 4, 3) := by decide +kernel
theorem d_Na_compare_26 : decode prog_6_method_8_code 26 = .ok (.iconst 1, 1) := by decide +kernel
theorem d_Na_compare_27 : decode prog_6_method_8_code 27 = .ok (.ireturn, 1) := by decide +kernel
theorem d_Na_compare_28 : decode prog_6_method_8_code 28 = .ok (.aload_n 0, 1) := by decide +kernel
theorem d_Na_compare_29 : decode prog_6_method_8_code 29 = .ok (.getfield 9, 3) := by decide +kernel
theorem d_Na_compare_32 : decode prog_6_method_8_code 32 = .ok (.iconst 1, 1) := by decide +kernel
theorem d_Na_compare_33 : decode prog_6_method_8_code 33 = .ok (.isub, 1) := by decide +kernel
theorem d_Na_compare_34 : decode prog_6_method_8_code 34 = .ok (.istore_n 2, 1) := by decide +kernel
theorem d_Na_compare_35 : decode prog_6_method_8_code 35 = .ok (.iload_n 2, 1) := by decide +kernel
theorem d_Na_compare_36 : decode prog_6_method_8_code 36 = .ok (.ifCond .lt 45, 3) := by decide +kernel
theorem d_Na_compare_39 : decode prog_6_method_8_code 39 = .ok (.aload_n 0, 1) := by decide +kernel
theorem d_Na_compare_40 : decode prog_6_method_8_code 40 = .ok (.getfield 21, 3) := by decide +kernel
theorem d_Na_compare_43 : decode prog_6_method_8_code 43 = .ok (.iload_n 2, 1) := by decide +kernel
theorem d_Na_compare_44 : decode prog_6_method_8_code 44 = .ok (.iaload, 1) := by decide +kernel
theorem d_Na_compare_45 : decode prog_6_method_8_code 45 = .ok (.aload_n 1, 1) := by decide +kernel
theorem d_Na_compare_46 : decode prog_6_method_8_code 46 = .ok (.getfield 21, 3) := by decide +kernel
theorem d_Na_compare_49 : decode prog_6_method_8_code 49 = .ok (.iload_n 2, 1) := by decide +kernel
theorem d_Na_compare_50 : decode prog_6_method_8_code 50 = .ok (.iaload, 1) := by decide +kernel
theorem d_Na_compare_51 : decode prog_6_method_8_code 51 = .ok (.if_icmp .eq 24, 3) := by decide +kernel
theorem d_Na_compare_54 : decode prog_6_method_8_code 54 = .ok (.aload_n 0, 1) := by decide +kernel
theorem d_Na_compare_55 : decode prog_6_method_8_code 55 = .ok (.getfield 21, 3) := by decide +kernel
theorem d_Na_compare_58 : decode prog_6_method_8_code 58 = .ok (.iload_n 2, 1) := by decide +kernel
theorem d_Na_compare_59 : decode prog_6_method_8_code 59 = .ok (.iaload, 1) := by decide +kernel
theorem d_Na_compare_60 : decode prog_6_method_8_code 60 = .ok (.aload_n 1, 1) := by decide +kernel
theorem d_Na_compare_61 : decode prog_6_method_8_code 61 = .ok (.getfield 21, 3) := by decide +kernel
theorem d_Na_compare_64 : decode prog_6_method_8_code 64 = .ok (.iload_n 2, 1) := by decide +kernel
theorem d_Na_compare_65 : decode prog_6_method_8_code 65 = .ok (.iaload, 1) := by decide +kernel
theorem d_Na_compare_66 : decode prog_6_method_8_code 66 = .ok (.if_icmp .ge 7, 3) := by decide +kernel
theorem d_Na_compare_69 : decode prog_6_method_8_code 69 = .ok (.iconst (-1), 1) := by decide +kernel
theorem d_Na_compare_70 : decode prog_6_method_8_code 70 = .ok (.goto 4, 3) := by decide +kernel
theorem d_Na_compare_73 : decode prog_6_method_8_code 73 = .ok (.iconst 1, 1) := by decide +kernel
theorem d_Na_compare_74 : decode prog_6_method_8_code 74 = .ok (.ireturn, 1) := by decide +kernel
theorem d_Na_compare_75 : decode prog_6_method_8_code 75 = .ok (.iinc 2 (-1), 3) := by decide +kernel
theorem d_Na_compare_78 : decode prog_6_method_8_code 78 = .ok (.goto (-43), 3) := by decide +kernel
theorem d_Na_compare_81 : decode prog_6_method_8_code 81 = .ok (.iconst 0, 1) := by decide +kernel
theorem d_Na_compare_82 : decode prog_6_method_8_code 82 = .ok (.ireturn, 1) := by decide +kernel
theorem d_Na_digits_0 : decode prog_6_method_9_code 0 = .ok (.aload_n 0, 1) := by decide +kernel
theorem d_Na_digits_1 : decode prog_6_method_9_code 1 = .ok (.getfield 9, 3) := by decide +kernel
theorem d_Na_digits_4 : decode prog_6_method_9_code 4 = .ok (.ifCond .ne 7, 3) := by decide +kernel
theorem d_Na_digits_7 : decode prog_6_method_9_code 7 = .ok (.iconst 1, 1) := by decide +kernel
theorem d_Na_digits_8 : decode prog_6_method_9_code 8 = .ok (.goto 26, 3) := by decide +kernel
theorem d_Na_digits_11 : decode prog_6_method_9_code 11 = .ok (.aload_n 0, 1) := by decide +kernel
theorem d_Na_digits_12 : decode prog_6_method_9_code 12 = .ok (.getfield 9, 3) := by decide +kernel
theorem d_Na_digits_15 : decode prog_6_method_9_code 15 = .ok (.iconst 1, 1) := by decide +kernel
theorem d_Na_digits_16 : decode prog_6_method_9_code 16 = .ok (.isub, 1) := by decide +kernel
theorem d_Na_digits_17 : decode prog_6_method_9_code 17 = .ok (.bipush 9, 2) := by decide +kernel
theorem d_Na_digits_19 : decode prog_6_method_9_code 19 = .ok (.imul, 1) := by decide +kernel
theorem d_Na_digits_20 : decode prog_6_method_9_code 20 = .ok (.aload_n 0, 1) := by decide +kernel
theorem d_Na_digits_21 : decode prog_6_method_9_code 21 = .ok (.aload_n 0, 1) := by decide +kernel
theorem d_Na_digits_22 : decode prog_6_method_9_code 22 = .ok (.getfield 9, 3) := by decide +kernel
theorem d_Na_digits_25 : decode prog_6_method_9_code 25 = .ok (.iconst 1, 1) := by decide +kernel
theorem d_Na_digits_26 : decode prog_6_method_9_code 26 = .ok (.isub, 1) := by decide +kernel
theorem d_Na_digits_27 : decode prog_6_method_9_code 27 = .ok (.invokevirtual 35, 3) := by decide +kernel
theorem d_Na_digits_30 : decode prog_6_method_9_code 30 = .ok (.invokestatic 41, 3) := by decide +kernel
theorem d_Na_digits_33 : decode prog_6_method_9_code 33 = .ok (.iadd, 1) := by decide +kernel
theorem d_Na_digits_34 : decode prog_6_method_9_code 34 = .ok (.ireturn, 1) := by decide +kernel
theorem d_Na_decimal_0 : decode prog_6_method_10_code 0 = .ok (.iload_n 1, 1) := by decide +kernel
theorem d_Na_decimal_1 : decode prog_6_method_10_code 1 = .ok (.ifCond .ge 7, 3) := by decide +kernel
theorem d_Na_decimal_4 : decode prog_6_method_10_code 4 = .ok (.iconst 0, 1) := by decide +kernel
theorem d_Na_decimal_5 : decode prog_6_method_10_code 5 = .ok (.goto 23, 3) := by decide +kernel
theorem d_Na_decimal_8 : decode prog_6_method_10_code 8 = .ok (.aload_n 0, 1) := by decide +kernel
theorem d_Na_decimal_9 : decode prog_6_method_10_code 9 = .ok (.iload_n 1, 1) := by decide +kernel
theorem d_Na_decimal_10 : decode prog_6_method_10_code 10 = .ok (.bipush 9, 2) := by decide +kernel
theorem d_Na_decimal_12 : decode prog_6_method_10_code 12 = .ok (.idiv, 1) := by decide +kernel
theorem d_Na_decimal_13 : decode prog_6_method_10_code 13 = .ok (.invokevirtual 35, 3) := by decide +kernel
theorem d_Na_decimal_16 : decode prog_6_method_10_code 16 = .ok (.getstatic 44, 3) := by decide +kernel
theorem d_Na_decimal_19 : decode prog_6_method_10_code 19 = .ok (.iload_n 1, 1) := by decide +kernel
theorem d_Na_decimal_20 : decode prog_6_method_10_code 20 = .ok (.bipush 9, 2) := by decide +kernel
theorem d_Na_decimal_22 : decode prog_6_method_10_code 22 = .ok (.irem, 1) := by decide +kernel
theorem d_Na_decimal_23 : decode prog_6_method_10_code 23 = .ok (.iaload, 1) := by decide +kernel
theorem d_Na_decimal_24 : decode prog_6_method_10_code 24 = .ok (.idiv, 1) := by decide +kernel
theorem d_Na_decimal_25 : decode prog_6_method_10_code 25 = .ok (.bipush 10, 2) := by decide +kernel
theorem d_Na_decimal_27 : decode prog_6_method_10_code 27 = .ok (.irem, 1) := by decide +kernel
theorem d_Na_decimal_28 : decode prog_6_method_10_code 28 = .ok (.ireturn, 1) := by decide +kernel
theorem d_Na_digitsOfLimb_0 : decode prog_6_method_11_code 0 = .ok (.iconst 1, 1) := by decide +kernel
theorem d_Na_digitsOfLimb_1 : decode prog_6_method_11_code 1 = .ok (.istore_n 1, 1) := by decide +kernel
theorem d_Na_digitsOfLimb_2 : decode prog_6_method_11_code 2 = .ok (.iload_n 1, 1) := by decide +kernel
theorem d_Na_digitsOfLimb_3 : decode prog_6_method_11_code 3 = .ok (.bipush 9, 2) := by decide +kernel
theorem d_Na_digitsOfLimb_5 : decode prog_6_method_11_code 5 = .ok (.if_icmp .ge 18, 3) := by decide +kernel
theorem d_Na_digitsOfLimb_8 : decode prog_6_method_11_code 8 = .ok (.iload_n 0, 1) := by decide +kernel
theorem d_Na_digitsOfLimb_9 : decode prog_6_method_11_code 9 = .ok (.getstatic 44, 3) := by decide +kernel
theorem d_Na_digitsOfLimb_12 : decode prog_6_method_11_code 12 = .ok (.iload_n 1, 1) := by decide +kernel
theorem d_Na_digitsOfLimb_13 : decode prog_6_method_11_code 13 = .ok (.iaload, 1) := by decide +kernel
theorem d_Na_digitsOfLimb_14 : decode prog_6_method_11_code 14 = .ok (.if_icmp .lt 9, 3) := by decide +kernel
theorem d_Na_digitsOfLimb_17 : decode prog_6_method_11_code 17 = .ok (.iinc 1 1, 3) := by decide +kernel
theorem d_Na_digitsOfLimb_20 : decode prog_6_method_11_code 20 = .ok (.goto (-18), 3) := by decide +kernel
theorem d_Na_digitsOfLimb_23 : decode prog_6_method_11_code 23 = .ok (.iload_n 1, 1) := by decide +kernel
theorem d_Na_digitsOfLimb_24 : decode prog_6_method_11_code 24 = .ok (.ireturn, 1) := by decide +kernel
theorem d_Na_leading_0 : decode prog_6_method_12_code 0 = .ok (.iload_n 2, 1) := by decide +kernel
theorem d_Na_leading_1 : decode prog_6_method_12_code 1 = .ok (.iconst 1, 1) := by decide +kernel
theorem d_Na_leading_2 : decode prog_6_method_12_code 2 = .ok (.if_icmp .lt 9, 3) := by decide +kernel
theorem d_Na_leading_5 : decode prog_6_method_12_code 5 = .ok (.iload_n 2, 1) := by decide +kernel
theorem d_Na_leading_6 : decode prog_6_method_12_code 6 = .ok (.bipush 9, 2) := by decide +kernel
theorem d_Na_leading_8 : decode prog_6_method_12_code 8 = .ok (.if_icmp .le 5, 3) := by decide +kernel
theorem d_Na_leading_11 : decode prog_6_method_12_code 11 = .ok (.lconst 0, 1) := by decide +kernel
theorem d_Na_leading_12 : decode prog_6_method_12_code 12 = .ok (.lreturn, 1) := by decide +kernel
theorem d_Na_leading_13 : decode prog_6_method_12_code 13 = .ok (.aload_n 0, 1) := by decide +kernel
theorem d_Na_leading_14 : decode prog_6_method_12_code 14 = .ok (.iload_n 1, 1) := by decide +kernel
theorem d_Na_leading_15 : decode prog_6_method_12_code 15 = .ok (.iconst 1, 1) := by decide +kernel
theorem d_Na_leading_16 : decode prog_6_method_12_code 16 = .ok (.isub, 1) := by decide +kernel
theorem d_Na_leading_17 : decode prog_6_method_12_code 17 = .ok (.invokevirtual 35, 3) := by decide +kernel
theorem d_Na_leading_20 : decode prog_6_method_12_code 20 = .ok (.i2l, 1) := by decide +kernel
theorem d_Na_leading_21 : decode prog_6_method_12_code 21 = .ok (.ldc2_w 39, 3) := by decide +kernel
theorem d_Na_leading_24 : decode prog_6_method_12_code 24 = .ok (.lmul, 1) := by decide +kernel
theorem d_Na_leading_25 : decode prog_6_method_12_code 25 = .ok (.aload_n 0, 1) := by decide +kernel
theorem d_Na_leading_26 : decode prog_6_method_12_code 26 = .ok (.iload_n 1, 1) := by decide +kernel
theorem d_Na_leading_27 : decode prog_6_method_12_code 27 = .ok (.iconst 2, 1) := by decide +kernel
theorem d_Na_leading_28 : decode prog_6_method_12_code 28 = .ok (.isub, 1) := by decide +kernel
theorem d_Na_leading_29 : decode prog_6_method_12_code 29 = .ok (.invokevirtual 35, 3) := by decide +kernel
theorem d_Na_leading_32 : decode prog_6_method_12_code 32 = .ok (.i2l, 1) := by decide +kernel
theorem d_Na_leading_33 : decode prog_6_method_12_code 33 = .ok (.ladd, 1) := by decide +kernel
theorem d_Na_leading_34 : decode prog_6_method_12_code 34 = .ok (.lstore_n 3, 1) := by decide +kernel
theorem d_Na_leading_35 : decode prog_6_method_12_code 35 = .ok (.lload_n 3, 1) := by decide +kernel
theorem d_Na_leading_36 : decode prog_6_method_12_code 36 = .ok (.getstatic 44, 3) := by decide +kernel
theorem d_Na_leading_39 : decode prog_6_method_12_code 39 = .ok (.bipush 9, 2) := by decide +kernel
theorem d_Na_leading_41 : decode prog_6_method_12_code 41 = .ok (.iload_n 2, 1) := by decide +kernel
theorem d_Na_leading_42 : decode prog_6_method_12_code 42 = .ok (.isub, 1) := by decide +kernel
theorem d_Na_leading_43 : decode prog_6_method_12_code 43 = .ok (.iaload, 1) := by decide +kernel
theorem d_Na_leading_44 : decode prog_6_method_12_code 44 = .ok (.i2l, 1) := by decide +kernel
theorem d_Na_leading_45 : decode prog_6_method_12_code 45 = .ok (.lmul, 1) := by decide +kernel
theorem d_Na_leading_46 : decode prog_6_method_12_code 46 = .ok (.aload_n 0, 1) := by decide +kernel
theorem d_Na_leading_47 : decode prog_6_method_12_code 47 = .ok (.iload_n 1, 1) := by decide +kernel
theorem d_Na_leading_48 : decode prog_6_method_12_code 48 = .ok (.iconst 3, 1) := by decide +kernel
theorem d_Na_leading_49 : decode prog_6_method_12_code 49 = .ok (.isub, 1) := by decide +kernel
theorem d_Na_leading_50 : decode prog_6_method_12_code 50 = .ok (.invokevirtual 35, 3) := by decide +kernel
theorem d_Na_leading_53 : decode prog_6_method_12_code 53 = .ok (.getstatic 44, 3) := by decide +kernel
theorem d_Na_leading_56 : decode prog_6_method_12_code 56 = .ok (.iload_n 2, 1) := by decide +kernel
theorem d_Na_leading_57 : decode prog_6_method_12_code 57 = .ok (.iaload, 1) := by decide +kernel
theorem d_Na_leading_58 : decode prog_6_method_12_code 58 = .ok (.idiv, 1) := by decide +kernel
theorem d_Na_leading_59 : decode prog_6_method_12_code 59 = .ok (.i2l, 1) := by decide +kernel
theorem d_Na_leading_60 : decode prog_6_method_12_code 60 = .ok (.ladd, 1) := by decide +kernel
theorem d_Na_leading_61 : decode prog_6_method_12_code 61 = .ok (.lreturn, 1) := by decide +kernel
theorem d_Na_setTo_0 : decode prog_6_method_13_code 0 = .ok (.aload_n 0, 1) := by decide +kernel
theorem d_Na_setTo_1 : decode prog_6_method_13_code 1 = .ok (.aload_n 1, 1) := by decide +kernel
theorem d_Na_setTo_2 : decode prog_6_method_13_code 2 = .ok (.getfield 9, 3) := by decide +kernel
theorem d_Na_setTo_5 : decode prog_6_method_13_code 5 = .ok (.invokevirtual 31, 3) := by decide +kernel
theorem d_Na_setTo_8 : decode prog_6_method_13_code 8 = .ok (.aload_n 1, 1) := by decide +kernel
theorem d_Na_setTo_9 : decode prog_6_method_13_code 9 = .ok (.getfield 21, 3) := by decide +kernel
theorem d_Na_setTo_12 : decode prog_6_method_13_code 12 = .ok (.iconst 0, 1) := by decide +kernel
theorem d_Na_setTo_13 : decode prog_6_method_13_code 13 = .ok (.aload_n 0, 1) := by decide +kernel
theorem d_Na_setTo_14 : decode prog_6_method_13_code 14 = .ok (.getfield 21, 3) := by decide +kernel
theorem d_Na_setTo_17 : decode prog_6_method_13_code 17 = .ok (.iconst 0, 1) := by decide +kernel
theorem d_Na_setTo_18 : decode prog_6_method_13_code 18 = .ok (.aload_n 1, 1) := by decide +kernel
theorem d_Na_setTo_19 : decode prog_6_method_13_code 19 = .ok (.getfield 9, 3) := by decide +kernel
theorem d_Na_setTo_22 : decode prog_6_method_13_code 22 = .ok (.invokestatic 47, 3) := by decide +kernel
theorem d_Na_setTo_25 : decode prog_6_method_13_code 25 = .ok (.aload_n 0, 1) := by decide +kernel
theorem d_Na_setTo_26 : decode prog_6_method_13_code 26 = .ok (.aload_n 1, 1) := by decide +kernel
theorem d_Na_setTo_27 : decode prog_6_method_13_code 27 = .ok (.getfield 9, 3) := by decide +kernel
theorem d_Na_setTo_30 : decode prog_6_method_13_code 30 = .ok (.putfield 9, 3) := by decide +kernel
theorem d_Na_setTo_33 : decode prog_6_method_13_code 33 = .ok (.return_, 1) := by decide +kernel
theorem d_Na_setMagnitude_0 : decode prog_6_method_14_code 0 = .ok (.aload_n 0, 1) := by decide +kernel
theorem d_Na_setMagnitude_1 : decode prog_6_method_14_code 1 = .ok (.iconst 3, 1) := by decide +kernel
theorem d_Na_setMagnitude_2 : decode prog_6_method_14_code 2 = .ok (.invokevirtual 31, 3) := by decide +kernel
theorem d_Na_setMagnitude_5 : decode prog_6_method_14_code 5 = .ok (.lload_n 1, 1) := by decide +kernel
theorem d_Na_setMagnitude_6 : decode prog_6_method_14_code 6 = .ok (.lstore_n 3, 1) := by decide +kernel
theorem d_Na_setMagnitude_7 : decode prog_6_method_14_code 7 = .ok (.iconst 0, 1) := by decide +kernel
theorem d_Na_setMagnitude_8 : decode prog_6_method_14_code 8 = .ok (.istore 5, 2) := by decide +kernel
theorem d_Na_setMagnitude_10 : decode prog_6_method_14_code 10 = .ok (.iload 5, 2) := by decide +kernel
theorem d_Na_setMagnitude_12 : decode prog_6_method_14_code 12 = .ok (.iconst 3, 1) := by decide +kernel
theorem d_Na_setMagnitude_13 : decode prog_6_method_14_code 13 = .ok (.if_icmp .ge 31, 3) := by decide +kernel
theorem d_Na_setMagnitude_16 : decode prog_6_method_14_code 16 = .ok (.aload_n 0, 1) := by decide +kernel
theorem d_Na_setMagnitude_17 : decode prog_6_method_14_code 17 = .ok (.getfield 21, 3) := by decide +kernel
theorem d_Na_setMagnitude_20 : decode prog_6_method_14_code 20 = .ok (.iload 5, 2) := by decide +kernel
theorem d_Na_setMagnitude_22 : decode prog_6_method_14_code 22 = .ok (.lload_n 3, 1) := by decide +kernel
theorem d_Na_setMagnitude_23 : decode prog_6_method_14_code 23 = .ok (.ldc2_w 39, 3) := by decide +kernel
theorem d_Na_setMagnitude_26 : decode prog_6_method_14_code 26 = .ok (.lrem, 1) := by decide +kernel
theorem d_Na_setMagnitude_27 : decode prog_6_method_14_code 27 = .ok (.invokestatic 53, 3) := by decide +kernel
theorem d_Na_setMagnitude_30 : decode prog_6_method_14_code 30 = .ok (.l2i, 1) := by decide +kernel
theorem d_Na_setMagnitude_31 : decode prog_6_method_14_code 31 = .ok (.iastore, 1) := by decide +kernel
theorem d_Na_setMagnitude_32 : decode prog_6_method_14_code 32 = .ok (.lload_n 3, 1) := by decide +kernel
theorem d_Na_setMagnitude_33 : decode prog_6_method_14_code 33 = .ok (.ldc2_w 39, 3) := by decide +kernel
theorem d_Na_setMagnitude_36 : decode prog_6_method_14_code 36 = .ok (.ldiv, 1) := by decide +kernel
theorem d_Na_setMagnitude_37 : decode prog_6_method_14_code 37 = .ok (.lstore_n 3, 1) := by decide +kernel
theorem d_Na_setMagnitude_38 : decode prog_6_method_14_code 38 = .ok (.iinc 5 1, 3) := by decide +kernel
theorem d_Na_setMagnitude_41 : decode prog_6_method_14_code 41 = .ok (.goto (-31), 3) := by decide +kernel
theorem d_Na_setMagnitude_44 : decode prog_6_method_14_code 44 = .ok (.aload_n 0, 1) := by decide +kernel
theorem d_Na_setMagnitude_45 : decode prog_6_method_14_code 45 = .ok (.iconst 3, 1) := by decide +kernel
theorem d_Na_setMagnitude_46 : decode prog_6_method_14_code 46 = .ok (.putfield 9, 3) := by decide +kernel
theorem d_Na_setMagnitude_49 : decode prog_6_method_14_code 49 = .ok (.aload_n 0, 1) := by decide +kernel
theorem d_Na_setMagnitude_50 : decode prog_6_method_14_code 50 = .ok (.invokevirtual 57, 3) := by decide +kernel
theorem d_Na_setMagnitude_53 : decode prog_6_method_14_code 53 = .ok (.return_, 1) := by decide +kernel
theorem d_Na_setSum_0 : decode prog_6_method_15_code 0 = .ok (.aload_n 1, 1) := by decide +kernel
theorem d_Na_setSum_1 : decode prog_6_method_15_code 1 = .ok (.getfield 9, 3) := by decide +kernel
theorem d_Na_setSum_4 : decode prog_6_method_15_code 4 = .ok (.aload_n 2, 1) := by decide +kernel
theorem d_Na_setSum_5 : decode prog_6_method_15_code 5 = .ok (.getfield 9, 3) := by decide +kernel
theorem d_Na_setSum_8 : decode prog_6_method_15_code 8 = .ok (.invokestatic 15, 3) := by decide +kernel
theorem d_Na_setSum_11 : decode prog_6_method_15_code 11 = .ok (.istore_n 3, 1) := by decide +kernel
theorem d_Na_setSum_12 : decode prog_6_method_15_code 12 = .ok (.aload_n 0, 1) := by decide +kernel
theorem d_Na_setSum_13 : decode prog_6_method_15_code 13 = .ok (.iload_n 3, 1) := by decide +kernel
theorem d_Na_setSum_14 : decode prog_6_method_15_code 14 = .ok (.iconst 1, 1) := by decide +kernel
theorem d_Na_setSum_15 : decode prog_6_method_15_code 15 = .ok (.iadd, 1) := by decide +kernel
theorem d_Na_setSum_16 : decode prog_6_method_15_code 16 = .ok (.invokevirtual 31, 3) := by decide +kernel
theorem d_Na_setSum_19 : decode prog_6_method_15_code 19 = .ok (.iconst 0, 1) := by decide +kernel
theorem d_Na_setSum_20 : decode prog_6_method_15_code 20 = .ok (.istore 4, 2) := by decide +kernel
theorem d_Na_setSum_22 : decode prog_6_method_15_code 22 = .ok (.iconst 0, 1) := by decide +kernel
theorem d_Na_setSum_23 : decode prog_6_method_15_code 23 = .ok (.istore 5, 2) := by decide +kernel
theorem d_Na_setSum_25 : decode prog_6_method_15_code 25 = .ok (.iload 5, 2) := by decide +kernel
theorem d_Na_setSum_27 : decode prog_6_method_15_code 27 = .ok (.iload_n 3, 1) := by decide +kernel
theorem d_Na_setSum_28 : decode prog_6_method_15_code 28 = .ok (.if_icmp .ge 64, 3) := by decide +kernel
theorem d_Na_setSum_31 : decode prog_6_method_15_code 31 = .ok (.aload_n 1, 1) := by decide +kernel
theorem d_Na_setSum_32 : decode prog_6_method_15_code 32 = .ok (.iload 5, 2) := by decide +kernel
theorem d_Na_setSum_34 : decode prog_6_method_15_code 34 = .ok (.invokevirtual 35, 3) := by decide +kernel
theorem d_Na_setSum_37 : decode prog_6_method_15_code 37 = .ok (.i2l, 1) := by decide +kernel
theorem d_Na_setSum_38 : decode prog_6_method_15_code 38 = .ok (.aload_n 2, 1) := by decide +kernel
theorem d_Na_setSum_39 : decode prog_6_method_15_code 39 = .ok (.iload 5, 2) := by decide +kernel
theorem d_Na_setSum_41 : decode prog_6_method_15_code 41 = .ok (.invokevirtual 35, 3) := by decide +kernel
theorem d_Na_setSum_44 : decode prog_6_method_15_code 44 = .ok (.i2l, 1) := by decide +kernel
theorem d_Na_setSum_45 : decode prog_6_method_15_code 45 = .ok (.ladd, 1) := by decide +kernel
theorem d_Na_setSum_46 : decode prog_6_method_15_code 46 = .ok (.iload 4, 2) := by decide +kernel
theorem d_Na_setSum_48 : decode prog_6_method_15_code 48 = .ok (.i2l, 1) := by decide +kernel
theorem d_Na_setSum_49 : decode prog_6_method_15_code 49 = .ok (.ladd, 1) := by decide +kernel
theorem d_Na_setSum_50 : decode prog_6_method_15_code 50 = .ok (.lstore 6, 2) := by decide +kernel
theorem d_Na_setSum_52 : decode prog_6_method_15_code 52 = .ok (.lload 6, 2) := by decide +kernel
theorem d_Na_setSum_54 : decode prog_6_method_15_code 54 = .ok (.ldc2_w 39, 3) := by decide +kernel
theorem d_Na_setSum_57 : decode prog_6_method_15_code 57 = .ok (.lcmp, 1) := by decide +kernel
theorem d_Na_setSum_58 : decode prog_6_method_15_code 58 = .ok (.ifCond .lt 7, 3) := by decide +kernel
theorem d_Na_setSum_61 : decode prog_6_method_15_code 61 = .ok (.iconst 1, 1) := by decide +kernel
theorem d_Na_setSum_62 : decode prog_6_method_15_code 62 = .ok (.goto 4, 3) := by decide +kernel
theorem d_Na_setSum_65 : decode prog_6_method_15_code 65 = .ok (.iconst 0, 1) := by decide +kernel
theorem d_Na_setSum_66 : decode prog_6_method_15_code 66 = .ok (.istore 4, 2) := by decide +kernel
theorem d_Na_setSum_68 : decode prog_6_method_15_code 68 = .ok (.aload_n 0, 1) := by decide +kernel
theorem d_Na_setSum_69 : decode prog_6_method_15_code 69 = .ok (.getfield 21, 3) := by decide +kernel
theorem d_Na_setSum_72 : decode prog_6_method_15_code 72 = .ok (.iload 5, 2) := by decide +kernel
theorem d_Na_setSum_74 : decode prog_6_method_15_code 74 = .ok (.lload 6, 2) := by decide +kernel
theorem d_Na_setSum_76 : decode prog_6_method_15_code 76 = .ok (.iload 4, 2) := by decide +kernel
theorem d_Na_setSum_78 : decode prog_6_method_15_code 78 = .ok (.i2l, 1) := by decide +kernel
theorem d_Na_setSum_79 : decode prog_6_method_15_code 79 = .ok (.ldc2_w 39, 3) := by decide +kernel
theorem d_Na_setSum_82 : decode prog_6_method_15_code 82 = .ok (.lmul, 1) := by decide +kernel
theorem d_Na_setSum_83 : decode prog_6_method_15_code 83 = .ok (.lsub, 1) := by decide +kernel
theorem d_Na_setSum_84 : decode prog_6_method_15_code 84 = .ok (.l2i, 1) := by decide +kernel
theorem d_Na_setSum_85 : decode prog_6_method_15_code 85 = .ok (.iastore, 1) := by decide +kernel
theorem d_Na_setSum_86 : decode prog_6_method_15_code 86 = .ok (.iinc 5 1, 3) := by decide +kernel
theorem d_Na_setSum_89 : decode prog_6_method_15_code 89 = .ok (.goto (-64), 3) := by decide +kernel
theorem d_Na_setSum_92 : decode prog_6_method_15_code 92 = .ok (.aload_n 0, 1) := by decide +kernel
theorem d_Na_setSum_93 : decode prog_6_method_15_code 93 = .ok (.getfield 21, 3) := by decide +kernel
theorem d_Na_setSum_96 : decode prog_6_method_15_code 96 = .ok (.iload_n 3, 1) := by decide +kernel
theorem d_Na_setSum_97 : decode prog_6_method_15_code 97 = .ok (.iload 4, 2) := by decide +kernel
theorem d_Na_setSum_99 : decode prog_6_method_15_code 99 = .ok (.iastore, 1) := by decide +kernel
theorem d_Na_setSum_100 : decode prog_6_method_15_code 100 = .ok (.aload_n 0, 1) := by decide +kernel
theorem d_Na_setSum_101 : decode prog_6_method_15_code 101 = .ok (.iload_n 3, 1) := by decide +kernel
theorem d_Na_setSum_102 : decode prog_6_method_15_code 102 = .ok (.iconst 1, 1) := by decide +kernel
theorem d_Na_setSum_103 : decode prog_6_method_15_code 103 = .ok (.iadd, 1) := by decide +kernel
theorem d_Na_setSum_104 : decode prog_6_method_15_code 104 = .ok (.putfield 9, 3) := by decide +kernel
theorem d_Na_setSum_107 : decode prog_6_method_15_code 107 = .ok (.aload_n 0, 1) := by decide +kernel
theorem d_Na_setSum_108 : decode prog_6_method_15_code 108 = .ok (.invokevirtual 57, 3) := by decide +kernel
theorem d_Na_setSum_111 : decode prog_6_method_15_code 111 = .ok (.return_, 1) := by decide +kernel
theorem d_Na_setDifference_0 : decode prog_6_method_16_code 0 = .ok (.aload_n 0, 1) := by decide +kernel
theorem d_Na_setDifference_1 : decode prog_6_method_16_code 1 = .ok (.aload_n 1, 1) := by decide +kernel
theorem d_Na_setDifference_2 : decode prog_6_method_16_code 2 = .ok (.getfield 9, 3) := by decide +kernel
theorem d_Na_setDifference_5 : decode prog_6_method_16_code 5 = .ok (.invokevirtual 31, 3) := by decide +kernel
theorem d_Na_setDifference_8 : decode prog_6_method_16_code 8 = .ok (.iconst 0, 1) := by decide +kernel
theorem d_Na_setDifference_9 : decode prog_6_method_16_code 9 = .ok (.istore_n 3, 1) := by decide +kernel
theorem d_Na_setDifference_10 : decode prog_6_method_16_code 10 = .ok (.iconst 0, 1) := by decide +kernel
theorem d_Na_setDifference_11 : decode prog_6_method_16_code 11 = .ok (.istore 4, 2) := by decide +kernel
theorem d_Na_setDifference_13 : decode prog_6_method_16_code 13 = .ok (.iload 4, 2) := by decide +kernel
theorem d_Na_setDifference_15 : decode prog_6_method_16_code 15 = .ok (.aload_n 1, 1) := by decide +kernel
theorem d_Na_setDifference_16 : decode prog_6_method_16_code 16 = .ok (.getfield 9, 3) := by decide +kernel
theorem d_Na_setDifference_19 : decode prog_6_method_16_code 19 = .ok (.if_icmp .ge 60, 3) := by decide +kernel
theorem d_Na_setDifference_22 : decode prog_6_method_16_code 22 = .ok (.aload_n 1, 1) := by decide +kernel
theorem d_Na_setDifference_23 : decode prog_6_method_16_code 23 = .ok (.getfield 21, 3) := by decide +kernel
theorem d_Na_setDifference_26 : decode prog_6_method_16_code 26 = .ok (.iload 4, 2) := by decide +kernel
theorem d_Na_setDifference_28 : decode prog_6_method_16_code 28 = .ok (.iaload, 1) := by decide +kernel
theorem d_Na_setDifference_29 : decode prog_6_method_16_code 29 = .ok (.i2l, 1) := by decide +kernel
theorem d_Na_setDifference_30 : decode prog_6_method_16_code 30 = .ok (.aload_n 2, 1) := by decide +kernel
theorem d_Na_setDifference_31 : decode prog_6_method_16_code 31 = .ok (.iload 4, 2) := by decide +kernel
theorem d_Na_setDifference_33 : decode prog_6_method_16_code 33 = .ok (.invokevirtual 35, 3) := by decide +kernel
theorem d_Na_setDifference_36 : decode prog_6_method_16_code 36 = .ok (.i2l, 1) := by decide +kernel
theorem d_Na_setDifference_37 : decode prog_6_method_16_code 37 = .ok (.lsub, 1) := by decide +kernel
theorem d_Na_setDifference_38 : decode prog_6_method_16_code 38 = .ok (.iload_n 3, 1) := by decide +kernel
theorem d_Na_setDifference_39 : decode prog_6_method_16_code 39 = .ok (.i2l, 1) := by decide +kernel
theorem d_Na_setDifference_40 : decode prog_6_method_16_code 40 = .ok (.lsub, 1) := by decide +kernel
theorem d_Na_setDifference_41 : decode prog_6_method_16_code 41 = .ok (.lstore 5, 2) := by decide +kernel
theorem d_Na_setDifference_43 : decode prog_6_method_16_code 43 = .ok (.lload 5, 2) := by decide +kernel
theorem d_Na_setDifference_45 : decode prog_6_method_16_code 45 = .ok (.lconst 0, 1) := by decide +kernel
theorem d_Na_setDifference_46 : decode prog_6_method_16_code 46 = .ok (.lcmp, 1) := by decide +kernel
theorem d_Na_setDifference_47 : decode prog_6_method_16_code 47 = .ok (.ifCond .ge 7, 3) := by decide +kernel
theorem d_Na_setDifference_50 : decode prog_6_method_16_code 50 = .ok (.iconst 1, 1) := by decide +kernel
theorem d_Na_setDifference_51 : decode prog_6_method_16_code 51 = .ok (.goto 4, 3) := by decide +kernel
theorem d_Na_setDifference_54 : decode prog_6_method_16_code 54 = .ok (.iconst 0, 1) := by decide +kernel
theorem d_Na_setDifference_55 : decode prog_6_method_16_code 55 = .ok (.istore_n 3, 1) := by decide +kernel
theorem d_Na_setDifference_56 : decode prog_6_method_16_code 56 = .ok (.aload_n 0, 1) := by decide +kernel
theorem d_Na_setDifference_57 : decode prog_6_method_16_code 57 = .ok (.getfield 21, 3) := by decide +kernel
theorem d_Na_setDifference_60 : decode prog_6_method_16_code 60 = .ok (.iload 4, 2) := by decide +kernel
theorem d_Na_setDifference_62 : decode prog_6_method_16_code 62 = .ok (.lload 5, 2) := by decide +kernel
theorem d_Na_setDifference_64 : decode prog_6_method_16_code 64 = .ok (.iload_n 3, 1) := by decide +kernel
theorem d_Na_setDifference_65 : decode prog_6_method_16_code 65 = .ok (.i2l, 1) := by decide +kernel
theorem d_Na_setDifference_66 : decode prog_6_method_16_code 66 = .ok (.ldc2_w 39, 3) := by decide +kernel
theorem d_Na_setDifference_69 : decode prog_6_method_16_code 69 = .ok (.lmul, 1) := by decide +kernel
theorem d_Na_setDifference_70 : decode prog_6_method_16_code 70 = .ok (.ladd, 1) := by decide +kernel
theorem d_Na_setDifference_71 : decode prog_6_method_16_code 71 = .ok (.l2i, 1) := by decide +kernel
theorem d_Na_setDifference_72 : decode prog_6_method_16_code 72 = .ok (.iastore, 1) := by decide +kernel
theorem d_Na_setDifference_73 : decode prog_6_method_16_code 73 = .ok (.iinc 4 1, 3) := by decide +kernel
theorem d_Na_setDifference_76 : decode prog_6_method_16_code 76 = .ok (.goto (-63), 3) := by decide +kernel
theorem d_Na_setDifference_79 : decode prog_6_method_16_code 79 = .ok (.aload_n 0, 1) := by decide +kernel
theorem d_Na_setDifference_80 : decode prog_6_method_16_code 80 = .ok (.aload_n 1, 1) := by decide +kernel
theorem d_Na_setDifference_81 : decode prog_6_method_16_code 81 = .ok (.getfield 9, 3) := by decide +kernel
theorem d_Na_setDifference_84 : decode prog_6_method_16_code 84 = .ok (.putfield 9, 3) := by decide +kernel
theorem d_Na_setDifference_87 : decode prog_6_method_16_code 87 = .ok (.aload_n 0, 1) := by decide +kernel
theorem d_Na_setDifference_88 : decode prog_6_method_16_code 88 = .ok (.invokevirtual 57, 3) := by decide +kernel
theorem d_Na_setDifference_91 : decode prog_6_method_16_code 91 = .ok (.return_, 1) := by decide +kernel
theorem d_Na_setProduct_0 : decode prog_6_method_17_code 0 = .ok (.aload_n 0, 1) := by decide +kernel
theorem d_Na_setProduct_1 : decode prog_6_method_17_code 1 = .ok (.iconst 0, 1) := by decide +kernel
theorem d_Na_setProduct_2 : decode prog_6_method_17_code 2 = .ok (.putfield 9, 3) := by decide +kernel
theorem d_Na_setProduct_5 : decode prog_6_method_17_code 5 = .ok (.aload_n 0, 1) := by decide +kernel
theorem d_Na_setProduct_6 : decode prog_6_method_17_code 6 = .ok (.aload_n 1, 1) := by decide +kernel
theorem d_Na_setProduct_7 : decode prog_6_method_17_code 7 = .ok (.getfield 9, 3) := by decide +kernel
theorem d_Na_setProduct_10 : decode prog_6_method_17_code 10 = .ok (.aload_n 2, 1) := by decide +kernel
theorem d_Na_setProduct_11 : decode prog_6_method_17_code 11 = .ok (.getfield 9, 3) := by decide +kernel
theorem d_Na_setProduct_14 : decode prog_6_method_17_code 14 = .ok (.iadd, 1) := by decide +kernel
theorem d_Na_setProduct_15 : decode prog_6_method_17_code 15 = .ok (.invokevirtual 60, 3) := by decide +kernel
theorem d_Na_setProduct_18 : decode prog_6_method_17_code 18 = .ok (.iconst 0, 1) := by decide +kernel
theorem d_Na_setProduct_19 : decode prog_6_method_17_code 19 = .ok (.istore_n 3, 1) := by decide +kernel
theorem d_Na_setProduct_20 : decode prog_6_method_17_code 20 = .ok (.iload_n 3, 1) := by decide +kernel
theorem d_Na_setProduct_21 : decode prog_6_method_17_code 21 = .ok (.aload_n 1, 1) := by decide +kernel
theorem d_Na_setProduct_22 : decode prog_6_method_17_code 22 = .ok (.getfield 9, 3) := by decide +kernel
theorem d_Na_setProduct_25 : decode prog_6_method_17_code 25 = .ok (.if_icmp .ge 107, 3) := by decide +kernel
theorem d_Na_setProduct_28 : decode prog_6_method_17_code 28 = .ok (.aload_n 1, 1) := by decide +kernel
theorem d_Na_setProduct_29 : decode prog_6_method_17_code 29 = .ok (.getfield 21, 3) := by decide +kernel
theorem d_Na_setProduct_32 : decode prog_6_method_17_code 32 = .ok (.iload_n 3, 1) := by decide +kernel
theorem d_Na_setProduct_33 : decode prog_6_method_17_code 33 = .ok (.iaload, 1) := by decide +kernel
theorem d_Na_setProduct_34 : decode prog_6_method_17_code 34 = .ok (.i2l, 1) := by decide +kernel
theorem d_Na_setProduct_35 : decode prog_6_method_17_code 35 = .ok (.lstore 4, 2) := by decide +kernel
theorem d_Na_setProduct_37 : decode prog_6_method_17_code 37 = .ok (.lconst 0, 1) := by decide +kernel
theorem d_Na_setProduct_38 : decode prog_6_method_17_code 38 = .ok (.lstore 6, 2) := by decide +kernel
theorem d_Na_setProduct_40 : decode prog_6_method_17_code 40 = .ok (.iconst 0, 1) := by decide +kernel
theorem d_Na_setProduct_41 : decode prog_6_method_17_code 41 = .ok (.istore 8, 2) := by decide +kernel
theorem d_Na_setProduct_43 : decode prog_6_method_17_code 43 = .ok (.iload 8, 2) := by decide +kernel
theorem d_Na_setProduct_45 : decode prog_6_method_17_code 45 = .ok (.aload_n 2, 1) := by decide +kernel
theorem d_Na_setProduct_46 : decode prog_6_method_17_code 46 = .ok (.getfield 9, 3) := by decide +kernel
theorem d_Na_setProduct_49 : decode prog_6_method_17_code 49 = .ok (.if_icmp .ge 63, 3) := by decide +kernel
theorem d_Na_setProduct_52 : decode prog_6_method_17_code 52 = .ok (.lload 4, 2) := by decide +kernel
theorem d_Na_setProduct_54 : decode prog_6_method_17_code 54 = .ok (.aload_n 2, 1) := by decide +kernel
theorem d_Na_setProduct_55 : decode prog_6_method_17_code 55 = .ok (.getfield 21, 3) := by decide +kernel
theorem d_Na_setProduct_58 : decode prog_6_method_17_code 58 = .ok (.iload 8, 2) := by decide +kernel
theorem d_Na_setProduct_60 : decode prog_6_method_17_code 60 = .ok (.iaload, 1) := by decide +kernel
theorem d_Na_setProduct_61 : decode prog_6_method_17_code 61 = .ok (.i2l, 1) := by decide +kernel
theorem d_Na_setProduct_62 : decode prog_6_method_17_code 62 = .ok (.lmul, 1) := by decide +kernel
theorem d_Na_setProduct_63 : decode prog_6_method_17_code 63 = .ok (.aload_n 0, 1) := by decide +kernel
theorem d_Na_setProduct_64 : decode prog_6_method_17_code 64 = .ok (.getfield 21, 3) := by decide +kernel
theorem d_Na_setProduct_67 : decode prog_6_method_17_code 67 = .ok (.iload_n 3, 1) := by decide +kernel
theorem d_Na_setProduct_68 : decode prog_6_method_17_code 68 = .ok (.iload 8, 2) := by decide +kernel
theorem d_Na_setProduct_70 : decode prog_6_method_17_code 70 = .ok (.iadd, 1) := by decide +kernel
theorem d_Na_setProduct_71 : decode prog_6_method_17_code 71 = .ok (.iaload, 1) := by decide +kernel
theorem d_Na_setProduct_72 : decode prog_6_method_17_code 72 = .ok (.i2l, 1) := by decide +kernel
theorem d_Na_setProduct_73 : decode prog_6_method_17_code 73 = .ok (.ladd, 1) := by decide +kernel
theorem d_Na_setProduct_74 : decode prog_6_method_17_code 74 = .ok (.lload 6, 2) := by decide +kernel
theorem d_Na_setProduct_76 : decode prog_6_method_17_code 76 = .ok (.ladd, 1) := by decide +kernel
theorem d_Na_setProduct_77 : decode prog_6_method_17_code 77 = .ok (.lstore 9, 2) := by decide +kernel
theorem d_Na_setProduct_79 : decode prog_6_method_17_code 79 = .ok (.lload 9, 2) := by decide +kernel
theorem d_Na_setProduct_81 : decode prog_6_method_17_code 81 = .ok (.ldc2_w 39, 3) := by decide +kernel
theorem d_Na_setProduct_84 : decode prog_6_method_17_code 84 = .ok (.ldiv, 1) := by decide +kernel
theorem d_Na_setProduct_85 : decode prog_6_method_17_code 85 = .ok (.lstore 6, 2) := by decide +kernel
theorem d_Na_setProduct_87 : decode prog_6_method_17_code 87 = .ok (.aload_n 0, 1) := by decide +kernel
theorem d_Na_setProduct_88 : decode prog_6_method_17_code 88 = .ok (.getfield 21, 3) := by decide +kernel
theorem d_Na_setProduct_91 : decode prog_6_method_17_code 91 = .ok (.iload_n 3, 1) := by decide +kernel
theorem d_Na_setProduct_92 : decode prog_6_method_17_code 92 = .ok (.iload 8, 2) := by decide +kernel
theorem d_Na_setProduct_94 : decode prog_6_method_17_code 94 = .ok (.iadd, 1) := by decide +kernel
theorem d_Na_setProduct_95 : decode prog_6_method_17_code 95 = .ok (.lload 9, 2) := by decide +kernel
theorem d_Na_setProduct_97 : decode prog_6_method_17_code 97 = .ok (.lload 6, 2) := by decide +kernel
theorem d_Na_setProduct_99 : decode prog_6_method_17_code 99 = .ok (.ldc2_w 39, 3) := by decide +kernel
theorem d_Na_setProduct_102 : decode prog_6_method_17_code 102 = .ok (.lmul, 1) := by decide +kernel
theorem d_Na_setProduct_103 : decode prog_6_method_17_code 103 = .ok (.lsub, 1) := by decide +kernel
theorem d_Na_setProduct_104 : decode prog_6_method_17_code 104 = .ok (.l2i, 1) := by decide +kernel
theorem d_Na_setProduct_105 : decode prog_6_method_17_code 105 = .ok (.iastore, 1) := by decide +kernel
theorem d_Na_setProduct_106 : decode prog_6_method_17_code 106 = .ok (.iinc 8 1, 3) := by decide +kernel
theorem d_Na_setProduct_109 : decode prog_6_method_17_code 109 = .ok (.goto (-66), 3) := by decide +kernel
theorem d_Na_setProduct_112 : decode prog_6_method_17_code 112 = .ok (.aload_n 0, 1) := by decide +kernel
theorem d_Na_setProduct_113 : decode prog_6_method_17_code 113 = .ok (.getfield 21, 3) := by decide +kernel
theorem d_Na_setProduct_116 : decode prog_6_method_17_code 116 = .ok (.iload_n 3, 1) := by decide +kernel
theorem d_Na_setProduct_117 : decode prog_6_method_17_code 117 = .ok (.aload_n 2, 1) := by decide +kernel
theorem d_Na_setProduct_118 : decode prog_6_method_17_code 118 = .ok (.getfield 9, 3) := by decide +kernel
theorem d_Na_setProduct_121 : decode prog_6_method_17_code 121 = .ok (.iadd, 1) := by decide +kernel
theorem d_Na_setProduct_122 : decode prog_6_method_17_code 122 = .ok (.lload 6, 2) := by decide +kernel
theorem d_Na_setProduct_124 : decode prog_6_method_17_code 124 = .ok (.l2i, 1) := by decide +kernel
theorem d_Na_setProduct_125 : decode prog_6_method_17_code 125 = .ok (.iastore, 1) := by decide +kernel
theorem d_Na_setProduct_126 : decode prog_6_method_17_code 126 = .ok (.iinc 3 1, 3) := by decide +kernel
theorem d_Na_setProduct_129 : decode prog_6_method_17_code 129 = .ok (.goto (-109), 3) := by decide +kernel
theorem d_Na_setProduct_132 : decode prog_6_method_17_code 132 = .ok (.aload_n 0, 1) := by decide +kernel
theorem d_Na_setProduct_133 : decode prog_6_method_17_code 133 = .ok (.invokevirtual 57, 3) := by decide +kernel
theorem d_Na_setProduct_136 : decode prog_6_method_17_code 136 = .ok (.return_, 1) := by decide +kernel
theorem d_Na_setScaled_0 : decode prog_6_method_18_code 0 = .ok (.aload_n 0, 1) := by decide +kernel
theorem d_Na_setScaled_1 : decode prog_6_method_18_code 1 = .ok (.aload_n 1, 1) := by decide +kernel
theorem d_Na_setScaled_2 : decode prog_6_method_18_code 2 = .ok (.getfield 9, 3) := by decide +kernel
theorem d_Na_setScaled_5 : decode prog_6_method_18_code 5 = .ok (.iconst 1, 1) := by decide +kernel
theorem d_Na_setScaled_6 : decode prog_6_method_18_code 6 = .ok (.iadd, 1) := by decide +kernel
theorem d_Na_setScaled_7 : decode prog_6_method_18_code 7 = .ok (.invokevirtual 31, 3) := by decide +kernel
theorem d_Na_setScaled_10 : decode prog_6_method_18_code 10 = .ok (.lconst 0, 1) := by decide +kernel
theorem d_Na_setScaled_11 : decode prog_6_method_18_code 11 = .ok (.lstore_n 3, 1) := by decide +kernel
theorem d_Na_setScaled_12 : decode prog_6_method_18_code 12 = .ok (.iconst 0, 1) := by decide +kernel
theorem d_Na_setScaled_13 : decode prog_6_method_18_code 13 = .ok (.istore 5, 2) := by decide +kernel
theorem d_Na_setScaled_15 : decode prog_6_method_18_code 15 = .ok (.iload 5, 2) := by decide +kernel
theorem d_Na_setScaled_17 : decode prog_6_method_18_code 17 = .ok (.aload_n 1, 1) := by decide +kernel
theorem d_Na_setScaled_18 : decode prog_6_method_18_code 18 = .ok (.getfield 9, 3) := by decide +kernel
theorem d_Na_setScaled_21 : decode prog_6_method_18_code 21 = .ok (.if_icmp .ge 47, 3) := by decide +kernel
theorem d_Na_setScaled_24 : decode prog_6_method_18_code 24 = .ok (.aload_n 1, 1) := by decide +kernel
theorem d_Na_setScaled_25 : decode prog_6_method_18_code 25 = .ok (.getfield 21, 3) := by decide +kernel
theorem d_Na_setScaled_28 : decode prog_6_method_18_code 28 = .ok (.iload 5, 2) := by decide +kernel
theorem d_Na_setScaled_30 : decode prog_6_method_18_code 30 = .ok (.iaload, 1) := by decide +kernel
theorem d_Na_setScaled_31 : decode prog_6_method_18_code 31 = .ok (.i2l, 1) := by decide +kernel
theorem d_Na_setScaled_32 : decode prog_6_method_18_code 32 = .ok (.iload_n 2, 1) := by decide +kernel
theorem d_Na_setScaled_33 : decode prog_6_method_18_code 33 = .ok (.i2l, 1) := by decide +kernel
theorem d_Na_setScaled_34 : decode prog_6_method_18_code 34 = .ok (.lmul, 1) := by decide +kernel
theorem d_Na_setScaled_35 : decode prog_6_method_18_code 35 = .ok (.lload_n 3, 1) := by decide +kernel
theorem d_Na_setScaled_36 : decode prog_6_method_18_code 36 = .ok (.ladd, 1) := by decide +kernel
theorem d_Na_setScaled_37 : decode prog_6_method_18_code 37 = .ok (.lstore 6, 2) := by decide +kernel
theorem d_Na_setScaled_39 : decode prog_6_method_18_code 39 = .ok (.lload 6, 2) := by decide +kernel
theorem d_Na_setScaled_41 : decode prog_6_method_18_code 41 = .ok (.ldc2_w 39, 3) := by decide +kernel
theorem d_Na_setScaled_44 : decode prog_6_method_18_code 44 = .ok (.ldiv, 1) := by decide +kernel
theorem d_Na_setScaled_45 : decode prog_6_method_18_code 45 = .ok (.lstore_n 3, 1) := by decide +kernel
theorem d_Na_setScaled_46 : decode prog_6_method_18_code 46 = .ok (.aload_n 0, 1) := by decide +kernel
theorem d_Na_setScaled_47 : decode prog_6_method_18_code 47 = .ok (.getfield 21, 3) := by decide +kernel
theorem d_Na_setScaled_50 : decode prog_6_method_18_code 50 = .ok (.iload 5, 2) := by decide +kernel
theorem d_Na_setScaled_52 : decode prog_6_method_18_code 52 = .ok (.lload 6, 2) := by decide +kernel
theorem d_Na_setScaled_54 : decode prog_6_method_18_code 54 = .ok (.lload_n 3, 1) := by decide +kernel
theorem d_Na_setScaled_55 : decode prog_6_method_18_code 55 = .ok (.ldc2_w 39, 3) := by decide +kernel
theorem d_Na_setScaled_58 : decode prog_6_method_18_code 58 = .ok (.lmul, 1) := by decide +kernel
theorem d_Na_setScaled_59 : decode prog_6_method_18_code 59 = .ok (.lsub, 1) := by decide +kernel
theorem d_Na_setScaled_60 : decode prog_6_method_18_code 60 = .ok (.l2i, 1) := by decide +kernel
theorem d_Na_setScaled_61 : decode prog_6_method_18_code 61 = .ok (.iastore, 1) := by decide +kernel
theorem d_Na_setScaled_62 : decode prog_6_method_18_code 62 = .ok (.iinc 5 1, 3) := by decide +kernel
theorem d_Na_setScaled_65 : decode prog_6_method_18_code 65 = .ok (.goto (-50), 3) := by decide +kernel
theorem d_Na_setScaled_68 : decode prog_6_method_18_code 68 = .ok (.aload_n 0, 1) := by decide +kernel
theorem d_Na_setScaled_69 : decode prog_6_method_18_code 69 = .ok (.getfield 21, 3) := by decide +kernel
theorem d_Na_setScaled_72 : decode prog_6_method_18_code 72 = .ok (.aload_n 1, 1) := by decide +kernel
theorem d_Na_setScaled_73 : decode prog_6_method_18_code 73 = .ok (.getfield 9, 3) := by decide +kernel
theorem d_Na_setScaled_76 : decode prog_6_method_18_code 76 = .ok (.lload_n 3, 1) := by decide +kernel
theorem d_Na_setScaled_77 : decode prog_6_method_18_code 77 = .ok (.l2i, 1) := by decide +kernel
theorem d_Na_setScaled_78 : decode prog_6_method_18_code 78 = .ok (.iastore, 1) := by decide +kernel
theorem d_Na_setScaled_79 : decode prog_6_method_18_code 79 = .ok (.aload_n 0, 1) := by decide +kernel
theorem d_Na_setScaled_80 : decode prog_6_method_18_code 80 = .ok (.aload_n 1, 1) := by decide +kernel
theorem d_Na_setScaled_81 : decode prog_6_method_18_code 81 = .ok (.getfield 9, 3) := by decide +kernel
theorem d_Na_setScaled_84 : decode prog_6_method_18_code 84 = .ok (.iconst 1, 1) := by decide +kernel
theorem d_Na_setScaled_85 : decode prog_6_method_18_code 85 = .ok (.iadd, 1) := by decide +kernel
theorem d_Na_setScaled_86 : decode prog_6_method_18_code 86 = .ok (.putfield 9, 3) := by decide +kernel
theorem d_Na_setScaled_89 : decode prog_6_method_18_code 89 = .ok (.aload_n 0, 1) := by decide +kernel
theorem d_Na_setScaled_90 : decode prog_6_method_18_code 90 = .ok (.invokevirtual 57, 3) := by decide +kernel
theorem d_Na_setScaled_93 : decode prog_6_method_18_code 93 = .ok (.return_, 1) := by decide +kernel
theorem d_Na_increase_0 : decode prog_6_method_19_code 0 = .ok (.aload_n 0, 1) := by decide +kernel
theorem d_Na_increase_1 : decode prog_6_method_19_code 1 = .ok (.aload_n 0, 1) := by decide +kernel
theorem d_Na_increase_2 : decode prog_6_method_19_code 2 = .ok (.getfield 9, 3) := by decide +kernel
theorem d_Na_increase_5 : decode prog_6_method_19_code 5 = .ok (.iconst 1, 1) := by decide +kernel
theorem d_Na_increase_6 : decode prog_6_method_19_code 6 = .ok (.iadd, 1) := by decide +kernel
theorem d_Na_increase_7 : decode prog_6_method_19_code 7 = .ok (.invokevirtual 60, 3) := by decide +kernel
theorem d_Na_increase_10 : decode prog_6_method_19_code 10 = .ok (.iconst 1, 1) := by decide +kernel
theorem d_Na_increase_11 : decode prog_6_method_19_code 11 = .ok (.istore_n 1, 1) := by decide +kernel
theorem d_Na_increase_12 : decode prog_6_method_19_code 12 = .ok (.iconst 0, 1) := by decide +kernel
theorem d_Na_increase_13 : decode prog_6_method_19_code 13 = .ok (.istore_n 2, 1) := by decide +kernel
theorem d_Na_increase_14 : decode prog_6_method_19_code 14 = .ok (.iload_n 2, 1) := by decide +kernel
theorem d_Na_increase_15 : decode prog_6_method_19_code 15 = .ok (.aload_n 0, 1) := by decide +kernel
theorem d_Na_increase_16 : decode prog_6_method_19_code 16 = .ok (.getfield 9, 3) := by decide +kernel
theorem d_Na_increase_19 : decode prog_6_method_19_code 19 = .ok (.if_icmp .ge 57, 3) := by decide +kernel
theorem d_Na_increase_22 : decode prog_6_method_19_code 22 = .ok (.iload_n 1, 1) := by decide +kernel
theorem d_Na_increase_23 : decode prog_6_method_19_code 23 = .ok (.ifCond .le 53, 3) := by decide +kernel
theorem d_Na_increase_26 : decode prog_6_method_19_code 26 = .ok (.aload_n 0, 1) := by decide +kernel
theorem d_Na_increase_27 : decode prog_6_method_19_code 27 = .ok (.getfield 21, 3) := by decide +kernel
theorem d_Na_increase_30 : decode prog_6_method_19_code 30 = .ok (.iload_n 2, 1) := by decide +kernel
theorem d_Na_increase_31 : decode prog_6_method_19_code 31 = .ok (.iaload, 1) := by decide +kernel
theorem d_Na_increase_32 : decode prog_6_method_19_code 32 = .ok (.iconst 1, 1) := by decide +kernel
theorem d_Na_increase_33 : decode prog_6_method_19_code 33 = .ok (.iadd, 1) := by decide +kernel
theorem d_Na_increase_34 : decode prog_6_method_19_code 34 = .ok (.i2l, 1) := by decide +kernel
theorem d_Na_increase_35 : decode prog_6_method_19_code 35 = .ok (.ldc2_w 39, 3) := by decide +kernel
theorem d_Na_increase_38 : decode prog_6_method_19_code 38 = .ok (.lcmp, 1) := by decide +kernel
theorem d_Na_increase_39 : decode prog_6_method_19_code 39 = .ok (.ifCond .ne 7, 3) := by decide +kernel
theorem d_Na_increase_42 : decode prog_6_method_19_code 42 = .ok (.iconst 1, 1) := by decide +kernel
theorem d_Na_increase_43 : decode prog_6_method_19_code 43 = .ok (.goto 4, 3) := by decide +kernel
theorem d_Na_increase_46 : decode prog_6_method_19_code 46 = .ok (.iconst 0, 1) := by decide +kernel
theorem d_Na_increase_47 : decode prog_6_method_19_code 47 = .ok (.istore_n 1, 1) := by decide +kernel
theorem d_Na_increase_48 : decode prog_6_method_19_code 48 = .ok (.aload_n 0, 1) := by decide +kernel
theorem d_Na_increase_49 : decode prog_6_method_19_code 49 = .ok (.getfield 21, 3) := by decide +kernel
theorem d_Na_increase_52 : decode prog_6_method_19_code 52 = .ok (.iload_n 2, 1) := by decide +kernel
theorem d_Na_increase_53 : decode prog_6_method_19_code 53 = .ok (.iload_n 1, 1) := by decide +kernel
theorem d_Na_increase_54 : decode prog_6_method_19_code 54 = .ok (.ifCond .le 7, 3) := by decide +kernel
theorem d_Na_increase_57 : decode prog_6_method_19_code 57 = .ok (.iconst 0, 1) := by decide +kernel
theorem d_Na_increase_58 : decode prog_6_method_19_code 58 = .ok (.goto 11, 3) := by decide +kernel
theorem d_Na_increase_61 : decode prog_6_method_19_code 61 = .ok (.aload_n 0, 1) := by decide +kernel
theorem d_Na_increase_62 : decode prog_6_method_19_code 62 = .ok (.getfield 21, 3) := by decide +kernel
theorem d_Na_increase_65 : decode prog_6_method_19_code 65 = .ok (.iload_n 2, 1) := by decide +kernel
theorem d_Na_increase_66 : decode prog_6_method_19_code 66 = .ok (.iaload, 1) := by decide +kernel
theorem d_Na_increase_67 : decode prog_6_method_19_code 67 = .ok (.iconst 1, 1) := by decide +kernel
theorem d_Na_increase_68 : decode prog_6_method_19_code 68 = .ok (.iadd, 1) := by decide +kernel
theorem d_Na_increase_69 : decode prog_6_method_19_code 69 = .ok (.iastore, 1) := by decide +kernel
theorem d_Na_increase_70 : decode prog_6_method_19_code 70 = .ok (.iinc 2 1, 3) := by decide +kernel
theorem d_Na_increase_73 : decode prog_6_method_19_code 73 = .ok (.goto (-59), 3) := by decide +kernel
theorem d_Na_increase_76 : decode prog_6_method_19_code 76 = .ok (.aload_n 0, 1) := by decide +kernel
theorem d_Na_increase_77 : decode prog_6_method_19_code 77 = .ok (.invokevirtual 57, 3) := by decide +kernel
theorem d_Na_increase_80 : decode prog_6_method_19_code 80 = .ok (.return_, 1) := by decide +kernel
theorem d_Na_reduce_0 : decode prog_6_method_20_code 0 = .ok (.iload_n 1, 1) := by decide +kernel
theorem d_Na_reduce_1 : decode prog_6_method_20_code 1 = .ok (.ifCond .gt 5, 3) := by decide +kernel
theorem d_Na_reduce_4 : decode prog_6_method_20_code 4 = .ok (.lconst 0, 1) := by decide +kernel
theorem d_Na_reduce_5 : decode prog_6_method_20_code 5 = .ok (.lreturn, 1) := by decide +kernel
theorem d_Na_reduce_6 : decode prog_6_method_20_code 6 = .ok (.lconst 0, 1) := by decide +kernel
theorem d_Na_reduce_7 : decode prog_6_method_20_code 7 = .ok (.lstore_n 2, 1) := by decide +kernel
theorem d_Na_reduce_8 : decode prog_6_method_20_code 8 = .ok (.aload_n 0, 1) := by decide +kernel
theorem d_Na_reduce_9 : decode prog_6_method_20_code 9 = .ok (.getfield 9, 3) := by decide +kernel
theorem d_Na_reduce_12 : decode prog_6_method_20_code 12 = .ok (.iconst 1, 1) := by decide +kernel
theorem d_Na_reduce_13 : decode prog_6_method_20_code 13 = .ok (.isub, 1) := by decide +kernel
theorem d_Na_reduce_14 : decode prog_6_method_20_code 14 = .ok (.istore 4, 2) := by decide +kernel
theorem d_Na_reduce_16 : decode prog_6_method_20_code 16 = .ok (.iload 4, 2) := by decide +kernel
theorem d_Na_reduce_18 : decode prog_6_method_20_code 18 = .ok (.ifCond .lt 44, 3) := by decide +kernel
theorem d_Na_reduce_21 : decode prog_6_method_20_code 21 = .ok (.lload_n 2, 1) := by decide +kernel
theorem d_Na_reduce_22 : decode prog_6_method_20_code 22 = .ok (.ldc2_w 39, 3) := by decide +kernel
theorem d_Na_reduce_25 : decode prog_6_method_20_code 25 = .ok (.lmul, 1) := by decide +kernel
theorem d_Na_reduce_26 : decode prog_6_method_20_code 26 = .ok (.aload_n 0, 1) := by decide +kernel
theorem d_Na_reduce_27 : decode prog_6_method_20_code 27 = .ok (.getfield 21, 3) := by decide +kernel
theorem d_Na_reduce_30 : decode prog_6_method_20_code 30 = .ok (.iload 4, 2) := by decide +kernel
theorem d_Na_reduce_32 : decode prog_6_method_20_code 32 = .ok (.iaload, 1) := by decide +kernel
theorem d_Na_reduce_33 : decode prog_6_method_20_code 33 = .ok (.i2l, 1) := by decide +kernel
theorem d_Na_reduce_34 : decode prog_6_method_20_code 34 = .ok (.ladd, 1) := by decide +kernel
theorem d_Na_reduce_35 : decode prog_6_method_20_code 35 = .ok (.lstore 5, 2) := by decide +kernel
theorem d_Na_reduce_37 : decode prog_6_method_20_code 37 = .ok (.aload_n 0, 1) := by decide +kernel
theorem d_Na_reduce_38 : decode prog_6_method_20_code 38 = .ok (.getfield 21, 3) := by decide +kernel
theorem d_Na_reduce_41 : decode prog_6_method_20_code 41 = .ok (.iload 4, 2) := by decide +kernel
theorem d_Na_reduce_43 : decode prog_6_method_20_code 43 = .ok (.lload 5, 2) := by decide +kernel
theorem d_Na_reduce_45 : decode prog_6_method_20_code 45 = .ok (.iload_n 1, 1) := by decide +kernel
theorem d_Na_reduce_46 : decode prog_6_method_20_code 46 = .ok (.i2l, 1) := by decide +kernel
theorem d_Na_reduce_47 : decode prog_6_method_20_code 47 = .ok (.ldiv, 1) := by decide +kernel
theorem d_Na_reduce_48 : decode prog_6_method_20_code 48 = .ok (.l2i, 1) := by decide +kernel
theorem d_Na_reduce_49 : decode prog_6_method_20_code 49 = .ok (.iastore, 1) := by decide +kernel
theorem d_Na_reduce_50 : decode prog_6_method_20_code 50 = .ok (.lload 5, 2) := by decide +kernel
theorem d_Na_reduce_52 : decode prog_6_method_20_code 52 = .ok (.iload_n 1, 1) := by decide +kernel
theorem d_Na_reduce_53 : decode prog_6_method_20_code 53 = .ok (.i2l, 1) := by decide +kernel
theorem d_Na_reduce_54 : decode prog_6_method_20_code 54 = .ok (.lrem, 1) := by decide +kernel
theorem d_Na_reduce_55 : decode prog_6_method_20_code 55 = .ok (.lstore_n 2, 1) := by decide +kernel
theorem d_Na_reduce_56 : decode prog_6_method_20_code 56 = .ok (.iinc 4 (-1), 3) := by decide +kernel
theorem d_Na_reduce_59 : decode prog_6_method_20_code 59 = .ok (.goto (-43), 3) := by decide +kernel
theorem d_Na_reduce_62 : decode prog_6_method_20_code 62 = .ok (.aload_n 0, 1) := by decide +kernel
theorem d_Na_reduce_63 : decode prog_6_method_20_code 63 = .ok (.invokevirtual 57, 3) := by decide +kernel
theorem d_Na_reduce_66 : decode prog_6_method_20_code 66 = .ok (.lload_n 2, 1) := by decide +kernel
theorem d_Na_reduce_67 : decode prog_6_method_20_code 67 = .ok (.lreturn, 1) := by decide +kernel
theorem d_Math_max_0 : decode prog_17_method_65_code 0 = .ok (.iload_n 0, 1) := by decide +kernel
theorem d_Math_max_1 : decode prog_17_method_65_code 1 = .ok (.iload_n 1, 1) := by decide +kernel
theorem d_Math_max_2 : decode prog_17_method_65_code 2 = .ok (.if_icmp .lt 7, 3) := by decide +kernel
theorem d_Math_max_5 : decode prog_17_method_65_code 5 = .ok (.iload_n 0, 1) := by decide +kernel
theorem d_Math_max_6 : decode prog_17_method_65_code 6 = .ok (.goto 4, 3) := by decide +kernel
theorem d_Math_max_9 : decode prog_17_method_65_code 9 = .ok (.iload_n 1, 1) := by decide +kernel
theorem d_Math_max_10 : decode prog_17_method_65_code 10 = .ok (.ireturn, 1) := by decide +kernel
theorem d_Math_min_0 : decode prog_17_method_69_code 0 = .ok (.iload_n 0, 1) := by decide +kernel
theorem d_Math_min_1 : decode prog_17_method_69_code 1 = .ok (.iload_n 1, 1) := by decide +kernel
theorem d_Math_min_2 : decode prog_17_method_69_code 2 = .ok (.if_icmp .gt 7, 3) := by decide +kernel
theorem d_Math_min_5 : decode prog_17_method_69_code 5 = .ok (.iload_n 0, 1) := by decide +kernel
theorem d_Math_min_6 : decode prog_17_method_69_code 6 = .ok (.goto 4, 3) := by decide +kernel
theorem d_Math_min_9 : decode prog_17_method_69_code 9 = .ok (.iload_n 1, 1) := by decide +kernel
theorem d_Math_min_10 : decode prog_17_method_69_code 10 = .ok (.ireturn, 1) := by decide +kernel
theorem d_Math_abs_0 : decode prog_17_method_61_code 0 = .ok (.lload_n 0, 1) := by decide +kernel
theorem d_Math_abs_1 : decode prog_17_method_61_code 1 = .ok (.lconst 0, 1) := by decide +kernel
theorem d_Math_abs_2 : decode prog_17_method_61_code 2 = .ok (.lcmp, 1) := by decide +kernel
theorem d_Math_abs_3 : decode prog_17_method_61_code 3 = .ok (.ifCond .ge 8, 3) := by decide +kernel
theorem d_Math_abs_6 : decode prog_17_method_61_code 6 = .ok (.lload_n 0, 1) := by decide +kernel
theorem d_Math_abs_7 : decode prog_17_method_61_code 7 = .ok (.lneg, 1) := by decide +kernel
theorem d_Math_abs_8 : decode prog_17_method_61_code 8 = .ok (.goto 4, 3) := by decide +kernel
theorem d_Math_abs_11 : decode prog_17_method_61_code 11 = .ok (.lload_n 0, 1) := by decide +kernel
theorem d_Math_abs_12 : decode prog_17_method_61_code 12 = .ok (.lreturn, 1) := by decide +kernel
theorem d_Math_floorDiv_0 : decode prog_17_method_49_code 0 = .ok (.lload_n 0, 1) := by decide +kernel
theorem d_Math_floorDiv_1 : decode prog_17_method_49_code 1 = .ok (.lload_n 2, 1) := by decide +kernel
theorem d_Math_floorDiv_2 : decode prog_17_method_49_code 2 = .ok (.ldiv, 1) := by decide +kernel
theorem d_Math_floorDiv_3 : decode prog_17_method_49_code 3 = .ok (.lstore 4, 2) := by decide +kernel
theorem d_Math_floorDiv_5 : decode prog_17_method_49_code 5 = .ok (.lload_n 0, 1) := by decide +kernel
theorem d_Math_floorDiv_6 : decode prog_17_method_49_code 6 = .ok (.lload_n 2, 1) := by decide +kernel
theorem d_Math_floorDiv_7 : decode prog_17_method_49_code 7 = .ok (.lxor, 1) := by decide +kernel
theorem d_Math_floorDiv_8 : decode prog_17_method_49_code 8 = .ok (.lconst 0, 1) := by decide +kernel
theorem d_Math_floorDiv_9 : decode prog_17_method_49_code 9 = .ok (.lcmp, 1) := by decide +kernel
theorem d_Math_floorDiv_10 : decode prog_17_method_49_code 10 = .ok (.ifCond .ge 17, 3) := by decide +kernel
theorem d_Math_floorDiv_13 : decode prog_17_method_49_code 13 = .ok (.lload 4, 2) := by decide +kernel
theorem d_Math_floorDiv_15 : decode prog_17_method_49_code 15 = .ok (.lload_n 2, 1) := by decide +kernel
theorem d_Math_floorDiv_16 : decode prog_17_method_49_code 16 = .ok (.lmul, 1) := by decide +kernel
theorem d_Math_floorDiv_17 : decode prog_17_method_49_code 17 = .ok (.lload_n 0, 1) := by decide +kernel
theorem d_Math_floorDiv_18 : decode prog_17_method_49_code 18 = .ok (.lcmp, 1) := by decide +kernel
theorem d_Math_floorDiv_19 : decode prog_17_method_49_code 19 = .ok (.ifCond .eq 8, 3) := by decide +kernel
theorem d_Math_floorDiv_22 : decode prog_17_method_49_code 22 = .ok (.lload 4, 2) := by decide +kernel
theorem d_Math_floorDiv_24 : decode prog_17_method_49_code 24 = .ok (.lconst 1, 1) := by decide +kernel
theorem d_Math_floorDiv_25 : decode prog_17_method_49_code 25 = .ok (.lsub, 1) := by decide +kernel
theorem d_Math_floorDiv_26 : decode prog_17_method_49_code 26 = .ok (.lreturn, 1) := by decide +kernel
theorem d_Math_floorDiv_27 : decode prog_17_method_49_code 27 = .ok (.lload 4, 2) := by decide +kernel
theorem d_Math_floorDiv_29 : decode prog_17_method_49_code 29 = .ok (.lreturn, 1) := by decide +kernel
theorem d_Arr_copyOf_0 : decode prog_22_method_123_code 0 = .ok (.iload_n 1, 1) := by decide +kernel
theorem d_Arr_copyOf_1 : decode prog_22_method_123_code 1 = .ok (.aload_n 0, 1) := by decide +kernel
theorem d_Arr_copyOf_2 : decode prog_22_method_123_code 2 = .ok (.arraylength, 1) := by decide +kernel
theorem d_Arr_copyOf_3 : decode prog_22_method_123_code 3 = .ok (.if_icmp .ne 11, 3) := by decide +kernel
theorem d_Arr_copyOf_6 : decode prog_22_method_123_code 6 = .ok (.aload_n 0, 1) := by decide +kernel
theorem d_Arr_copyOf_7 : decode prog_22_method_123_code 7 = .ok (.invokevirtual 316, 3) := by decide +kernel
theorem d_Arr_copyOf_10 : decode prog_22_method_123_code 10 = .ok (.checkcast 317, 3) := by decide +kernel
theorem d_Arr_copyOf_13 : decode prog_22_method_123_code 13 = .ok (.areturn, 1) := by decide +kernel
theorem d_Arr_copyOf_14 : decode prog_22_method_123_code 14 = .ok (.iload_n 1, 1) := by decide +kernel
theorem d_Arr_copyOf_15 : decode prog_22_method_123_code 15 = .ok (.newarray .int, 2) := by decide +kernel
theorem d_Arr_copyOf_17 : decode prog_22_method_123_code 17 = .ok (.astore_n 2, 1) := by decide +kernel
theorem d_Arr_copyOf_18 : decode prog_22_method_123_code 18 = .ok (.aload_n 0, 1) := by decide +kernel
theorem d_Arr_copyOf_19 : decode prog_22_method_123_code 19 = .ok (.iconst 0, 1) := by decide +kernel
theorem d_Arr_copyOf_20 : decode prog_22_method_123_code 20 = .ok (.aload_n 2, 1) := by decide +kernel
theorem d_Arr_copyOf_21 : decode prog_22_method_123_code 21 = .ok (.iconst 0, 1) := by decide +kernel
theorem d_Arr_copyOf_22 : decode prog_22_method_123_code 22 = .ok (.aload_n 0, 1) := by decide +kernel
theorem d_Arr_copyOf_23 : decode prog_22_method_123_code 23 = .ok (.arraylength, 1) := by decide +kernel
theorem d_Arr_copyOf_24 : decode prog_22_method_123_code 24 = .ok (.iload_n 1, 1) := by decide +kernel
theorem d_Arr_copyOf_25 : decode prog_22_method_123_code 25 = .ok (.invokestatic 304, 3) := by decide +kernel
theorem d_Arr_copyOf_28 : decode prog_22_method_123_code 28 = .ok (.invokestatic 150, 3) := by decide +kernel
theorem d_Arr_copyOf_31 : decode prog_22_method_123_code 31 = .ok (.aload_n 2, 1) := by decide +kernel
theorem d_Arr_copyOf_32 : decode prog_22_method_123_code 32 = .ok (.areturn, 1) := by decide +kernel
