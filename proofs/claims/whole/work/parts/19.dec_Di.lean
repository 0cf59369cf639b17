theorem d_Di_init_0 : decode prog_4_method_1_code 0 = .ok (.aload_n 0, 1) := by decide +kernel
theorem d_Di_init_1 : decode prog_4_method_1_code 1 = .ok (.invokespecial 3, 3) := by decide +kernel
theorem d_Di_init_4 : decode prog_4_method_1_code 4 = .ok (.aload_n 0, 1) := by decide +kernel
theorem d_Di_init_5 : decode prog_4_method_1_code 5 = .ok (.new 9, 3) := by decide +kernel
theorem d_Di_init_8 : decode prog_4_method_1_code 8 = .ok (.dup, 1) := by decide +kernel
theorem d_Di_init_9 : decode prog_4_method_1_code 9 = .ok (.bipush 24, 2) := by decide +kernel
theorem d_Di_init_11 : decode prog_4_method_1_code 11 = .ok (.invokespecial 11, 3) := by decide +kernel
theorem d_Di_init_14 : decode prog_4_method_1_code 14 = .ok (.putfield 14, 3) := by decide +kernel
theorem d_Di_init_17 : decode prog_4_method_1_code 17 = .ok (.aload_n 0, 1) := by decide +kernel
theorem d_Di_init_18 : decode prog_4_method_1_code 18 = .ok (.new 9, 3) := by decide +kernel
theorem d_Di_init_21 : decode prog_4_method_1_code 21 = .ok (.dup, 1) := by decide +kernel
theorem d_Di_init_22 : decode prog_4_method_1_code 22 = .ok (.bipush 24, 2) := by decide +kernel
theorem d_Di_init_24 : decode prog_4_method_1_code 24 = .ok (.invokespecial 11, 3) := by decide +kernel
theorem d_Di_init_27 : decode prog_4_method_1_code 27 = .ok (.putfield 20, 3) := by decide +kernel
theorem d_Di_init_30 : decode prog_4_method_1_code 30 = .ok (.aload_n 0, 1) := by decide +kernel
theorem d_Di_init_31 : decode prog_4_method_1_code 31 = .ok (.new 9, 3) := by decide +kernel
theorem d_Di_init_34 : decode prog_4_method_1_code 34 = .ok (.dup, 1) := by decide +kernel
theorem d_Di_init_35 : decode prog_4_method_1_code 35 = .ok (.bipush 24, 2) := by decide +kernel
theorem d_Di_init_37 : decode prog_4_method_1_code 37 = .ok (.invokespecial 11, 3) := by decide +kernel
theorem d_Di_init_40 : decode prog_4_method_1_code 40 = .ok (.putfield 23, 3) := by decide +kernel
theorem d_Di_init_43 : decode prog_4_method_1_code 43 = .ok (.return_, 1) := by decide +kernel
theorem d_Di_divide_0 : decode prog_4_method_2_code 0 = .ok (.aload_n 2, 1) := by decide +kernel
theorem d_Di_divide_1 : decode prog_4_method_2_code 1 = .ok (.aload_n 2, 1) := by decide +kernel
theorem d_Di_divide_2 : decode prog_4_method_2_code 2 = .ok (.getfield 26, 3) := by decide +kernel
theorem d_Di_divide_5 : decode prog_4_method_2_code 5 = .ok (.iconst 1, 1) := by decide +kernel
theorem d_Di_divide_6 : decode prog_4_method_2_code 6 = .ok (.isub, 1) := by decide +kernel
theorem d_Di_divide_7 : decode prog_4_method_2_code 7 = .ok (.invokevirtual 30, 3) := by decide +kernel
theorem d_Di_divide_10 : decode prog_4_method_2_code 10 = .ok (.istore_n 3, 1) := by decide +kernel
theorem d_Di_divide_11 : decode prog_4_method_2_code 11 = .ok (.iload_n 3, 1) := by decide +kernel
theorem d_Di_divide_12 : decode prog_4_method_2_code 12 = .ok (.ifCond .eq 11, 3) := by decide +kernel
theorem d_Di_divide_15 : decode prog_4_method_2_code 15 = .ok (.aload_n 1, 1) := by decide +kernel
theorem d_Di_divide_16 : decode prog_4_method_2_code 16 = .ok (.aload_n 2, 1) := by decide +kernel
theorem d_Di_divide_17 : decode prog_4_method_2_code 17 = .ok (.invokevirtual 34, 3) := by decide +kernel
theorem d_Di_divide_20 : decode prog_4_method_2_code 20 = .ok (.ifCond .ge 22, 3) := by decide +kernel
theorem d_Di_divide_23 : decode prog_4_method_2_code 23 = .ok (.aload_n 0, 1) := by decide +kernel
theorem d_Di_divide_24 : decode prog_4_method_2_code 24 = .ok (.getfield 14, 3) := by decide +kernel
theorem d_Di_divide_27 : decode prog_4_method_2_code 27 = .ok (.iconst 0, 1) := by decide +kernel
theorem d_Di_divide_28 : decode prog_4_method_2_code 28 = .ok (.putfield 26, 3) := by decide +kernel
theorem d_Di_divide_31 : decode prog_4_method_2_code 31 = .ok (.aload_n 0, 1) := by decide +kernel
theorem d_Di_divide_32 : decode prog_4_method_2_code 32 = .ok (.getfield 20, 3) := by decide +kernel
theorem d_Di_divide_35 : decode prog_4_method_2_code 35 = .ok (.aload_n 1, 1) := by decide +kernel
theorem d_Di_divide_36 : decode prog_4_method_2_code 36 = .ok (.invokevirtual 38, 3) := by decide +kernel
theorem d_Di_divide_39 : decode prog_4_method_2_code 39 = .ok (.goto 91, 3) := by decide +kernel
theorem d_Di_divide_42 : decode prog_4_method_2_code 42 = .ok (.aload_n 2, 1) := by decide +kernel
theorem d_Di_divide_43 : decode prog_4_method_2_code 43 = .ok (.getfield 26, 3) := by decide +kernel
theorem d_Di_divide_46 : decode prog_4_method_2_code 46 = .ok (.iconst 1, 1) := by decide +kernel
theorem d_Di_divide_47 : decode prog_4_method_2_code 47 = .ok (.if_icmp .ne 29, 3) := by decide +kernel
theorem d_Di_divide_50 : decode prog_4_method_2_code 50 = .ok (.aload_n 0, 1) := by decide +kernel
theorem d_Di_divide_51 : decode prog_4_method_2_code 51 = .ok (.getfield 14, 3) := by decide +kernel
theorem d_Di_divide_54 : decode prog_4_method_2_code 54 = .ok (.aload_n 1, 1) := by decide +kernel
theorem d_Di_divide_55 : decode prog_4_method_2_code 55 = .ok (.invokevirtual 38, 3) := by decide +kernel
theorem d_Di_divide_58 : decode prog_4_method_2_code 58 = .ok (.aload_n 0, 1) := by decide +kernel
theorem d_Di_divide_59 : decode prog_4_method_2_code 59 = .ok (.getfield 20, 3) := by decide +kernel
theorem d_Di_divide_62 : decode prog_4_method_2_code 62 = .ok (.aload_n 0, 1) := by decide +kernel
theorem d_Di_divide_63 : decode prog_4_method_2_code 63 = .ok (.getfield 14, 3) := by decide +kernel
theorem d_Di_divide_66 : decode prog_4_method_2_code 66 = .ok (.iload_n 3, 1) := by decide +kernel
theorem d_Di_divide_67 : decode prog_4_method_2_code 67 = .ok (.invokevirtual 42, 3) := by decide +kernel
theorem d_Di_divide_70 : decode prog_4_method_2_code 70 = .ok (.invokevirtual 46, 3) := by decide +kernel
theorem d_Di_divide_73 : decode prog_4_method_2_code 73 = .ok (.goto 57, 3) := by decide +kernel
theorem d_Di_divide_76 : decode prog_4_method_2_code 76 = .ok (.ldc2_w 50, 3) := by decide +kernel
theorem d_Di_divide_79 : decode prog_4_method_2_code 79 = .ok (.iload_n 3, 1) := by decide +kernel
theorem d_Di_divide_80 : decode prog_4_method_2_code 80 = .ok (.i2l, 1) := by decide +kernel
theorem d_Di_divide_81 : decode prog_4_method_2_code 81 = .ok (.lconst 1, 1) := by decide +kernel
theorem d_Di_divide_82 : decode prog_4_method_2_code 82 = .ok (.ladd, 1) := by decide +kernel
theorem d_Di_divide_83 : decode prog_4_method_2_code 83 = .ok (.ldiv, 1) := by decide +kernel
theorem d_Di_divide_84 : decode prog_4_method_2_code 84 = .ok (.l2i, 1) := by decide +kernel
theorem d_Di_divide_85 : decode prog_4_method_2_code 85 = .ok (.istore 4, 2) := by decide +kernel
theorem d_Di_divide_87 : decode prog_4_method_2_code 87 = .ok (.aload_n 0, 1) := by decide +kernel
theorem d_Di_divide_88 : decode prog_4_method_2_code 88 = .ok (.getfield 20, 3) := by decide +kernel
theorem d_Di_divide_91 : decode prog_4_method_2_code 91 = .ok (.aload_n 1, 1) := by decide +kernel
theorem d_Di_divide_92 : decode prog_4_method_2_code 92 = .ok (.iload 4, 2) := by decide +kernel
theorem d_Di_divide_94 : decode prog_4_method_2_code 94 = .ok (.invokevirtual 52, 3) := by decide +kernel
theorem d_Di_divide_97 : decode prog_4_method_2_code 97 = .ok (.aload_n 0, 1) := by decide +kernel
theorem d_Di_divide_98 : decode prog_4_method_2_code 98 = .ok (.getfield 23, 3) := by decide +kernel
theorem d_Di_divide_101 : decode prog_4_method_2_code 101 = .ok (.aload_n 2, 1) := by decide +kernel
theorem d_Di_divide_102 : decode prog_4_method_2_code 102 = .ok (.iload 4, 2) := by decide +kernel
theorem d_Di_divide_104 : decode prog_4_method_2_code 104 = .ok (.invokevirtual 52, 3) := by decide +kernel
theorem d_Di_divide_107 : decode prog_4_method_2_code 107 = .ok (.aload_n 0, 1) := by decide +kernel
theorem d_Di_divide_108 : decode prog_4_method_2_code 108 = .ok (.aload_n 1, 1) := by decide +kernel
theorem d_Di_divide_109 : decode prog_4_method_2_code 109 = .ok (.getfield 26, 3) := by decide +kernel
theorem d_Di_divide_112 : decode prog_4_method_2_code 112 = .ok (.aload_n 2, 1) := by decide +kernel
theorem d_Di_divide_113 : decode prog_4_method_2_code 113 = .ok (.getfield 26, 3) := by decide +kernel
theorem d_Di_divide_116 : decode prog_4_method_2_code 116 = .ok (.isub, 1) := by decide +kernel
theorem d_Di_divide_117 : decode prog_4_method_2_code 117 = .ok (.invokevirtual 56, 3) := by decide +kernel
theorem d_Di_divide_120 : decode prog_4_method_2_code 120 = .ok (.aload_n 0, 1) := by decide +kernel
theorem d_Di_divide_121 : decode prog_4_method_2_code 121 = .ok (.getfield 20, 3) := by decide +kernel
theorem d_Di_divide_124 : decode prog_4_method_2_code 124 = .ok (.iload 4, 2) := by decide +kernel
theorem d_Di_divide_126 : decode prog_4_method_2_code 126 = .ok (.invokevirtual 42, 3) := by decide +kernel
theorem d_Di_divide_129 : decode prog_4_method_2_code 129 = .ok (.pop2, 1) := by decide +kernel
theorem d_Di_divide_130 : decode prog_4_method_2_code 130 = .ok (.return_, 1) := by decide +kernel
theorem d_Di_divideScaled_0 : decode prog_4_method_3_code 0 = .ok (.aload_n 0, 1) := by decide +kernel
theorem d_Di_divideScaled_1 : decode prog_4_method_3_code 1 = .ok (.getfield 23, 3) := by decide +kernel
theorem d_Di_divideScaled_4 : decode prog_4_method_3_code 4 = .ok (.getfield 26, 3) := by decide +kernel
theorem d_Di_divideScaled_7 : decode prog_4_method_3_code 7 = .ok (.istore_n 2, 1) := by decide +kernel
theorem d_Di_divideScaled_8 : decode prog_4_method_3_code 8 = .ok (.aload_n 0, 1) := by decide +kernel
theorem d_Di_divideScaled_9 : decode prog_4_method_3_code 9 = .ok (.getfield 14, 3) := by decide +kernel
theorem d_Di_divideScaled_12 : decode prog_4_method_3_code 12 = .ok (.iload_n 1, 1) := by decide +kernel
theorem d_Di_divideScaled_13 : decode prog_4_method_3_code 13 = .ok (.iconst 1, 1) := by decide +kernel
theorem d_Di_divideScaled_14 : decode prog_4_method_3_code 14 = .ok (.iadd, 1) := by decide +kernel
theorem d_Di_divideScaled_15 : decode prog_4_method_3_code 15 = .ok (.invokevirtual 59, 3) := by decide +kernel
theorem d_Di_divideScaled_18 : decode prog_4_method_3_code 18 = .ok (.iload_n 1, 1) := by decide +kernel
theorem d_Di_divideScaled_19 : decode prog_4_method_3_code 19 = .ok (.istore_n 3, 1) := by decide +kernel
theorem d_Di_divideScaled_20 : decode prog_4_method_3_code 20 = .ok (.iload_n 3, 1) := by decide +kernel
theorem d_Di_divideScaled_21 : decode prog_4_method_3_code 21 = .ok (.ifCond .lt 48, 3) := by decide +kernel
theorem d_Di_divideScaled_24 : decode prog_4_method_3_code 24 = .ok (.aload_n 0, 1) := by decide +kernel
theorem d_Di_divideScaled_25 : decode prog_4_method_3_code 25 = .ok (.iload_n 3, 1) := by decide +kernel
theorem d_Di_divideScaled_26 : decode prog_4_method_3_code 26 = .ok (.iload_n 2, 1) := by decide +kernel
theorem d_Di_divideScaled_27 : decode prog_4_method_3_code 27 = .ok (.iadd, 1) := by decide +kernel
theorem d_Di_divideScaled_28 : decode prog_4_method_3_code 28 = .ok (.invokevirtual 62, 3) := by decide +kernel
theorem d_Di_divideScaled_31 : decode prog_4_method_3_code 31 = .ok (.istore 4, 2) := by decide +kernel
theorem d_Di_divideScaled_33 : decode prog_4_method_3_code 33 = .ok (.aload_n 0, 1) := by decide +kernel
theorem d_Di_divideScaled_34 : decode prog_4_method_3_code 34 = .ok (.iload_n 3, 1) := by decide +kernel
theorem d_Di_divideScaled_35 : decode prog_4_method_3_code 35 = .ok (.iload 4, 2) := by decide +kernel
theorem d_Di_divideScaled_37 : decode prog_4_method_3_code 37 = .ok (.i2l, 1) := by decide +kernel
theorem d_Di_divideScaled_38 : decode prog_4_method_3_code 38 = .ok (.invokevirtual 65, 3) := by decide +kernel
theorem d_Di_divideScaled_41 : decode prog_4_method_3_code 41 = .ok (.ifCond .eq 11, 3) := by decide +kernel
theorem d_Di_divideScaled_44 : decode prog_4_method_3_code 44 = .ok (.aload_n 0, 1) := by decide +kernel
theorem d_Di_divideScaled_45 : decode prog_4_method_3_code 45 = .ok (.iload_n 3, 1) := by decide +kernel
theorem d_Di_divideScaled_46 : decode prog_4_method_3_code 46 = .ok (.invokevirtual 69, 3) := by decide +kernel
theorem d_Di_divideScaled_49 : decode prog_4_method_3_code 49 = .ok (.iinc 4 (-1), 3) := by decide +kernel
theorem d_Di_divideScaled_52 : decode prog_4_method_3_code 52 = .ok (.aload_n 0, 1) := by decide +kernel
theorem d_Di_divideScaled_53 : decode prog_4_method_3_code 53 = .ok (.getfield 14, 3) := by decide +kernel
theorem d_Di_divideScaled_56 : decode prog_4_method_3_code 56 = .ok (.getfield 72, 3) := by decide +kernel
theorem d_Di_divideScaled_59 : decode prog_4_method_3_code 59 = .ok (.iload_n 3, 1) := by decide +kernel
theorem d_Di_divideScaled_60 : decode prog_4_method_3_code 60 = .ok (.iload 4, 2) := by decide +kernel
theorem d_Di_divideScaled_62 : decode prog_4_method_3_code 62 = .ok (.iastore, 1) := by decide +kernel
theorem d_Di_divideScaled_63 : decode prog_4_method_3_code 63 = .ok (.iinc 3 (-1), 3) := by decide +kernel
theorem d_Di_divideScaled_66 : decode prog_4_method_3_code 66 = .ok (.goto (-46), 3) := by decide +kernel
theorem d_Di_divideScaled_69 : decode prog_4_method_3_code 69 = .ok (.aload_n 0, 1) := by decide +kernel
theorem d_Di_divideScaled_70 : decode prog_4_method_3_code 70 = .ok (.getfield 14, 3) := by decide +kernel
theorem d_Di_divideScaled_73 : decode prog_4_method_3_code 73 = .ok (.iload_n 1, 1) := by decide +kernel
theorem d_Di_divideScaled_74 : decode prog_4_method_3_code 74 = .ok (.iconst 1, 1) := by decide +kernel
theorem d_Di_divideScaled_75 : decode prog_4_method_3_code 75 = .ok (.iadd, 1) := by decide +kernel
theorem d_Di_divideScaled_76 : decode prog_4_method_3_code 76 = .ok (.putfield 26, 3) := by decide +kernel
theorem d_Di_divideScaled_79 : decode prog_4_method_3_code 79 = .ok (.aload_n 0, 1) := by decide +kernel
theorem d_Di_divideScaled_80 : decode prog_4_method_3_code 80 = .ok (.getfield 14, 3) := by decide +kernel
theorem d_Di_divideScaled_83 : decode prog_4_method_3_code 83 = .ok (.invokevirtual 76, 3) := by decide +kernel
theorem d_Di_divideScaled_86 : decode prog_4_method_3_code 86 = .ok (.aload_n 0, 1) := by decide +kernel
theorem d_Di_divideScaled_87 : decode prog_4_method_3_code 87 = .ok (.getfield 20, 3) := by decide +kernel
theorem d_Di_divideScaled_90 : decode prog_4_method_3_code 90 = .ok (.iload_n 2, 1) := by decide +kernel
theorem d_Di_divideScaled_91 : decode prog_4_method_3_code 91 = .ok (.putfield 26, 3) := by decide +kernel
theorem d_Di_divideScaled_94 : decode prog_4_method_3_code 94 = .ok (.return_, 1) := by decide +kernel
theorem d_Di_guessLimb_0 : decode prog_4_method_4_code 0 = .ok (.aload_n 0, 1) := by decide +kernel
theorem d_Di_guessLimb_1 : decode prog_4_method_4_code 1 = .ok (.getfield 23, 3) := by decide +kernel
theorem d_Di_guessLimb_4 : decode prog_4_method_4_code 4 = .ok (.getfield 72, 3) := by decide +kernel
theorem d_Di_guessLimb_7 : decode prog_4_method_4_code 7 = .ok (.aload_n 0, 1) := by decide +kernel
theorem d_Di_guessLimb_8 : decode prog_4_method_4_code 8 = .ok (.getfield 23, 3) := by decide +kernel
theorem d_Di_guessLimb_11 : decode prog_4_method_4_code 11 = .ok (.getfield 26, 3) := by decide +kernel
theorem d_Di_guessLimb_14 : decode prog_4_method_4_code 14 = .ok (.iconst 1, 1) := by decide +kernel
theorem d_Di_guessLimb_15 : decode prog_4_method_4_code 15 = .ok (.isub, 1) := by decide +kernel
theorem d_Di_guessLimb_16 : decode prog_4_method_4_code 16 = .ok (.iaload, 1) := by decide +kernel
theorem d_Di_guessLimb_17 : decode prog_4_method_4_code 17 = .ok (.i2l, 1) := by decide +kernel
theorem d_Di_guessLimb_18 : decode prog_4_method_4_code 18 = .ok (.lstore_n 2, 1) := by decide +kernel
theorem d_Di_guessLimb_19 : decode prog_4_method_4_code 19 = .ok (.aload_n 0, 1) := by decide +kernel
theorem d_Di_guessLimb_20 : decode prog_4_method_4_code 20 = .ok (.getfield 23, 3) := by decide +kernel
theorem d_Di_guessLimb_23 : decode prog_4_method_4_code 23 = .ok (.getfield 72, 3) := by decide +kernel
theorem d_Di_guessLimb_26 : decode prog_4_method_4_code 26 = .ok (.aload_n 0, 1) := by decide +kernel
theorem d_Di_guessLimb_27 : decode prog_4_method_4_code 27 = .ok (.getfield 23, 3) := by decide +kernel
theorem d_Di_guessLimb_30 : decode prog_4_method_4_code 30 = .ok (.getfield 26, 3) := by decide +kernel
theorem d_Di_guessLimb_33 : decode prog_4_method_4_code 33 = .ok (.iconst 2, 1) := by decide +kernel
theorem d_Di_guessLimb_34 : decode prog_4_method_4_code 34 = .ok (.isub, 1) := by decide +kernel
theorem d_Di_guessLimb_35 : decode prog_4_method_4_code 35 = .ok (.iaload, 1) := by decide +kernel
theorem d_Di_guessLimb_36 : decode prog_4_method_4_code 36 = .ok (.i2l, 1) := by decide +kernel
theorem d_Di_guessLimb_37 : decode prog_4_method_4_code 37 = .ok (.lstore 4, 2) := by decide +kernel
theorem d_Di_guessLimb_39 : decode prog_4_method_4_code 39 = .ok (.lload_n 2, 1) := by decide +kernel
theorem d_Di_guessLimb_40 : decode prog_4_method_4_code 40 = .ok (.lconst 0, 1) := by decide +kernel
theorem d_Di_guessLimb_41 : decode prog_4_method_4_code 41 = .ok (.lcmp, 1) := by decide +kernel
theorem d_Di_guessLimb_42 : decode prog_4_method_4_code 42 = .ok (.ifCond .gt 5, 3) := by decide +kernel
theorem d_Di_guessLimb_45 : decode prog_4_method_4_code 45 = .ok (.iconst 0, 1) := by decide +kernel
theorem d_Di_guessLimb_46 : decode prog_4_method_4_code 46 = .ok (.ireturn, 1) := by decide +kernel
theorem d_Di_guessLimb_47 : decode prog_4_method_4_code 47 = .ok (.aload_n 0, 1) := by decide +kernel
theorem d_Di_guessLimb_48 : decode prog_4_method_4_code 48 = .ok (.getfield 20, 3) := by decide +kernel
theorem d_Di_guessLimb_51 : decode prog_4_method_4_code 51 = .ok (.getfield 72, 3) := by decide +kernel
theorem d_Di_guessLimb_54 : decode prog_4_method_4_code 54 = .ok (.iload_n 1, 1) := by decide +kernel
theorem d_Di_guessLimb_55 : decode prog_4_method_4_code 55 = .ok (.iaload, 1) := by decide +kernel
theorem d_Di_guessLimb_56 : decode prog_4_method_4_code 56 = .ok (.i2l, 1) := by decide +kernel
theorem d_Di_guessLimb_57 : decode prog_4_method_4_code 57 = .ok (.ldc2_w 50, 3) := by decide +kernel
theorem d_Di_guessLimb_60 : decode prog_4_method_4_code 60 = .ok (.lmul, 1) := by decide +kernel
theorem d_Di_guessLimb_61 : decode prog_4_method_4_code 61 = .ok (.aload_n 0, 1) := by decide +kernel
theorem d_Di_guessLimb_62 : decode prog_4_method_4_code 62 = .ok (.getfield 20, 3) := by decide +kernel
theorem d_Di_guessLimb_65 : decode prog_4_method_4_code 65 = .ok (.getfield 72, 3) := by decide +kernel
theorem d_Di_guessLimb_68 : decode prog_4_method_4_code 68 = .ok (.iload_n 1, 1) := by decide +kernel
theorem d_Di_guessLimb_69 : decode prog_4_method_4_code 69 = .ok (.iconst 1, 1) := by decide +kernel
theorem d_Di_guessLimb_70 : decode prog_4_method_4_code 70 = .ok (.isub, 1) := by decide +kernel
theorem d_Di_guessLimb_71 : decode prog_4_method_4_code 71 = .ok (.iaload, 1) := by decide +kernel
theorem d_Di_guessLimb_72 : decode prog_4_method_4_code 72 = .ok (.i2l, 1) := by decide +kernel
theorem d_Di_guessLimb_73 : decode prog_4_method_4_code 73 = .ok (.ladd, 1) := by decide +kernel
theorem d_Di_guessLimb_74 : decode prog_4_method_4_code 74 = .ok (.lstore 6, 2) := by decide +kernel
theorem d_Di_guessLimb_76 : decode prog_4_method_4_code 76 = .ok (.lload 6, 2) := by decide +kernel
theorem d_Di_guessLimb_78 : decode prog_4_method_4_code 78 = .ok (.lload_n 2, 1) := by decide +kernel
theorem d_Di_guessLimb_79 : decode prog_4_method_4_code 79 = .ok (.ldiv, 1) := by decide +kernel
theorem d_Di_guessLimb_80 : decode prog_4_method_4_code 80 = .ok (.lstore 8, 2) := by decide +kernel
theorem d_Di_guessLimb_82 : decode prog_4_method_4_code 82 = .ok (.lload 6, 2) := by decide +kernel
theorem d_Di_guessLimb_84 : decode prog_4_method_4_code 84 = .ok (.lload 8, 2) := by decide +kernel
theorem d_Di_guessLimb_86 : decode prog_4_method_4_code 86 = .ok (.lload_n 2, 1) := by decide +kernel
theorem d_Di_guessLimb_87 : decode prog_4_method_4_code 87 = .ok (.lmul, 1) := by decide +kernel
theorem d_Di_guessLimb_88 : decode prog_4_method_4_code 88 = .ok (.lsub, 1) := by decide +kernel
theorem d_Di_guessLimb_89 : decode prog_4_method_4_code 89 = .ok (.lstore 10, 2) := by decide +kernel
theorem d_Di_guessLimb_91 : decode prog_4_method_4_code 91 = .ok (.iconst 0, 1) := by decide +kernel
theorem d_Di_guessLimb_92 : decode prog_4_method_4_code 92 = .ok (.istore 12, 2) := by decide +kernel
theorem d_Di_guessLimb_94 : decode prog_4_method_4_code 94 = .ok (.iload 12, 2) := by decide +kernel
theorem d_Di_guessLimb_96 : decode prog_4_method_4_code 96 = .ok (.iconst 4, 1) := by decide +kernel
theorem d_Di_guessLimb_97 : decode prog_4_method_4_code 97 = .ok (.if_icmp .ge 70, 3) := by decide +kernel
theorem d_Di_guessLimb_100 : decode prog_4_method_4_code 100 = .ok (.lload 10, 2) := by decide +kernel
theorem d_Di_guessLimb_102 : decode prog_4_method_4_code 102 = .ok (.ldc2_w 50, 3) := by decide +kernel
theorem d_Di_guessLimb_105 : decode prog_4_method_4_code 105 = .ok (.lcmp, 1) := by decide +kernel
theorem d_Di_guessLimb_106 : decode prog_4_method_4_code 106 = .ok (.ifCond .ge 61, 3) := by decide +kernel
theorem d_Di_guessLimb_109 : decode prog_4_method_4_code 109 = .ok (.lload 8, 2) := by decide +kernel
theorem d_Di_guessLimb_111 : decode prog_4_method_4_code 111 = .ok (.ldc2_w 50, 3) := by decide +kernel
theorem d_Di_guessLimb_114 : decode prog_4_method_4_code 114 = .ok (.lcmp, 1) := by decide +kernel
theorem d_Di_guessLimb_115 : decode prog_4_method_4_code 115 = .ok (.ifCond .ge 34, 3) := by decide +kernel
theorem d_Di_guessLimb_118 : decode prog_4_method_4_code 118 = .ok (.lload 8, 2) := by decide +kernel
theorem d_Di_guessLimb_120 : decode prog_4_method_4_code 120 = .ok (.lload 4, 2) := by decide +kernel
theorem d_Di_guessLimb_122 : decode prog_4_method_4_code 122 = .ok (.lmul, 1) := by decide +kernel
theorem d_Di_guessLimb_123 : decode prog_4_method_4_code 123 = .ok (.lload 10, 2) := by decide +kernel
theorem d_Di_guessLimb_125 : decode prog_4_method_4_code 125 = .ok (.ldc2_w 50, 3) := by decide +kernel
theorem d_Di_guessLimb_128 : decode prog_4_method_4_code 128 = .ok (.lmul, 1) := by decide +kernel
theorem d_Di_guessLimb_129 : decode prog_4_method_4_code 129 = .ok (.aload_n 0, 1) := by decide +kernel
theorem d_Di_guessLimb_130 : decode prog_4_method_4_code 130 = .ok (.getfield 20, 3) := by decide +kernel
theorem d_Di_guessLimb_133 : decode prog_4_method_4_code 133 = .ok (.getfield 72, 3) := by decide +kernel
theorem d_Di_guessLimb_136 : decode prog_4_method_4_code 136 = .ok (.iload_n 1, 1) := by decide +kernel
theorem d_Di_guessLimb_137 : decode prog_4_method_4_code 137 = .ok (.iconst 2, 1) := by decide +kernel
theorem d_Di_guessLimb_138 : decode prog_4_method_4_code 138 = .ok (.isub, 1) := by decide +kernel
theorem d_Di_guessLimb_139 : decode prog_4_method_4_code 139 = .ok (.iaload, 1) := by decide +kernel
theorem d_Di_guessLimb_140 : decode prog_4_method_4_code 140 = .ok (.i2l, 1) := by decide +kernel
theorem d_Di_guessLimb_141 : decode prog_4_method_4_code 141 = .ok (.ladd, 1) := by decide +kernel
theorem d_Di_guessLimb_142 : decode prog_4_method_4_code 142 = .ok (.lcmp, 1) := by decide +kernel
theorem d_Di_guessLimb_143 : decode prog_4_method_4_code 143 = .ok (.ifCond .gt 6, 3) := by decide +kernel
theorem d_Di_guessLimb_146 : decode prog_4_method_4_code 146 = .ok (.goto 21, 3) := by decide +kernel
theorem d_Di_guessLimb_149 : decode prog_4_method_4_code 149 = .ok (.lload 8, 2) := by decide +kernel
theorem d_Di_guessLimb_151 : decode prog_4_method_4_code 151 = .ok (.lconst 1, 1) := by decide +kernel
theorem d_Di_guessLimb_152 : decode prog_4_method_4_code 152 = .ok (.lsub, 1) := by decide +kernel
theorem d_Di_guessLimb_153 : decode prog_4_method_4_code 153 = .ok (.lstore 8, 2) := by decide +kernel
theorem d_Di_guessLimb_155 : decode prog_4_method_4_code 155 = .ok (.lload 10, 2) := by decide +kernel
theorem d_Di_guessLimb_157 : decode prog_4_method_4_code 157 = .ok (.lload_n 2, 1) := by decide +kernel
theorem d_Di_guessLimb_158 : decode prog_4_method_4_code 158 = .ok (.ladd, 1) := by decide +kernel
theorem d_Di_guessLimb_159 : decode prog_4_method_4_code 159 = .ok (.lstore 10, 2) := by decide +kernel
theorem d_Di_guessLimb_161 : decode prog_4_method_4_code 161 = .ok (.iinc 12 1, 3) := by decide +kernel
theorem d_Di_guessLimb_164 : decode prog_4_method_4_code 164 = .ok (.goto (-70), 3) := by decide +kernel
theorem d_Di_guessLimb_167 : decode prog_4_method_4_code 167 = .ok (.lload 8, 2) := by decide +kernel
theorem d_Di_guessLimb_169 : decode prog_4_method_4_code 169 = .ok (.l2i, 1) := by decide +kernel
theorem d_Di_guessLimb_170 : decode prog_4_method_4_code 170 = .ok (.ireturn, 1) := by decide +kernel
theorem d_Di_subtract_0 : decode prog_4_method_5_code 0 = .ok (.lconst 0, 1) := by decide +kernel
theorem d_Di_subtract_1 : decode prog_4_method_5_code 1 = .ok (.lstore 4, 2) := by decide +kernel
theorem d_Di_subtract_3 : decode prog_4_method_5_code 3 = .ok (.iconst 0, 1) := by decide +kernel
theorem d_Di_subtract_4 : decode prog_4_method_5_code 4 = .ok (.istore 6, 2) := by decide +kernel
theorem d_Di_subtract_6 : decode prog_4_method_5_code 6 = .ok (.iload 6, 2) := by decide +kernel
theorem d_Di_subtract_8 : decode prog_4_method_5_code 8 = .ok (.aload_n 0, 1) := by decide +kernel
theorem d_Di_subtract_9 : decode prog_4_method_5_code 9 = .ok (.getfield 23, 3) := by decide +kernel
theorem d_Di_subtract_12 : decode prog_4_method_5_code 12 = .ok (.getfield 26, 3) := by decide +kernel
theorem d_Di_subtract_15 : decode prog_4_method_5_code 15 = .ok (.if_icmp .ge 96, 3) := by decide +kernel
theorem d_Di_subtract_18 : decode prog_4_method_5_code 18 = .ok (.aload_n 0, 1) := by decide +kernel
theorem d_Di_subtract_19 : decode prog_4_method_5_code 19 = .ok (.getfield 23, 3) := by decide +kernel
theorem d_Di_subtract_22 : decode prog_4_method_5_code 22 = .ok (.getfield 72, 3) := by decide +kernel
theorem d_Di_subtract_25 : decode prog_4_method_5_code 25 = .ok (.iload 6, 2) := by decide +kernel
theorem d_Di_subtract_27 : decode prog_4_method_5_code 27 = .ok (.iaload, 1) := by decide +kernel
theorem d_Di_subtract_28 : decode prog_4_method_5_code 28 = .ok (.i2l, 1) := by decide +kernel
theorem d_Di_subtract_29 : decode prog_4_method_5_code 29 = .ok (.lload_n 2, 1) := by decide +kernel
theorem d_Di_subtract_30 : decode prog_4_method_5_code 30 = .ok (.lmul, 1) := by decide +kernel
theorem d_Di_subtract_31 : decode prog_4_method_5_code 31 = .ok (.lload 4, 2) := by decide +kernel
theorem d_Di_subtract_33 : decode prog_4_method_5_code 33 = .ok (.ladd, 1) := by decide +kernel
theorem d_Di_subtract_34 : decode prog_4_method_5_code 34 = .ok (.lstore 7, 2) := by decide +kernel
theorem d_Di_subtract_36 : decode prog_4_method_5_code 36 = .ok (.lload 7, 2) := by decide +kernel
theorem d_Di_subtract_38 : decode prog_4_method_5_code 38 = .ok (.ldc2_w 50, 3) := by decide +kernel
theorem d_Di_subtract_41 : decode prog_4_method_5_code 41 = .ok (.ldiv, 1) := by decide +kernel
theorem d_Di_subtract_42 : decode prog_4_method_5_code 42 = .ok (.lstore 4, 2) := by decide +kernel
theorem d_Di_subtract_44 : decode prog_4_method_5_code 44 = .ok (.aload_n 0, 1) := by decide +kernel
theorem d_Di_subtract_45 : decode prog_4_method_5_code 45 = .ok (.getfield 20, 3) := by decide +kernel
theorem d_Di_subtract_48 : decode prog_4_method_5_code 48 = .ok (.getfield 72, 3) := by decide +kernel
theorem d_Di_subtract_51 : decode prog_4_method_5_code 51 = .ok (.iload_n 1, 1) := by decide +kernel
theorem d_Di_subtract_52 : decode prog_4_method_5_code 52 = .ok (.iload 6, 2) := by decide +kernel
theorem d_Di_subtract_54 : decode prog_4_method_5_code 54 = .ok (.iadd, 1) := by decide +kernel
theorem d_Di_subtract_55 : decode prog_4_method_5_code 55 = .ok (.iaload, 1) := by decide +kernel
theorem d_Di_subtract_56 : decode prog_4_method_5_code 56 = .ok (.i2l, 1) := by decide +kernel
theorem d_Di_subtract_57 : decode prog_4_method_5_code 57 = .ok (.lload 7, 2) := by decide +kernel
theorem d_Di_subtract_59 : decode prog_4_method_5_code 59 = .ok (.lload 4, 2) := by decide +kernel
theorem d_Di_subtract_61 : decode prog_4_method_5_code 61 = .ok (.ldc2_w 50, 3) := by decide +kernel
theorem d_Di_subtract_64 : decode prog_4_method_5_code 64 = .ok (.lmul, 1) := by decide +kernel
theorem d_Di_subtract_65 : decode prog_4_method_5_code 65 = .ok (.lsub, 1) := by decide +kernel
theorem d_Di_subtract_66 : decode prog_4_method_5_code 66 = .ok (.lsub, 1) := by decide +kernel
theorem d_Di_subtract_67 : decode prog_4_method_5_code 67 = .ok (.lstore 9, 2) := by decide +kernel
theorem d_Di_subtract_69 : decode prog_4_method_5_code 69 = .ok (.lload 9, 2) := by decide +kernel
theorem d_Di_subtract_71 : decode prog_4_method_5_code 71 = .ok (.lconst 0, 1) := by decide +kernel
theorem d_Di_subtract_72 : decode prog_4_method_5_code 72 = .ok (.lcmp, 1) := by decide +kernel
theorem d_Di_subtract_73 : decode prog_4_method_5_code 73 = .ok (.ifCond .ge 17, 3) := by decide +kernel
theorem d_Di_subtract_76 : decode prog_4_method_5_code 76 = .ok (.lload 9, 2) := by decide +kernel
theorem d_Di_subtract_78 : decode prog_4_method_5_code 78 = .ok (.ldc2_w 50, 3) := by decide +kernel
theorem d_Di_subtract_81 : decode prog_4_method_5_code 81 = .ok (.ladd, 1) := by decide +kernel
theorem d_Di_subtract_82 : decode prog_4_method_5_code 82 = .ok (.lstore 9, 2) := by decide +kernel
theorem d_Di_subtract_84 : decode prog_4_method_5_code 84 = .ok (.lload 4, 2) := by decide +kernel
theorem d_Di_subtract_86 : decode prog_4_method_5_code 86 = .ok (.lconst 1, 1) := by decide +kernel
theorem d_Di_subtract_87 : decode prog_4_method_5_code 87 = .ok (.ladd, 1) := by decide +kernel
theorem d_Di_subtract_88 : decode prog_4_method_5_code 88 = .ok (.lstore 4, 2) := by decide +kernel
theorem d_Di_subtract_90 : decode prog_4_method_5_code 90 = .ok (.aload_n 0, 1) := by decide +kernel
theorem d_Di_subtract_91 : decode prog_4_method_5_code 91 = .ok (.getfield 20, 3) := by decide +kernel
theorem d_Di_subtract_94 : decode prog_4_method_5_code 94 = .ok (.getfield 72, 3) := by decide +kernel
theorem d_Di_subtract_97 : decode prog_4_method_5_code 97 = .ok (.iload_n 1, 1) := by decide +kernel
theorem d_Di_subtract_98 : decode prog_4_method_5_code 98 = .ok (.iload 6, 2) := by decide +kernel
theorem d_Di_subtract_100 : decode prog_4_method_5_code 100 = .ok (.iadd, 1) := by decide +kernel
theorem d_Di_subtract_101 : decode prog_4_method_5_code 101 = .ok (.lload 9, 2) := by decide +kernel
theorem d_Di_subtract_103 : decode prog_4_method_5_code 103 = .ok (.l2i, 1) := by decide +kernel
theorem d_Di_subtract_104 : decode prog_4_method_5_code 104 = .ok (.iastore, 1) := by decide +kernel
theorem d_Di_subtract_105 : decode prog_4_method_5_code 105 = .ok (.iinc 6 1, 3) := by decide +kernel
theorem d_Di_subtract_108 : decode prog_4_method_5_code 108 = .ok (.goto (-102), 3) := by decide +kernel
theorem d_Di_subtract_111 : decode prog_4_method_5_code 111 = .ok (.aload_n 0, 1) := by decide +kernel
theorem d_Di_subtract_112 : decode prog_4_method_5_code 112 = .ok (.getfield 20, 3) := by decide +kernel
theorem d_Di_subtract_115 : decode prog_4_method_5_code 115 = .ok (.getfield 72, 3) := by decide +kernel
theorem d_Di_subtract_118 : decode prog_4_method_5_code 118 = .ok (.iload_n 1, 1) := by decide +kernel
theorem d_Di_subtract_119 : decode prog_4_method_5_code 119 = .ok (.aload_n 0, 1) := by decide +kernel
theorem d_Di_subtract_120 : decode prog_4_method_5_code 120 = .ok (.getfield 23, 3) := by decide +kernel
theorem d_Di_subtract_123 : decode prog_4_method_5_code 123 = .ok (.getfield 26, 3) := by decide +kernel
theorem d_Di_subtract_126 : decode prog_4_method_5_code 126 = .ok (.iadd, 1) := by decide +kernel
theorem d_Di_subtract_127 : decode prog_4_method_5_code 127 = .ok (.iaload, 1) := by decide +kernel
theorem d_Di_subtract_128 : decode prog_4_method_5_code 128 = .ok (.i2l, 1) := by decide +kernel
theorem d_Di_subtract_129 : decode prog_4_method_5_code 129 = .ok (.lload 4, 2) := by decide +kernel
theorem d_Di_subtract_131 : decode prog_4_method_5_code 131 = .ok (.lcmp, 1) := by decide +kernel
theorem d_Di_subtract_132 : decode prog_4_method_5_code 132 = .ok (.ifCond .ge 7, 3) := by decide +kernel
theorem d_Di_subtract_135 : decode prog_4_method_5_code 135 = .ok (.iconst 1, 1) := by decide +kernel
theorem d_Di_subtract_136 : decode prog_4_method_5_code 136 = .ok (.goto 4, 3) := by decide +kernel
theorem d_Di_subtract_139 : decode prog_4_method_5_code 139 = .ok (.iconst 0, 1) := by decide +kernel
theorem d_Di_subtract_140 : decode prog_4_method_5_code 140 = .ok (.ireturn, 1) := by decide +kernel
theorem d_Di_giveBack_0 : decode prog_4_method_6_code 0 = .ok (.lconst 0, 1) := by decide +kernel
theorem d_Di_giveBack_1 : decode prog_4_method_6_code 1 = .ok (.lstore_n 2, 1) := by decide +kernel
theorem d_Di_giveBack_2 : decode prog_4_method_6_code 2 = .ok (.iconst 0, 1) := by decide +kernel
theorem d_Di_giveBack_3 : decode prog_4_method_6_code 3 = .ok (.istore 4, 2) := by decide +kernel
theorem d_Di_giveBack_5 : decode prog_4_method_6_code 5 = .ok (.iload 4, 2) := by decide +kernel
theorem d_Di_giveBack_7 : decode prog_4_method_6_code 7 = .ok (.aload_n 0, 1) := by decide +kernel
theorem d_Di_giveBack_8 : decode prog_4_method_6_code 8 = .ok (.getfield 23, 3) := by decide +kernel
theorem d_Di_giveBack_11 : decode prog_4_method_6_code 11 = .ok (.getfield 26, 3) := by decide +kernel
theorem d_Di_giveBack_14 : decode prog_4_method_6_code 14 = .ok (.if_icmp .ge 66, 3) := by decide +kernel
theorem d_Di_giveBack_17 : decode prog_4_method_6_code 17 = .ok (.aload_n 0, 1) := by decide +kernel
theorem d_Di_giveBack_18 : decode prog_4_method_6_code 18 = .ok (.getfield 20, 3) := by decide +kernel
theorem d_Di_giveBack_21 : decode prog_4_method_6_code 21 = .ok (.getfield 72, 3) := by decide +kernel
theorem d_Di_giveBack_24 : decode prog_4_method_6_code 24 = .ok (.iload_n 1, 1) := by decide +kernel
theorem d_Di_giveBack_25 : decode prog_4_method_6_code 25 = .ok (.iload 4, 2) := by decide +kernel
theorem d_Di_giveBack_27 : decode prog_4_method_6_code 27 = .ok (.iadd, 1) := by decide +kernel
theorem d_Di_giveBack_28 : decode prog_4_method_6_code 28 = .ok (.iaload, 1) := by decide +kernel
theorem d_Di_giveBack_29 : decode prog_4_method_6_code 29 = .ok (.i2l, 1) := by decide +kernel
theorem d_Di_giveBack_30 : decode prog_4_method_6_code 30 = .ok (.aload_n 0, 1) := by decide +kernel
theorem d_Di_giveBack_31 : decode prog_4_method_6_code 31 = .ok (.getfield 23, 3) := by decide +kernel
theorem d_Di_giveBack_34 : decode prog_4_method_6_code 34 = .ok (.getfield 72, 3) := by decide +kernel
theorem d_Di_giveBack_37 : decode prog_4_method_6_code 37 = .ok (.iload 4, 2) := by decide +kernel
theorem d_Di_giveBack_39 : decode prog_4_method_6_code 39 = .ok (.iaload, 1) := by decide +kernel
theorem d_Di_giveBack_40 : decode prog_4_method_6_code 40 = .ok (.i2l, 1) := by decide +kernel
theorem d_Di_giveBack_41 : decode prog_4_method_6_code 41 = .ok (.ladd, 1) := by decide +kernel
theorem d_Di_giveBack_42 : decode prog_4_method_6_code 42 = .ok (.lload_n 2, 1) := by decide +kernel
theorem d_Di_giveBack_43 : decode prog_4_method_6_code 43 = .ok (.ladd, 1) := by decide +kernel
theorem d_Di_giveBack_44 : decode prog_4_method_6_code 44 = .ok (.lstore 5, 2) := by decide +kernel
theorem d_Di_giveBack_46 : decode prog_4_method_6_code 46 = .ok (.lload 5, 2) := by decide +kernel
theorem d_Di_giveBack_48 : decode prog_4_method_6_code 48 = .ok (.ldc2_w 50, 3) := by decide +kernel
theorem d_Di_giveBack_51 : decode prog_4_method_6_code 51 = .ok (.ldiv, 1) := by decide +kernel
theorem d_Di_giveBack_52 : decode prog_4_method_6_code 52 = .ok (.lstore_n 2, 1) := by decide +kernel
theorem d_Di_giveBack_53 : decode prog_4_method_6_code 53 = .ok (.aload_n 0, 1) := by decide +kernel
theorem d_Di_giveBack_54 : decode prog_4_method_6_code 54 = .ok (.getfield 20, 3) := by decide +kernel
theorem d_Di_giveBack_57 : decode prog_4_method_6_code 57 = .ok (.getfield 72, 3) := by decide +kernel
theorem d_Di_giveBack_60 : decode prog_4_method_6_code 60 = .ok (.iload_n 1, 1) := by decide +kernel
theorem d_Di_giveBack_61 : decode prog_4_method_6_code 61 = .ok (.iload 4, 2) := by decide +kernel
theorem d_Di_giveBack_63 : decode prog_4_method_6_code 63 = .ok (.iadd, 1) := by decide +kernel
theorem d_Di_giveBack_64 : decode prog_4_method_6_code 64 = .ok (.lload 5, 2) := by decide +kernel
theorem d_Di_giveBack_66 : decode prog_4_method_6_code 66 = .ok (.lload_n 2, 1) := by decide +kernel
theorem d_Di_giveBack_67 : decode prog_4_method_6_code 67 = .ok (.ldc2_w 50, 3) := by decide +kernel
theorem d_Di_giveBack_70 : decode prog_4_method_6_code 70 = .ok (.lmul, 1) := by decide +kernel
theorem d_Di_giveBack_71 : decode prog_4_method_6_code 71 = .ok (.lsub, 1) := by decide +kernel
theorem d_Di_giveBack_72 : decode prog_4_method_6_code 72 = .ok (.l2i, 1) := by decide +kernel
theorem d_Di_giveBack_73 : decode prog_4_method_6_code 73 = .ok (.iastore, 1) := by decide +kernel
theorem d_Di_giveBack_74 : decode prog_4_method_6_code 74 = .ok (.iinc 4 1, 3) := by decide +kernel
theorem d_Di_giveBack_77 : decode prog_4_method_6_code 77 = .ok (.goto (-72), 3) := by decide +kernel
theorem d_Di_giveBack_80 : decode prog_4_method_6_code 80 = .ok (.return_, 1) := by decide +kernel
