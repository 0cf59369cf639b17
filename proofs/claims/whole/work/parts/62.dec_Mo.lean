theorem d_Mo_init_0 : decode prog_11_method_1_code 0 = .ok (.aload_n 0, 1) := by decide +kernel
theorem d_Mo_init_1 : decode prog_11_method_1_code 1 = .ok (.invokespecial 1, 3) := by decide +kernel
theorem d_Mo_init_4 : decode prog_11_method_1_code 4 = .ok (.aload_n 0, 1) := by decide +kernel
theorem d_Mo_init_5 : decode prog_11_method_1_code 5 = .ok (.sipush 200, 3) := by decide +kernel
theorem d_Mo_init_8 : decode prog_11_method_1_code 8 = .ok (.newarray .int, 2) := by decide +kernel
theorem d_Mo_init_10 : decode prog_11_method_1_code 10 = .ok (.putfield 7, 3) := by decide +kernel
theorem d_Mo_init_13 : decode prog_11_method_1_code 13 = .ok (.aload_n 0, 1) := by decide +kernel
theorem d_Mo_init_14 : decode prog_11_method_1_code 14 = .ok (.sipush 200, 3) := by decide +kernel
theorem d_Mo_init_17 : decode prog_11_method_1_code 17 = .ok (.newarray .int, 2) := by decide +kernel
theorem d_Mo_init_19 : decode prog_11_method_1_code 19 = .ok (.putfield 13, 3) := by decide +kernel
theorem d_Mo_init_22 : decode prog_11_method_1_code 22 = .ok (.aload_n 0, 1) := by decide +kernel
theorem d_Mo_init_23 : decode prog_11_method_1_code 23 = .ok (.ldc 16, 2) := by decide +kernel
theorem d_Mo_init_25 : decode prog_11_method_1_code 25 = .ok (.newarray .int, 2) := by decide +kernel
theorem d_Mo_init_27 : decode prog_11_method_1_code 27 = .ok (.putfield 17, 3) := by decide +kernel
theorem d_Mo_init_30 : decode prog_11_method_1_code 30 = .ok (.aload_n 0, 1) := by decide +kernel
theorem d_Mo_init_31 : decode prog_11_method_1_code 31 = .ok (.sipush 400, 3) := by decide +kernel
theorem d_Mo_init_34 : decode prog_11_method_1_code 34 = .ok (.newarray .int, 2) := by decide +kernel
theorem d_Mo_init_36 : decode prog_11_method_1_code 36 = .ok (.putfield 20, 3) := by decide +kernel
theorem d_Mo_init_39 : decode prog_11_method_1_code 39 = .ok (.aload_n 0, 1) := by decide +kernel
theorem d_Mo_init_40 : decode prog_11_method_1_code 40 = .ok (.ldc 23, 2) := by decide +kernel
theorem d_Mo_init_42 : decode prog_11_method_1_code 42 = .ok (.newarray .int, 2) := by decide +kernel
theorem d_Mo_init_44 : decode prog_11_method_1_code 44 = .ok (.putfield 24, 3) := by decide +kernel
theorem d_Mo_init_47 : decode prog_11_method_1_code 47 = .ok (.aload_n 0, 1) := by decide +kernel
theorem d_Mo_init_48 : decode prog_11_method_1_code 48 = .ok (.bipush 9, 2) := by decide +kernel
theorem d_Mo_init_50 : decode prog_11_method_1_code 50 = .ok (.newarray .int, 2) := by decide +kernel
theorem d_Mo_init_52 : decode prog_11_method_1_code 52 = .ok (.putfield 27, 3) := by decide +kernel
theorem d_Mo_init_55 : decode prog_11_method_1_code 55 = .ok (.aload_n 0, 1) := by decide +kernel
theorem d_Mo_init_56 : decode prog_11_method_1_code 56 = .ok (.bipush 8, 2) := by decide +kernel
theorem d_Mo_init_58 : decode prog_11_method_1_code 58 = .ok (.newarray .int, 2) := by decide +kernel
theorem d_Mo_init_60 : decode prog_11_method_1_code 60 = .ok (.putfield 30, 3) := by decide +kernel
theorem d_Mo_init_63 : decode prog_11_method_1_code 63 = .ok (.aload_n 0, 1) := by decide +kernel
theorem d_Mo_init_64 : decode prog_11_method_1_code 64 = .ok (.sipush 128, 3) := by decide +kernel
theorem d_Mo_init_67 : decode prog_11_method_1_code 67 = .ok (.newarray .int, 2) := by decide +kernel
theorem d_Mo_init_69 : decode prog_11_method_1_code 69 = .ok (.putfield 33, 3) := by decide +kernel
theorem d_Mo_init_72 : decode prog_11_method_1_code 72 = .ok (.aload_n 0, 1) := by decide +kernel
theorem d_Mo_init_73 : decode prog_11_method_1_code 73 = .ok (.sipush 128, 3) := by decide +kernel
theorem d_Mo_init_76 : decode prog_11_method_1_code 76 = .ok (.newarray .int, 2) := by decide +kernel
theorem d_Mo_init_78 : decode prog_11_method_1_code 78 = .ok (.putfield 36, 3) := by decide +kernel
theorem d_Mo_init_81 : decode prog_11_method_1_code 81 = .ok (.aload_n 0, 1) := by decide +kernel
theorem d_Mo_init_82 : decode prog_11_method_1_code 82 = .ok (.bipush 12, 2) := by decide +kernel
theorem d_Mo_init_84 : decode prog_11_method_1_code 84 = .ok (.newarray .long, 2) := by decide +kernel
theorem d_Mo_init_86 : decode prog_11_method_1_code 86 = .ok (.putfield 39, 3) := by decide +kernel
theorem d_Mo_init_89 : decode prog_11_method_1_code 89 = .ok (.aload_n 0, 1) := by decide +kernel
theorem d_Mo_init_90 : decode prog_11_method_1_code 90 = .ok (.bipush 12, 2) := by decide +kernel
theorem d_Mo_init_92 : decode prog_11_method_1_code 92 = .ok (.newarray .long, 2) := by decide +kernel
theorem d_Mo_init_94 : decode prog_11_method_1_code 94 = .ok (.putfield 43, 3) := by decide +kernel
theorem d_Mo_init_97 : decode prog_11_method_1_code 97 = .ok (.aload_n 0, 1) := by decide +kernel
theorem d_Mo_init_98 : decode prog_11_method_1_code 98 = .ok (.bipush 12, 2) := by decide +kernel
theorem d_Mo_init_100 : decode prog_11_method_1_code 100 = .ok (.newarray .long, 2) := by decide +kernel
theorem d_Mo_init_102 : decode prog_11_method_1_code 102 = .ok (.putfield 46, 3) := by decide +kernel
theorem d_Mo_init_105 : decode prog_11_method_1_code 105 = .ok (.aload_n 0, 1) := by decide +kernel
theorem d_Mo_init_106 : decode prog_11_method_1_code 106 = .ok (.sipush 8600, 3) := by decide +kernel
theorem d_Mo_init_109 : decode prog_11_method_1_code 109 = .ok (.newarray .int, 2) := by decide +kernel
theorem d_Mo_init_111 : decode prog_11_method_1_code 111 = .ok (.putfield 49, 3) := by decide +kernel
theorem d_Mo_init_114 : decode prog_11_method_1_code 114 = .ok (.return_, 1) := by decide +kernel
theorem d_Mo_thrown_0 : decode prog_11_method_2_code 0 = .ok (.aload_n 0, 1) := by decide +kernel
theorem d_Mo_thrown_1 : decode prog_11_method_2_code 1 = .ok (.getfield 52, 3) := by decide +kernel
theorem d_Mo_thrown_4 : decode prog_11_method_2_code 4 = .ok (.ireturn, 1) := by decide +kernel
theorem d_Mo_limb_0 : decode prog_11_method_3_code 0 = .ok (.iload_n 2, 1) := by decide +kernel
theorem d_Mo_limb_1 : decode prog_11_method_3_code 1 = .ok (.aload_n 0, 1) := by decide +kernel
theorem d_Mo_limb_2 : decode prog_11_method_3_code 2 = .ok (.getfield 27, 3) := by decide +kernel
theorem d_Mo_limb_5 : decode prog_11_method_3_code 5 = .ok (.iload_n 1, 1) := by decide +kernel
theorem d_Mo_limb_6 : decode prog_11_method_3_code 6 = .ok (.iaload, 1) := by decide +kernel
theorem d_Mo_limb_7 : decode prog_11_method_3_code 7 = .ok (.if_icmp .ge 18, 3) := by decide +kernel
theorem d_Mo_limb_10 : decode prog_11_method_3_code 10 = .ok (.aload_n 0, 1) := by decide +kernel
theorem d_Mo_limb_11 : decode prog_11_method_3_code 11 = .ok (.getfield 24, 3) := by decide +kernel
theorem d_Mo_limb_14 : decode prog_11_method_3_code 14 = .ok (.sipush 4300, 3) := by decide +kernel
theorem d_Mo_limb_17 : decode prog_11_method_3_code 17 = .ok (.iload_n 1, 1) := by decide +kernel
theorem d_Mo_limb_18 : decode prog_11_method_3_code 18 = .ok (.imul, 1) := by decide +kernel
theorem d_Mo_limb_19 : decode prog_11_method_3_code 19 = .ok (.iload_n 2, 1) := by decide +kernel
theorem d_Mo_limb_20 : decode prog_11_method_3_code 20 = .ok (.iadd, 1) := by decide +kernel
theorem d_Mo_limb_21 : decode prog_11_method_3_code 21 = .ok (.iaload, 1) := by decide +kernel
theorem d_Mo_limb_22 : decode prog_11_method_3_code 22 = .ok (.goto 4, 3) := by decide +kernel
theorem d_Mo_limb_25 : decode prog_11_method_3_code 25 = .ok (.iconst 0, 1) := by decide +kernel
theorem d_Mo_limb_26 : decode prog_11_method_3_code 26 = .ok (.ireturn, 1) := by decide +kernel
theorem d_Mo_trim_0 : decode prog_11_method_4_code 0 = .ok (.aload_n 0, 1) := by decide +kernel
theorem d_Mo_trim_1 : decode prog_11_method_4_code 1 = .ok (.getfield 27, 3) := by decide +kernel
theorem d_Mo_trim_4 : decode prog_11_method_4_code 4 = .ok (.iload_n 1, 1) := by decide +kernel
theorem d_Mo_trim_5 : decode prog_11_method_4_code 5 = .ok (.iaload, 1) := by decide +kernel
theorem d_Mo_trim_6 : decode prog_11_method_4_code 6 = .ok (.ifCond .le 38, 3) := by decide +kernel
theorem d_Mo_trim_9 : decode prog_11_method_4_code 9 = .ok (.aload_n 0, 1) := by decide +kernel
theorem d_Mo_trim_10 : decode prog_11_method_4_code 10 = .ok (.getfield 24, 3) := by decide +kernel
theorem d_Mo_trim_13 : decode prog_11_method_4_code 13 = .ok (.sipush 4300, 3) := by decide +kernel
theorem d_Mo_trim_16 : decode prog_11_method_4_code 16 = .ok (.iload_n 1, 1) := by decide +kernel
theorem d_Mo_trim_17 : decode prog_11_method_4_code 17 = .ok (.imul, 1) := by decide +kernel
theorem d_Mo_trim_18 : decode prog_11_method_4_code 18 = .ok (.aload_n 0, 1) := by decide +kernel
theorem d_Mo_trim_19 : decode prog_11_method_4_code 19 = .ok (.getfield 27, 3) := by decide +kernel
theorem d_Mo_trim_22 : decode prog_11_method_4_code 22 = .ok (.iload_n 1, 1) := by decide +kernel
theorem d_Mo_trim_23 : decode prog_11_method_4_code 23 = .ok (.iaload, 1) := by decide +kernel
theorem d_Mo_trim_24 : decode prog_11_method_4_code 24 = .ok (.iadd, 1) := by decide +kernel
theorem d_Mo_trim_25 : decode prog_11_method_4_code 25 = .ok (.iconst 1, 1) := by decide +kernel
theorem d_Mo_trim_26 : decode prog_11_method_4_code 26 = .ok (.isub, 1) := by decide +kernel
theorem d_Mo_trim_27 : decode prog_11_method_4_code 27 = .ok (.iaload, 1) := by decide +kernel
theorem d_Mo_trim_28 : decode prog_11_method_4_code 28 = .ok (.ifCond .ne 16, 3) := by decide +kernel
theorem d_Mo_trim_31 : decode prog_11_method_4_code 31 = .ok (.aload_n 0, 1) := by decide +kernel
theorem d_Mo_trim_32 : decode prog_11_method_4_code 32 = .ok (.getfield 27, 3) := by decide +kernel
theorem d_Mo_trim_35 : decode prog_11_method_4_code 35 = .ok (.iload_n 1, 1) := by decide +kernel
theorem d_Mo_trim_36 : decode prog_11_method_4_code 36 = .ok (.dup2, 1) := by decide +kernel
theorem d_Mo_trim_37 : decode prog_11_method_4_code 37 = .ok (.iaload, 1) := by decide +kernel
theorem d_Mo_trim_38 : decode prog_11_method_4_code 38 = .ok (.iconst 1, 1) := by decide +kernel
theorem d_Mo_trim_39 : decode prog_11_method_4_code 39 = .ok (.isub, 1) := by decide +kernel
theorem d_Mo_trim_40 : decode prog_11_method_4_code 40 = .ok (.iastore, 1) := by decide +kernel
theorem d_Mo_trim_41 : decode prog_11_method_4_code 41 = .ok (.goto (-41), 3) := by decide +kernel
theorem d_Mo_trim_44 : decode prog_11_method_4_code 44 = .ok (.return_, 1) := by decide +kernel
theorem d_Mo_set_0 : decode prog_11_method_5_code 0 = .ok (.aload_n 0, 1) := by decide +kernel
theorem d_Mo_set_1 : decode prog_11_method_5_code 1 = .ok (.getfield 27, 3) := by decide +kernel
theorem d_Mo_set_4 : decode prog_11_method_5_code 4 = .ok (.iload_n 1, 1) := by decide +kernel
theorem d_Mo_set_5 : decode prog_11_method_5_code 5 = .ok (.iconst 0, 1) := by decide +kernel
theorem d_Mo_set_6 : decode prog_11_method_5_code 6 = .ok (.iastore, 1) := by decide +kernel
theorem d_Mo_set_7 : decode prog_11_method_5_code 7 = .ok (.lload_n 2, 1) := by decide +kernel
theorem d_Mo_set_8 : decode prog_11_method_5_code 8 = .ok (.lstore 4, 2) := by decide +kernel
theorem d_Mo_set_10 : decode prog_11_method_5_code 10 = .ok (.lload 4, 2) := by decide +kernel
theorem d_Mo_set_12 : decode prog_11_method_5_code 12 = .ok (.lconst 0, 1) := by decide +kernel
theorem d_Mo_set_13 : decode prog_11_method_5_code 13 = .ok (.lcmp, 1) := by decide +kernel
theorem d_Mo_set_14 : decode prog_11_method_5_code 14 = .ok (.ifCond .le 48, 3) := by decide +kernel
theorem d_Mo_set_17 : decode prog_11_method_5_code 17 = .ok (.aload_n 0, 1) := by decide +kernel
theorem d_Mo_set_18 : decode prog_11_method_5_code 18 = .ok (.getfield 24, 3) := by decide +kernel
theorem d_Mo_set_21 : decode prog_11_method_5_code 21 = .ok (.sipush 4300, 3) := by decide +kernel
theorem d_Mo_set_24 : decode prog_11_method_5_code 24 = .ok (.iload_n 1, 1) := by decide +kernel
theorem d_Mo_set_25 : decode prog_11_method_5_code 25 = .ok (.imul, 1) := by decide +kernel
theorem d_Mo_set_26 : decode prog_11_method_5_code 26 = .ok (.aload_n 0, 1) := by decide +kernel
theorem d_Mo_set_27 : decode prog_11_method_5_code 27 = .ok (.getfield 27, 3) := by decide +kernel
theorem d_Mo_set_30 : decode prog_11_method_5_code 30 = .ok (.iload_n 1, 1) := by decide +kernel
theorem d_Mo_set_31 : decode prog_11_method_5_code 31 = .ok (.iaload, 1) := by decide +kernel
theorem d_Mo_set_32 : decode prog_11_method_5_code 32 = .ok (.iadd, 1) := by decide +kernel
theorem d_Mo_set_33 : decode prog_11_method_5_code 33 = .ok (.lload 4, 2) := by decide +kernel
theorem d_Mo_set_35 : decode prog_11_method_5_code 35 = .ok (.ldc2_w 56, 3) := by decide +kernel
theorem d_Mo_set_38 : decode prog_11_method_5_code 38 = .ok (.lrem, 1) := by decide +kernel
theorem d_Mo_set_39 : decode prog_11_method_5_code 39 = .ok (.l2i, 1) := by decide +kernel
theorem d_Mo_set_40 : decode prog_11_method_5_code 40 = .ok (.iastore, 1) := by decide +kernel
theorem d_Mo_set_41 : decode prog_11_method_5_code 41 = .ok (.aload_n 0, 1) := by decide +kernel
theorem d_Mo_set_42 : decode prog_11_method_5_code 42 = .ok (.getfield 27, 3) := by decide +kernel
theorem d_Mo_set_45 : decode prog_11_method_5_code 45 = .ok (.iload_n 1, 1) := by decide +kernel
theorem d_Mo_set_46 : decode prog_11_method_5_code 46 = .ok (.dup2, 1) := by decide +kernel
theorem d_Mo_set_47 : decode prog_11_method_5_code 47 = .ok (.iaload, 1) := by decide +kernel
theorem d_Mo_set_48 : decode prog_11_method_5_code 48 = .ok (.iconst 1, 1) := by decide +kernel
theorem d_Mo_set_49 : decode prog_11_method_5_code 49 = .ok (.iadd, 1) := by decide +kernel
theorem d_Mo_set_50 : decode prog_11_method_5_code 50 = .ok (.iastore, 1) := by decide +kernel
theorem d_Mo_set_51 : decode prog_11_method_5_code 51 = .ok (.lload 4, 2) := by decide +kernel
theorem d_Mo_set_53 : decode prog_11_method_5_code 53 = .ok (.ldc2_w 56, 3) := by decide +kernel
theorem d_Mo_set_56 : decode prog_11_method_5_code 56 = .ok (.ldiv, 1) := by decide +kernel
theorem d_Mo_set_57 : decode prog_11_method_5_code 57 = .ok (.lstore 4, 2) := by decide +kernel
theorem d_Mo_set_59 : decode prog_11_method_5_code 59 = .ok (.goto (-49), 3) := by decide +kernel
theorem d_Mo_set_62 : decode prog_11_method_5_code 62 = .ok (.return_, 1) := by decide +kernel
theorem d_Mo_copy_0 : decode prog_11_method_6_code 0 = .ok (.iconst 0, 1) := by decide +kernel
theorem d_Mo_copy_1 : decode prog_11_method_6_code 1 = .ok (.istore_n 3, 1) := by decide +kernel
theorem d_Mo_copy_2 : decode prog_11_method_6_code 2 = .ok (.iload_n 3, 1) := by decide +kernel
theorem d_Mo_copy_3 : decode prog_11_method_6_code 3 = .ok (.aload_n 0, 1) := by decide +kernel
theorem d_Mo_copy_4 : decode prog_11_method_6_code 4 = .ok (.getfield 27, 3) := by decide +kernel
theorem d_Mo_copy_7 : decode prog_11_method_6_code 7 = .ok (.iload_n 2, 1) := by decide +kernel
theorem d_Mo_copy_8 : decode prog_11_method_6_code 8 = .ok (.iaload, 1) := by decide +kernel
theorem d_Mo_copy_9 : decode prog_11_method_6_code 9 = .ok (.if_icmp .ge 33, 3) := by decide +kernel
theorem d_Mo_copy_12 : decode prog_11_method_6_code 12 = .ok (.aload_n 0, 1) := by decide +kernel
theorem d_Mo_copy_13 : decode prog_11_method_6_code 13 = .ok (.getfield 24, 3) := by decide +kernel
theorem d_Mo_copy_16 : decode prog_11_method_6_code 16 = .ok (.sipush 4300, 3) := by decide +kernel
theorem d_Mo_copy_19 : decode prog_11_method_6_code 19 = .ok (.iload_n 1, 1) := by decide +kernel
theorem d_Mo_copy_20 : decode prog_11_method_6_code 20 = .ok (.imul, 1) := by decide +kernel
theorem d_Mo_copy_21 : decode prog_11_method_6_code 21 = .ok (.iload_n 3, 1) := by decide +kernel
theorem d_Mo_copy_22 : decode prog_11_method_6_code 22 = .ok (.iadd, 1) := by decide +kernel
theorem d_Mo_copy_23 : decode prog_11_method_6_code 23 = .ok (.aload_n 0, 1) := by decide +kernel
theorem d_Mo_copy_24 : decode prog_11_method_6_code 24 = .ok (.getfield 24, 3) := by decide +kernel
theorem d_Mo_copy_27 : decode prog_11_method_6_code 27 = .ok (.sipush 4300, 3) := by decide +kernel
theorem d_Mo_copy_30 : decode prog_11_method_6_code 30 = .ok (.iload_n 2, 1) := by decide +kernel
theorem d_Mo_copy_31 : decode prog_11_method_6_code 31 = .ok (.imul, 1) := by decide +kernel
theorem d_Mo_copy_32 : decode prog_11_method_6_code 32 = .ok (.iload_n 3, 1) := by decide +kernel
theorem d_Mo_copy_33 : decode prog_11_method_6_code 33 = .ok (.iadd, 1) := by decide +kernel
theorem d_Mo_copy_34 : decode prog_11_method_6_code 34 = .ok (.iaload, 1) := by decide +kernel
theorem d_Mo_copy_35 : decode prog_11_method_6_code 35 = .ok (.iastore, 1) := by decide +kernel
theorem d_Mo_copy_36 : decode prog_11_method_6_code 36 = .ok (.iinc 3 1, 3) := by decide +kernel
theorem d_Mo_copy_39 : decode prog_11_method_6_code 39 = .ok (.goto (-37), 3) := by decide +kernel
theorem d_Mo_copy_42 : decode prog_11_method_6_code 42 = .ok (.aload_n 0, 1) := by decide +kernel
theorem d_Mo_copy_43 : decode prog_11_method_6_code 43 = .ok (.getfield 27, 3) := by decide +kernel
theorem d_Mo_copy_46 : decode prog_11_method_6_code 46 = .ok (.iload_n 1, 1) := by decide +kernel
theorem d_Mo_copy_47 : decode prog_11_method_6_code 47 = .ok (.aload_n 0, 1) := by decide +kernel
theorem d_Mo_copy_48 : decode prog_11_method_6_code 48 = .ok (.getfield 27, 3) := by decide +kernel
theorem d_Mo_copy_51 : decode prog_11_method_6_code 51 = .ok (.iload_n 2, 1) := by decide +kernel
theorem d_Mo_copy_52 : decode prog_11_method_6_code 52 = .ok (.iaload, 1) := by decide +kernel
theorem d_Mo_copy_53 : decode prog_11_method_6_code 53 = .ok (.iastore, 1) := by decide +kernel
theorem d_Mo_copy_54 : decode prog_11_method_6_code 54 = .ok (.return_, 1) := by decide +kernel
theorem d_Mo_compare_0 : decode prog_11_method_7_code 0 = .ok (.aload_n 0, 1) := by decide +kernel
theorem d_Mo_compare_1 : decode prog_11_method_7_code 1 = .ok (.getfield 27, 3) := by decide +kernel
theorem d_Mo_compare_4 : decode prog_11_method_7_code 4 = .ok (.iload_n 1, 1) := by decide +kernel
theorem d_Mo_compare_5 : decode prog_11_method_7_code 5 = .ok (.iaload, 1) := by decide +kernel
theorem d_Mo_compare_6 : decode prog_11_method_7_code 6 = .ok (.aload_n 0, 1) := by decide +kernel
theorem d_Mo_compare_7 : decode prog_11_method_7_code 7 = .ok (.getfield 27, 3) := by decide +kernel
theorem d_Mo_compare_10 : decode prog_11_method_7_code 10 = .ok (.iload_n 2, 1) := by decide +kernel
theorem d_Mo_compare_11 : decode prog_11_method_7_code 11 = .ok (.iaload, 1) := by decide +kernel
theorem d_Mo_compare_12 : decode prog_11_method_7_code 12 = .ok (.if_icmp .eq 24, 3) := by decide +kernel
theorem d_Mo_compare_15 : decode prog_11_method_7_code 15 = .ok (.aload_n 0, 1) := by decide +kernel
theorem d_Mo_compare_16 : decode prog_11_method_7_code 16 = .ok (.getfield 27, 3) := by decide +kernel
theorem d_Mo_compare_19 : decode prog_11_method_7_code 19 = .ok (.iload_n 1, 1) := by decide +kernel
theorem d_Mo_compare_20 : decode prog_11_method_7_code 20 = .ok (.iaload, 1) := by decide +kernel
theorem d_Mo_compare_21 : decode prog_11_method_7_code 21 = .ok (.aload_n 0, 1) := by decide +kernel
theorem d_Mo_compare_22 : decode prog_11_method_7_code 22 = .ok (.getfield 27, 3) := by decide +kernel
theorem d_Mo_compare_25 : decode prog_11_method_7_code 25 = .ok (.iload_n 2, 1) := by decide +kernel
theorem d_Mo_compare_26 : decode prog_11_method_7_code 26 = .ok (.iaload, 1) := by decide +kernel
theorem d_Mo_compare_27 : decode prog_11_method_7_code 27 = .ok (.if_icmp .ge 7, 3) := by decide +kernel
theorem d_Mo_compare_30 : decode prog_11_method_7_code 30 = .ok (.iconst (-1), 1) := by decide +kernel
theorem d_Mo_compare_31 : decode prog_11_method_7_code 31 = .ok (.goto 4, 3) := by decide +kernel
theorem d_Mo_compare_34 : decode prog_11_method_7_code 34 = .ok (.iconst 1, 1) := by decide +kernel
theorem d_Mo_compare_35 : decode prog_11_method_7_code 35 = .ok (.ireturn, 1) := by decide +kernel
theorem d_Mo_compare_36 : decode prog_11_method_7_code 36 = .ok (.aload_n 0, 1) := by decide +kernel
theorem d_Mo_compare_37 : decode prog_11_method_7_code 37 = .ok (.getfield 27, 3) := by decide +kernel
theorem d_Mo_compare_40 : decode prog_11_method_7_code 40 = .ok (.iload_n 1, 1) := by decide +kernel
theorem d_Mo_compare_41 : decode prog_11_method_7_code 41 = .ok (.iaload, 1) := by decide +kernel
theorem d_Mo_compare_42 : decode prog_11_method_7_code 42 = .ok (.iconst 1, 1) := by decide +kernel
theorem d_Mo_compare_43 : decode prog_11_method_7_code 43 = .ok (.isub, 1) := by decide +kernel
theorem d_Mo_compare_44 : decode prog_11_method_7_code 44 = .ok (.istore_n 3, 1) := by decide +kernel
theorem d_Mo_compare_45 : decode prog_11_method_7_code 45 = .ok (.iload_n 3, 1) := by decide +kernel
theorem d_Mo_compare_46 : decode prog_11_method_7_code 46 = .ok (.ifCond .lt 36, 3) := by decide +kernel
theorem d_Mo_compare_49 : decode prog_11_method_7_code 49 = .ok (.aload_n 0, 1) := by decide +kernel
theorem d_Mo_compare_50 : decode prog_11_method_7_code 50 = .ok (.getfield 24, 3) := by decide +kernel
theorem d_Mo_compare_53 : decode prog_11_method_7_code 53 = .ok (.sipush 4300, 3) := by decide +kernel
theorem d_Mo_compare_56 : decode prog_11_method_7_code 56 = .ok (.iload_n 1, 1) := by decide +kernel
theorem d_Mo_compare_57 : decode prog_11_method_7_code 57 = .ok (.imul, 1) := by decide +kernel
theorem d_Mo_compare_58 : decode prog_11_method_7_code 58 = .ok (.iload_n 3, 1) := by decide +kernel
theorem d_Mo_compare_59 : decode prog_11_method_7_code 59 = .ok (.iadd, 1) := by decide +kernel
theorem d_Mo_compare_60 : decode prog_11_method_7_code 60 = .ok (.iaload, 1) := by decide +kernel
theorem d_Mo_compare_61 : decode prog_11_method_7_code 61 = .ok (.aload_n 0, 1) := by decide +kernel
theorem d_Mo_compare_62 : decode prog_11_method_7_code 62 = .ok (.getfield 24, 3) := by decide +kernel
theorem d_Mo_compare_65 : decode prog_11_method_7_code 65 = .ok (.sipush 4300, 3) := by decide +kernel
theorem d_Mo_compare_68 : decode prog_11_method_7_code 68 = .ok (.iload_n 2, 1) := by decide +kernel
theorem d_Mo_compare_69 : decode prog_11_method_7_code 69 = .ok (.imul, 1) := by decide +kernel
theorem d_Mo_compare_70 : decode prog_11_method_7_code 70 = .ok (.iload_n 3, 1) := by decide +kernel
theorem d_Mo_compare_71 : decode prog_11_method_7_code 71 = .ok (.iadd, 1) := by decide +kernel
theorem d_Mo_compare_72 : decode prog_11_method_7_code 72 = .ok (.iaload, 1) := by decide +kernel
theorem d_Mo_compare_73 : decode prog_11_method_7_code 73 = .ok (.if_icmp .ne 9, 3) := by decide +kernel
theorem d_Mo_compare_76 : decode prog_11_method_7_code 76 = .ok (.iinc 3 (-1), 3) := by decide +kernel
theorem d_Mo_compare_79 : decode prog_11_method_7_code 79 = .ok (.goto (-34), 3) := by decide +kernel
theorem d_Mo_compare_82 : decode prog_11_method_7_code 82 = .ok (.iload_n 3, 1) := by decide +kernel
theorem d_Mo_compare_83 : decode prog_11_method_7_code 83 = .ok (.ifCond .ge 7, 3) := by decide +kernel
theorem d_Mo_compare_86 : decode prog_11_method_7_code 86 = .ok (.iconst 0, 1) := by decide +kernel
theorem d_Mo_compare_87 : decode prog_11_method_7_code 87 = .ok (.goto 35, 3) := by decide +kernel
theorem d_Mo_compare_90 : decode prog_11_method_7_code 90 = .ok (.aload_n 0, 1) := by decide +kernel
theorem d_Mo_compare_91 : decode prog_11_method_7_code 91 = .ok (.getfield 24, 3) := by decide +kernel
theorem d_Mo_compare_94 : decode prog_11_method_7_code 94 = .ok (.sipush 4300, 3) := by decide +kernel
theorem d_Mo_compare_97 : decode prog_11_method_7_code 97 = .ok (.iload_n 1, 1) := by decide +kernel
theorem d_Mo_compare_98 : decode prog_11_method_7_code 98 = .ok (.imul, 1) := by decide +kernel
theorem d_Mo_compare_99 : decode prog_11_method_7_code 99 = .ok (.iload_n 3, 1) := by decide +kernel
theorem d_Mo_compare_100 : decode prog_11_method_7_code 100 = .ok (.iadd, 1) := by decide +kernel
theorem d_Mo_compare_101 : decode prog_11_method_7_code 101 = .ok (.iaload, 1) := by decide +kernel
theorem d_Mo_compare_102 : decode prog_11_method_7_code 102 = .ok (.aload_n 0, 1) := by decide +kernel
theorem d_Mo_compare_103 : decode prog_11_method_7_code 103 = .ok (.getfield 24, 3) := by decide +kernel
theorem d_Mo_compare_106 : decode prog_11_method_7_code 106 = .ok (.sipush 4300, 3) := by decide +kernel
theorem d_Mo_compare_109 : decode prog_11_method_7_code 109 = .ok (.iload_n 2, 1) := by decide +kernel
theorem d_Mo_compare_110 : decode prog_11_method_7_code 110 = .ok (.imul, 1) := by decide +kernel
theorem d_Mo_compare_111 : decode prog_11_method_7_code 111 = .ok (.iload_n 3, 1) := by decide +kernel
theorem d_Mo_compare_112 : decode prog_11_method_7_code 112 = .ok (.iadd, 1) := by decide +kernel
theorem d_Mo_compare_113 : decode prog_11_method_7_code 113 = .ok (.iaload, 1) := by decide +kernel
theorem d_Mo_compare_114 : decode prog_11_method_7_code 114 = .ok (.if_icmp .ge 7, 3) := by decide +kernel
theorem d_Mo_compare_117 : decode prog_11_method_7_code 117 = .ok (.iconst (-1), 1) := by decide +kernel
theorem d_Mo_compare_118 : decode prog_11_method_7_code 118 = .ok (.goto 4, 3) := by decide +kernel
theorem d_Mo_compare_121 : decode prog_11_method_7_code 121 = .ok (.iconst 1, 1) := by decide +kernel
theorem d_Mo_compare_122 : decode prog_11_method_7_code 122 = .ok (.ireturn, 1) := by decide +kernel
theorem d_Mo_plus_0 : decode prog_11_method_8_code 0 = .ok (.aload_n 0, 1) := by decide +kernel
theorem d_Mo_plus_1 : decode prog_11_method_8_code 1 = .ok (.getfield 27, 3) := by decide +kernel
theorem d_Mo_plus_4 : decode prog_11_method_8_code 4 = .ok (.iload_n 1, 1) := by decide +kernel
theorem d_Mo_plus_5 : decode prog_11_method_8_code 5 = .ok (.iaload, 1) := by decide +kernel
theorem d_Mo_plus_6 : decode prog_11_method_8_code 6 = .ok (.aload_n 0, 1) := by decide +kernel
theorem d_Mo_plus_7 : decode prog_11_method_8_code 7 = .ok (.getfield 27, 3) := by decide +kernel
theorem d_Mo_plus_10 : decode prog_11_method_8_code 10 = .ok (.iload_n 2, 1) := by decide +kernel
theorem d_Mo_plus_11 : decode prog_11_method_8_code 11 = .ok (.iaload, 1) := by decide +kernel
theorem d_Mo_plus_12 : decode prog_11_method_8_code 12 = .ok (.if_icmp .le 12, 3) := by decide +kernel
theorem d_Mo_plus_15 : decode prog_11_method_8_code 15 = .ok (.aload_n 0, 1) := by decide +kernel
theorem d_Mo_plus_16 : decode prog_11_method_8_code 16 = .ok (.getfield 27, 3) := by decide +kernel
theorem d_Mo_plus_19 : decode prog_11_method_8_code 19 = .ok (.iload_n 1, 1) := by decide +kernel
theorem d_Mo_plus_20 : decode prog_11_method_8_code 20 = .ok (.iaload, 1) := by decide +kernel
theorem d_Mo_plus_21 : decode prog_11_method_8_code 21 = .ok (.goto 9, 3) := by decide +kernel
theorem d_Mo_plus_24 : decode prog_11_method_8_code 24 = .ok (.aload_n 0, 1) := by decide +kernel
theorem d_Mo_plus_25 : decode prog_11_method_8_code 25 = .ok (.getfield 27, 3) := by decide +kernel
theorem d_Mo_plus_28 : decode prog_11_method_8_code 28 = .ok (.iload_n 2, 1) := by decide +kernel
theorem d_Mo_plus_29 : decode prog_11_method_8_code 29 = .ok (.iaload, 1) := by decide +kernel
theorem d_Mo_plus_30 : decode prog_11_method_8_code 30 = .ok (.istore_n 3, 1) := by decide +kernel
theorem d_Mo_plus_31 : decode prog_11_method_8_code 31 = .ok (.iconst 0, 1) := by decide +kernel
theorem d_Mo_plus_32 : decode prog_11_method_8_code 32 = .ok (.istore 4, 2) := by decide +kernel
theorem d_Mo_plus_34 : decode prog_11_method_8_code 34 = .ok (.iconst 0, 1) := by decide +kernel
theorem d_Mo_plus_35 : decode prog_11_method_8_code 35 = .ok (.istore 5, 2) := by decide +kernel
theorem d_Mo_plus_37 : decode prog_11_method_8_code 37 = .ok (.iload 5, 2) := by decide +kernel
theorem d_Mo_plus_39 : decode prog_11_method_8_code 39 = .ok (.iload_n 3, 1) := by decide +kernel
theorem d_Mo_plus_40 : decode prog_11_method_8_code 40 = .ok (.if_icmp .ge 72, 3) := by decide +kernel
theorem d_Mo_plus_43 : decode prog_11_method_8_code 43 = .ok (.aload_n 0, 1) := by decide +kernel
theorem d_Mo_plus_44 : decode prog_11_method_8_code 44 = .ok (.iload_n 1, 1) := by decide +kernel
theorem d_Mo_plus_45 : decode prog_11_method_8_code 45 = .ok (.iload 5, 2) := by decide +kernel
theorem d_Mo_plus_47 : decode prog_11_method_8_code 47 = .ok (.invokevirtual 58, 3) := by decide +kernel
theorem d_Mo_plus_50 : decode prog_11_method_8_code 50 = .ok (.aload_n 0, 1) := by decide +kernel
theorem d_Mo_plus_51 : decode prog_11_method_8_code 51 = .ok (.iload_n 2, 1) := by decide +kernel
theorem d_Mo_plus_52 : decode prog_11_method_8_code 52 = .ok (.iload 5, 2) := by decide +kernel
theorem d_Mo_plus_54 : decode prog_11_method_8_code 54 = .ok (.invokevirtual 58, 3) := by decide +kernel
theorem d_Mo_plus_57 : decode prog_11_method_8_code 57 = .ok (.iadd, 1) := by decide +kernel
theorem d_Mo_plus_58 : decode prog_11_method_8_code 58 = .ok (.iload 4, 2) := by decide +kernel
theorem d_Mo_plus_60 : decode prog_11_method_8_code 60 = .ok (.iadd, 1) := by decide +kernel
theorem d_Mo_plus_61 : decode prog_11_method_8_code 61 = .ok (.ldc 62, 2) := by decide +kernel
theorem d_Mo_plus_63 : decode prog_11_method_8_code 63 = .ok (.isub, 1) := by decide +kernel
theorem d_Mo_plus_64 : decode prog_11_method_8_code 64 = .ok (.istore 6, 2) := by decide +kernel
theorem d_Mo_plus_66 : decode prog_11_method_8_code 66 = .ok (.iload 6, 2) := by decide +kernel
theorem d_Mo_plus_68 : decode prog_11_method_8_code 68 = .ok (.ifCond .lt 7, 3) := by decide +kernel
theorem d_Mo_plus_71 : decode prog_11_method_8_code 71 = .ok (.iconst 1, 1) := by decide +kernel
theorem d_Mo_plus_72 : decode prog_11_method_8_code 72 = .ok (.goto 4, 3) := by decide +kernel
theorem d_Mo_plus_75 : decode prog_11_method_8_code 75 = .ok (.iconst 0, 1) := by decide +kernel
theorem d_Mo_plus_76 : decode prog_11_method_8_code 76 = .ok (.istore 4, 2) := by decide +kernel
theorem d_Mo_plus_78 : decode prog_11_method_8_code 78 = .ok (.aload_n 0, 1) := by decide +kernel
theorem d_Mo_plus_79 : decode prog_11_method_8_code 79 = .ok (.getfield 24, 3) := by decide +kernel
theorem d_Mo_plus_82 : decode prog_11_method_8_code 82 = .ok (.sipush 4300, 3) := by decide +kernel
theorem d_Mo_plus_85 : decode prog_11_method_8_code 85 = .ok (.iload_n 1, 1) := by decide +kernel
theorem d_Mo_plus_86 : decode prog_11_method_8_code 86 = .ok (.imul, 1) := by decide +kernel
theorem d_Mo_plus_87 : decode prog_11_method_8_code 87 = .ok (.iload 5, 2) := by decide +kernel
theorem d_Mo_plus_89 : decode prog_11_method_8_code 89 = .ok (.iadd, 1) := by decide +kernel
theorem d_Mo_plus_90 : decode prog_11_method_8_code 90 = .ok (.iload 6, 2) := by decide +kernel
theorem d_Mo_plus_92 : decode prog_11_method_8_code 92 = .ok (.ifCond .lt 8, 3) := by decide +kernel
theorem d_Mo_plus_95 : decode prog_11_method_8_code 95 = .ok (.iload 6, 2) := by decide +kernel
theorem d_Mo_plus_97 : decode prog_11_method_8_code 97 = .ok (.goto 8, 3) := by decide +kernel
theorem d_Mo_plus_100 : decode prog_11_method_8_code 100 = .ok (.iload 6, 2) := by decide +kernel
theorem d_Mo_plus_102 : decode prog_11_method_8_code 102 = .ok (.ldc 62, 2) := by decide +kernel
theorem d_Mo_plus_104 : decode prog_11_method_8_code 104 = .ok (.iadd, 1) := by decide +kernel
theorem d_Mo_plus_105 : decode prog_11_method_8_code 105 = .ok (.iastore, 1) := by decide +kernel
theorem d_Mo_plus_106 : decode prog_11_method_8_code 106 = .ok (.iinc 5 1, 3) := by decide +kernel
theorem d_Mo_plus_109 : decode prog_11_method_8_code 109 = .ok (.goto (-72), 3) := by decide +kernel
theorem d_Mo_plus_112 : decode prog_11_method_8_code 112 = .ok (.aload_n 0, 1) := by decide +kernel
theorem d_Mo_plus_113 : decode prog_11_method_8_code 113 = .ok (.getfield 27, 3) := by decide +kernel
theorem d_Mo_plus_116 : decode prog_11_method_8_code 116 = .ok (.iload_n 1, 1) := by decide +kernel
theorem d_Mo_plus_117 : decode prog_11_method_8_code 117 = .ok (.iload_n 3, 1) := by decide +kernel
theorem d_Mo_plus_118 : decode prog_11_method_8_code 118 = .ok (.iastore, 1) := by decide +kernel
theorem d_Mo_plus_119 : decode prog_11_method_8_code 119 = .ok (.iload 4, 2) := by decide +kernel
theorem d_Mo_plus_121 : decode prog_11_method_8_code 121 = .ok (.ifCond .le 26, 3) := by decide +kernel
theorem d_Mo_plus_124 : decode prog_11_method_8_code 124 = .ok (.aload_n 0, 1) := by decide +kernel
theorem d_Mo_plus_125 : decode prog_11_method_8_code 125 = .ok (.getfield 24, 3) := by decide +kernel
theorem d_Mo_plus_128 : decode prog_11_method_8_code 128 = .ok (.sipush 4300, 3) := by decide +kernel
theorem d_Mo_plus_131 : decode prog_11_method_8_code 131 = .ok (.iload_n 1, 1) := by decide +kernel
theorem d_Mo_plus_132 : decode prog_11_method_8_code 132 = .ok (.imul, 1) := by decide +kernel
theorem d_Mo_plus_133 : decode prog_11_method_8_code 133 = .ok (.iload_n 3, 1) := by decide +kernel
theorem d_Mo_plus_134 : decode prog_11_method_8_code 134 = .ok (.iadd, 1) := by decide +kernel
theorem d_Mo_plus_135 : decode prog_11_method_8_code 135 = .ok (.iconst 1, 1) := by decide +kernel
theorem d_Mo_plus_136 : decode prog_11_method_8_code 136 = .ok (.iastore, 1) := by decide +kernel
theorem d_Mo_plus_137 : decode prog_11_method_8_code 137 = .ok (.aload_n 0, 1) := by decide +kernel
theorem d_Mo_plus_138 : decode prog_11_method_8_code 138 = .ok (.getfield 27, 3) := by decide +kernel
theorem d_Mo_plus_141 : decode prog_11_method_8_code 141 = .ok (.iload_n 1, 1) := by decide +kernel
theorem d_Mo_plus_142 : decode prog_11_method_8_code 142 = .ok (.dup2, 1) := by decide +kernel
theorem d_Mo_plus_143 : decode prog_11_method_8_code 143 = .ok (.iaload, 1) := by decide +kernel
theorem d_Mo_plus_144 : decode prog_11_method_8_code 144 = .ok (.iconst 1, 1) := by decide +kernel
theorem d_Mo_plus_145 : decode prog_11_method_8_code 145 = .ok (.iadd, 1) := by decide +kernel
theorem d_Mo_plus_146 : decode prog_11_method_8_code 146 = .ok (.iastore, 1) := by decide +kernel
theorem d_Mo_plus_147 : decode prog_11_method_8_code 147 = .ok (.return_, 1) := by decide +kernel
theorem d_Mo_subtract_0 : decode prog_11_method_9_code 0 = .ok (.iconst 0, 1) := by decide +kernel
theorem d_Mo_subtract_1 : decode prog_11_method_9_code 1 = .ok (.istore_n 3, 1) := by decide +kernel
theorem d_Mo_subtract_2 : decode prog_11_method_9_code 2 = .ok (.iconst 0, 1) := by decide +kernel
theorem d_Mo_subtract_3 : decode prog_11_method_9_code 3 = .ok (.istore 4, 2) := by decide +kernel
theorem d_Mo_subtract_5 : decode prog_11_method_9_code 5 = .ok (.iload 4, 2) := by decide +kernel
theorem d_Mo_subtract_7 : decode prog_11_method_9_code 7 = .ok (.aload_n 0, 1) := by decide +kernel
theorem d_Mo_subtract_8 : decode prog_11_method_9_code 8 = .ok (.getfield 27, 3) := by decide +kernel
theorem d_Mo_subtract_11 : decode prog_11_method_9_code 11 = .ok (.iload_n 1, 1) := by decide +kernel
theorem d_Mo_subtract_12 : decode prog_11_method_9_code 12 = .ok (.iaload, 1) := by decide +kernel
theorem d_Mo_subtract_13 : decode prog_11_method_9_code 13 = .ok (.if_icmp .ge 73, 3) := by decide +kernel
theorem d_Mo_subtract_16 : decode prog_11_method_9_code 16 = .ok (.aload_n 0, 1) := by decide +kernel
theorem d_Mo_subtract_17 : decode prog_11_method_9_code 17 = .ok (.getfield 24, 3) := by decide +kernel
theorem d_Mo_subtract_20 : decode prog_11_method_9_code 20 = .ok (.sipush 4300, 3) := by decide +kernel
theorem d_Mo_subtract_23 : decode prog_11_method_9_code 23 = .ok (.iload_n 1, 1) := by decide +kernel
theorem d_Mo_subtract_24 : decode prog_11_method_9_code 24 = .ok (.imul, 1) := by decide +kernel
theorem d_Mo_subtract_25 : decode prog_11_method_9_code 25 = .ok (.iload 4, 2) := by decide +kernel
theorem d_Mo_subtract_27 : decode prog_11_method_9_code 27 = .ok (.iadd, 1) := by decide +kernel
theorem d_Mo_subtract_28 : decode prog_11_method_9_code 28 = .ok (.iaload, 1) := by decide +kernel
theorem d_Mo_subtract_29 : decode prog_11_method_9_code 29 = .ok (.aload_n 0, 1) := by decide +kernel
theorem d_Mo_subtract_30 : decode prog_11_method_9_code 30 = .ok (.iload_n 2, 1) := by decide +kernel
theorem d_Mo_subtract_31 : decode prog_11_method_9_code 31 = .ok (.iload 4, 2) := by decide +kernel
theorem d_Mo_subtract_33 : decode prog_11_method_9_code 33 = .ok (.invokevirtual 58, 3) := by decide +kernel
theorem d_Mo_subtract_36 : decode prog_11_method_9_code 36 = .ok (.isub, 1) := by decide +kernel
theorem d_Mo_subtract_37 : decode prog_11_method_9_code 37 = .ok (.iload_n 3, 1) := by decide +kernel
theorem d_Mo_subtract_38 : decode prog_11_method_9_code 38 = .ok (.isub, 1) := by decide +kernel
theorem d_Mo_subtract_39 : decode prog_11_method_9_code 39 = .ok (.istore 5, 2) := by decide +kernel
theorem d_Mo_subtract_41 : decode prog_11_method_9_code 41 = .ok (.iload 5, 2) := by decide +kernel
theorem d_Mo_subtract_43 : decode prog_11_method_9_code 43 = .ok (.ifCond .ge 7, 3) := by decide +kernel
theorem d_Mo_subtract_46 : decode prog_11_method_9_code 46 = .ok (.iconst 1, 1) := by decide +kernel
theorem d_Mo_subtract_47 : decode prog_11_method_9_code 47 = .ok (.goto 4, 3) := by decide +kernel
theorem d_Mo_subtract_50 : decode prog_11_method_9_code 50 = .ok (.iconst 0, 1) := by decide +kernel
theorem d_Mo_subtract_51 : decode prog_11_method_9_code 51 = .ok (.istore_n 3, 1) := by decide +kernel
theorem d_Mo_subtract_52 : decode prog_11_method_9_code 52 = .ok (.aload_n 0, 1) := by decide +kernel
theorem d_Mo_subtract_53 : decode prog_11_method_9_code 53 = .ok (.getfield 24, 3) := by decide +kernel
theorem d_Mo_subtract_56 : decode prog_11_method_9_code 56 = .ok (.sipush 4300, 3) := by decide +kernel
theorem d_Mo_subtract_59 : decode prog_11_method_9_code 59 = .ok (.iload_n 1, 1) := by decide +kernel
theorem d_Mo_subtract_60 : decode prog_11_method_9_code 60 = .ok (.imul, 1) := by decide +kernel
theorem d_Mo_subtract_61 : decode prog_11_method_9_code 61 = .ok (.iload 4, 2) := by decide +kernel
theorem d_Mo_subtract_63 : decode prog_11_method_9_code 63 = .ok (.iadd, 1) := by decide +kernel
theorem d_Mo_subtract_64 : decode prog_11_method_9_code 64 = .ok (.iload 5, 2) := by decide +kernel
theorem d_Mo_subtract_66 : decode prog_11_method_9_code 66 = .ok (.ifCond .ge 11, 3) := by decide +kernel
theorem d_Mo_subtract_69 : decode prog_11_method_9_code 69 = .ok (.iload 5, 2) := by decide +kernel
theorem d_Mo_subtract_71 : decode prog_11_method_9_code 71 = .ok (.ldc 62, 2) := by decide +kernel
theorem d_Mo_subtract_73 : decode prog_11_method_9_code 73 = .ok (.iadd, 1) := by decide +kernel
theorem d_Mo_subtract_74 : decode prog_11_method_9_code 74 = .ok (.goto 5, 3) := by decide +kernel
theorem d_Mo_subtract_77 : decode prog_11_method_9_code 77 = .ok (.iload 5, 2) := by decide +kernel
theorem d_Mo_subtract_79 : decode prog_11_method_9_code 79 = .ok (.iastore, 1) := by decide +kernel
theorem d_Mo_subtract_80 : decode prog_11_method_9_code 80 = .ok (.iinc 4 1, 3) := by decide +kernel
theorem d_Mo_subtract_83 : decode prog_11_method_9_code 83 = .ok (.goto (-78), 3) := by decide +kernel
theorem d_Mo_subtract_86 : decode prog_11_method_9_code 86 = .ok (.aload_n 0, 1) := by decide +kernel
theorem d_Mo_subtract_87 : decode prog_11_method_9_code 87 = .ok (.iload_n 1, 1) := by decide +kernel
theorem d_Mo_subtract_88 : decode prog_11_method_9_code 88 = .ok (.invokevirtual 63, 3) := by decide +kernel
theorem d_Mo_subtract_91 : decode prog_11_method_9_code 91 = .ok (.return_, 1) := by decide +kernel
theorem d_Mo_multiply_0 : decode prog_11_method_10_code 0 = .ok (.aload_n 0, 1) := by decide +kernel
theorem d_Mo_multiply_1 : decode prog_11_method_10_code 1 = .ok (.getfield 27, 3) := by decide +kernel
theorem d_Mo_multiply_4 : decode prog_11_method_10_code 4 = .ok (.iload_n 1, 1) := by decide +kernel
theorem d_Mo_multiply_5 : decode prog_11_method_10_code 5 = .ok (.aload_n 0, 1) := by decide +kernel
theorem d_Mo_multiply_6 : decode prog_11_method_10_code 6 = .ok (.getfield 27, 3) := by decide +kernel
theorem d_Mo_multiply_9 : decode prog_11_method_10_code 9 = .ok (.iload_n 2, 1) := by decide +kernel
theorem d_Mo_multiply_10 : decode prog_11_method_10_code 10 = .ok (.iaload, 1) := by decide +kernel
theorem d_Mo_multiply_11 : decode prog_11_method_10_code 11 = .ok (.aload_n 0, 1) := by decide +kernel
theorem d_Mo_multiply_12 : decode prog_11_method_10_code 12 = .ok (.getfield 27, 3) := by decide +kernel
theorem d_Mo_multiply_15 : decode prog_11_method_10_code 15 = .ok (.iload_n 3, 1) := by decide +kernel
theorem d_Mo_multiply_16 : decode prog_11_method_10_code 16 = .ok (.iaload, 1) := by decide +kernel
theorem d_Mo_multiply_17 : decode prog_11_method_10_code 17 = .ok (.iadd, 1) := by decide +kernel
theorem d_Mo_multiply_18 : decode prog_11_method_10_code 18 = .ok (.iastore, 1) := by decide +kernel
theorem d_Mo_multiply_19 : decode prog_11_method_10_code 19 = .ok (.iconst 0, 1) := by decide +kernel
theorem d_Mo_multiply_20 : decode prog_11_method_10_code 20 = .ok (.istore 4, 2) := by decide +kernel
theorem d_Mo_multiply_22 : decode prog_11_method_10_code 22 = .ok (.iload 4, 2) := by decide +kernel
theorem d_Mo_multiply_24 : decode prog_11_method_10_code 24 = .ok (.aload_n 0, 1) := by decide +kernel
theorem d_Mo_multiply_25 : decode prog_11_method_10_code 25 = .ok (.getfield 27, 3) := by decide +kernel
theorem d_Mo_multiply_28 : decode prog_11_method_10_code 28 = .ok (.iload_n 1, 1) := by decide +kernel
theorem d_Mo_multiply_29 : decode prog_11_method_10_code 29 = .ok (.iaload, 1) := by decide +kernel
theorem d_Mo_multiply_30 : decode prog_11_method_10_code 30 = .ok (.if_icmp .ge 23, 3) := by decide +kernel
theorem d_Mo_multiply_33 : decode prog_11_method_10_code 33 = .ok (.aload_n 0, 1) := by decide +kernel
theorem d_Mo_multiply_34 : decode prog_11_method_10_code 34 = .ok (.getfield 24, 3) := by decide +kernel
theorem d_Mo_multiply_37 : decode prog_11_method_10_code 37 = .ok (.sipush 4300, 3) := by decide +kernel
theorem d_Mo_multiply_40 : decode prog_11_method_10_code 40 = .ok (.iload_n 1, 1) := by decide +kernel
theorem d_Mo_multiply_41 : decode prog_11_method_10_code 41 = .ok (.imul, 1) := by decide +kernel
theorem d_Mo_multiply_42 : decode prog_11_method_10_code 42 = .ok (.iload 4, 2) := by decide +kernel
theorem d_Mo_multiply_44 : decode prog_11_method_10_code 44 = .ok (.iadd, 1) := by decide +kernel
theorem d_Mo_multiply_45 : decode prog_11_method_10_code 45 = .ok (.iconst 0, 1) := by decide +kernel
theorem d_Mo_multiply_46 : decode prog_11_method_10_code 46 = .ok (.iastore, 1) := by decide +kernel
theorem d_Mo_multiply_47 : decode prog_11_method_10_code 47 = .ok (.iinc 4 1, 3) := by decide +kernel
theorem d_Mo_multiply_50 : decode prog_11_method_10_code 50 = .ok (.goto (-28), 3) := by decide +kernel
theorem d_Mo_multiply_53 : decode prog_11_method_10_code 53 = .ok (.iconst 0, 1) := by decide +kernel
theorem d_Mo_multiply_54 : decode prog_11_method_10_code 54 = .ok (.istore 4, 2) := by decide +kernel
theorem d_Mo_multiply_56 : decode prog_11_method_10_code 56 = .ok (.iload 4, 2) := by decide +kernel
theorem d_Mo_multiply_58 : decode prog_11_method_10_code 58 = .ok (.aload_n 0, 1) := by decide +kernel
theorem d_Mo_multiply_59 : decode prog_11_method_10_code 59 = .ok (.getfield 27, 3) := by decide +kernel
theorem d_Mo_multiply_62 : decode prog_11_method_10_code 62 = .ok (.iload_n 2, 1) := by decide +kernel
theorem d_Mo_multiply_63 : decode prog_11_method_10_code 63 = .ok (.iaload, 1) := by decide +kernel
theorem d_Mo_multiply_64 : decode prog_11_method_10_code 64 = .ok (.if_icmp .ge 140, 3) := by decide +kernel
theorem d_Mo_multiply_67 : decode prog_11_method_10_code 67 = .ok (.lconst 0, 1) := by decide +kernel
theorem d_Mo_multiply_68 : decode prog_11_method_10_code 68 = .ok (.lstore 5, 2) := by decide +kernel
theorem d_Mo_multiply_70 : decode prog_11_method_10_code 70 = .ok (.aload_n 0, 1) := by decide +kernel
theorem d_Mo_multiply_71 : decode prog_11_method_10_code 71 = .ok (.getfield 24, 3) := by decide +kernel
theorem d_Mo_multiply_74 : decode prog_11_method_10_code 74 = .ok (.sipush 4300, 3) := by decide +kernel
theorem d_Mo_multiply_77 : decode prog_11_method_10_code 77 = .ok (.iload_n 2, 1) := by decide +kernel
theorem d_Mo_multiply_78 : decode prog_11_method_10_code 78 = .ok (.imul, 1) := by decide +kernel
theorem d_Mo_multiply_79 : decode prog_11_method_10_code 79 = .ok (.iload 4, 2) := by decide +kernel
theorem d_Mo_multiply_81 : decode prog_11_method_10_code 81 = .ok (.iadd, 1) := by decide +kernel
theorem d_Mo_multiply_82 : decode prog_11_method_10_code 82 = .ok (.iaload, 1) := by decide +kernel
theorem d_Mo_multiply_83 : decode prog_11_method_10_code 83 = .ok (.i2l, 1) := by decide +kernel
theorem d_Mo_multiply_84 : decode prog_11_method_10_code 84 = .ok (.lstore 7, 2) := by decide +kernel
theorem d_Mo_multiply_86 : decode prog_11_method_10_code 86 = .ok (.iconst 0, 1) := by decide +kernel
theorem d_Mo_multiply_87 : decode prog_11_method_10_code 87 = .ok (.istore 9, 2) := by decide +kernel
theorem d_Mo_multiply_89 : decode prog_11_method_10_code 89 = .ok (.iload 9, 2) := by decide +kernel
theorem d_Mo_multiply_91 : decode prog_11_method_10_code 91 = .ok (.aload_n 0, 1) := by decide +kernel
theorem d_Mo_multiply_92 : decode prog_11_method_10_code 92 = .ok (.getfield 27, 3) := by decide +kernel
theorem d_Mo_multiply_95 : decode prog_11_method_10_code 95 = .ok (.iload_n 3, 1) := by decide +kernel
theorem d_Mo_multiply_96 : decode prog_11_method_10_code 96 = .ok (.iaload, 1) := by decide +kernel
theorem d_Mo_multiply_97 : decode prog_11_method_10_code 97 = .ok (.if_icmp .ge 78, 3) := by decide +kernel
theorem d_Mo_multiply_100 : decode prog_11_method_10_code 100 = .ok (.sipush 4300, 3) := by decide +kernel
theorem d_Mo_multiply_103 : decode prog_11_method_10_code 103 = .ok (.iload_n 1, 1) := by decide +kernel
theorem d_Mo_multiply_104 : decode prog_11_method_10_code 104 = .ok (.imul, 1) := by decide +kernel
theorem d_Mo_multiply_105 : decode prog_11_method_10_code 105 = .ok (.iload 4, 2) := by decide +kernel
theorem d_Mo_multiply_107 : decode prog_11_method_10_code 107 = .ok (.iadd, 1) := by decide +kernel
theorem d_Mo_multiply_108 : decode prog_11_method_10_code 108 = .ok (.iload 9, 2) := by decide +kernel
theorem d_Mo_multiply_110 : decode prog_11_method_10_code 110 = .ok (.iadd, 1) := by decide +kernel
theorem d_Mo_multiply_111 : decode prog_11_method_10_code 111 = .ok (.istore 10, 2) := by decide +kernel
theorem d_Mo_multiply_113 : decode prog_11_method_10_code 113 = .ok (.lload 7, 2) := by decide +kernel
theorem d_Mo_multiply_115 : decode prog_11_method_10_code 115 = .ok (.aload_n 0, 1) := by decide +kernel
theorem d_Mo_multiply_116 : decode prog_11_method_10_code 116 = .ok (.getfield 24, 3) := by decide +kernel
theorem d_Mo_multiply_119 : decode prog_11_method_10_code 119 = .ok (.sipush 4300, 3) := by decide +kernel
theorem d_Mo_multiply_122 : decode prog_11_method_10_code 122 = .ok (.iload_n 3, 1) := by decide +kernel
theorem d_Mo_multiply_123 : decode prog_11_method_10_code 123 = .ok (.imul, 1) := by decide +kernel
theorem d_Mo_multiply_124 : decode prog_11_method_10_code 124 = .ok (.iload 9, 2) := by decide +kernel
theorem d_Mo_multiply_126 : decode prog_11_method_10_code 126 = .ok (.iadd, 1) := by decide +kernel
theorem d_Mo_multiply_127 : decode prog_11_method_10_code 127 = .ok (.iaload, 1) := by decide +kernel
theorem d_Mo_multiply_128 : decode prog_11_method_10_code 128 = .ok (.i2l, 1) := by decide +kernel
theorem d_Mo_multiply_129 : decode prog_11_method_10_code 129 = .ok (.lmul, 1) := by decide +kernel
theorem d_Mo_multiply_130 : decode prog_11_method_10_code 130 = .ok (.aload_n 0, 1) := by decide +kernel
theorem d_Mo_multiply_131 : decode prog_11_method_10_code 131 = .ok (.getfield 24, 3) := by decide +kernel
theorem d_Mo_multiply_134 : decode prog_11_method_10_code 134 = .ok (.iload 10, 2) := by decide +kernel
theorem d_Mo_multiply_136 : decode prog_11_method_10_code 136 = .ok (.iaload, 1) := by decide +kernel
theorem d_Mo_multiply_137 : decode prog_11_method_10_code 137 = .ok (.i2l, 1) := by decide +kernel
theorem d_Mo_multiply_138 : decode prog_11_method_10_code 138 = .ok (.ladd, 1) := by decide +kernel
theorem d_Mo_multiply_139 : decode prog_11_method_10_code 139 = .ok (.lload 5, 2) := by decide +kernel
theorem d_Mo_multiply_141 : decode prog_11_method_10_code 141 = .ok (.ladd, 1) := by decide +kernel
theorem d_Mo_multiply_142 : decode prog_11_method_10_code 142 = .ok (.lstore 11, 2) := by decide +kernel
theorem d_Mo_multiply_144 : decode prog_11_method_10_code 144 = .ok (.lload 11, 2) := by decide +kernel
theorem d_Mo_multiply_146 : decode prog_11_method_10_code 146 = .ok (.ldc2_w 56, 3) := by decide +kernel
theorem d_Mo_multiply_149 : decode prog_11_method_10_code 149 = .ok (.ldiv, 1) := by decide +kernel
theorem d_Mo_multiply_150 : decode prog_11_method_10_code 150 = .ok (.lstore 5, 2) := by decide +kernel
theorem d_Mo_multiply_152 : decode prog_11_method_10_code 152 = .ok (.aload_n 0, 1) := by decide +kernel
theorem d_Mo_multiply_153 : decode prog_11_method_10_code 153 = .ok (.getfield 24, 3) := by decide +kernel
theorem d_Mo_multiply_156 : decode prog_11_method_10_code 156 = .ok (.iload 10, 2) := by decide +kernel
theorem d_Mo_multiply_158 : decode prog_11_method_10_code 158 = .ok (.lload 11, 2) := by decide +kernel
theorem d_Mo_multiply_160 : decode prog_11_method_10_code 160 = .ok (.lload 5, 2) := by decide +kernel
theorem d_Mo_multiply_162 : decode prog_11_method_10_code 162 = .ok (.ldc2_w 56, 3) := by decide +kernel
theorem d_Mo_multiply_165 : decode prog_11_method_10_code 165 = .ok (.lmul, 1) := by decide +kernel
theorem d_Mo_multiply_166 : decode prog_11_method_10_code 166 = .ok (.lsub, 1) := by decide +kernel
theorem d_Mo_multiply_167 : decode prog_11_method_10_code 167 = .ok (.l2i, 1) := by decide +kernel
theorem d_Mo_multiply_168 : decode prog_11_method_10_code 168 = .ok (.iastore, 1) := by decide +kernel
theorem d_Mo_multiply_169 : decode prog_11_method_10_code 169 = .ok (.iinc 9 1, 3) := by decide +kernel
theorem d_Mo_multiply_172 : decode prog_11_method_10_code 172 = .ok (.goto (-83), 3) := by decide +kernel
theorem d_Mo_multiply_175 : decode prog_11_method_10_code 175 = .ok (.aload_n 0, 1) := by decide +kernel
theorem d_Mo_multiply_176 : decode prog_11_method_10_code 176 = .ok (.getfield 24, 3) := by decide +kernel
theorem d_Mo_multiply_179 : decode prog_11_method_10_code 179 = .ok (.sipush 4300, 3) := by decide +kernel
theorem d_Mo_multiply_182 : decode prog_11_method_10_code 182 = .ok (.iload_n 1, 1) := by decide +kernel
theorem d_Mo_multiply_183 : decode prog_11_method_10_code 183 = .ok (.imul, 1) := by decide +kernel
theorem d_Mo_multiply_184 : decode prog_11_method_10_code 184 = .ok (.iload 4, 2) := by decide +kernel
theorem d_Mo_multiply_186 : decode prog_11_method_10_code 186 = .ok (.iadd, 1) := by decide +kernel
theorem d_Mo_multiply_187 : decode prog_11_method_10_code 187 = .ok (.aload_n 0, 1) := by decide +kernel
theorem d_Mo_multiply_188 : decode prog_11_method_10_code 188 = .ok (.getfield 27, 3) := by decide +kernel
theorem d_Mo_multiply_191 : decode prog_11_method_10_code 191 = .ok (.iload_n 3, 1) := by decide +kernel
theorem d_Mo_multiply_192 : decode prog_11_method_10_code 192 = .ok (.iaload, 1) := by decide +kernel
theorem d_Mo_multiply_193 : decode prog_11_method_10_code 193 = .ok (.iadd, 1) := by decide +kernel
theorem d_Mo_multiply_194 : decode prog_11_method_10_code 194 = .ok (.lload 5, 2) := by decide +kernel
theorem d_Mo_multiply_196 : decode prog_11_method_10_code 196 = .ok (.l2i, 1) := by decide +kernel
theorem d_Mo_multiply_197 : decode prog_11_method_10_code 197 = .ok (.iastore, 1) := by decide +kernel
theorem d_Mo_multiply_198 : decode prog_11_method_10_code 198 = .ok (.iinc 4 1, 3) := by decide +kernel
theorem d_Mo_multiply_201 : decode prog_11_method_10_code 201 = .ok (.goto (-145), 3) := by decide +kernel
theorem d_Mo_multiply_204 : decode prog_11_method_10_code 204 = .ok (.aload_n 0, 1) := by decide +kernel
theorem d_Mo_multiply_205 : decode prog_11_method_10_code 205 = .ok (.iload_n 1, 1) := by decide +kernel
theorem d_Mo_multiply_206 : decode prog_11_method_10_code 206 = .ok (.invokevirtual 63, 3) := by decide +kernel
theorem d_Mo_multiply_209 : decode prog_11_method_10_code 209 = .ok (.return_, 1) := by decide +kernel
theorem d_Mo_scale_0 : decode prog_11_method_11_code 0 = .ok (.lconst 0, 1) := by decide +kernel
theorem d_Mo_scale_1 : decode prog_11_method_11_code 1 = .ok (.lstore 4, 2) := by decide +kernel
theorem d_Mo_scale_3 : decode prog_11_method_11_code 3 = .ok (.sipush 4300, 3) := by decide +kernel
theorem d_Mo_scale_6 : decode prog_11_method_11_code 6 = .ok (.iload_n 1, 1) := by decide +kernel
theorem d_Mo_scale_7 : decode prog_11_method_11_code 7 = .ok (.imul, 1) := by decide +kernel
theorem d_Mo_scale_8 : decode prog_11_method_11_code 8 = .ok (.istore 6, 2) := by decide +kernel
theorem d_Mo_scale_10 : decode prog_11_method_11_code 10 = .ok (.iload 6, 2) := by decide +kernel
theorem d_Mo_scale_12 : decode prog_11_method_11_code 12 = .ok (.sipush 4300, 3) := by decide +kernel
theorem d_Mo_scale_15 : decode prog_11_method_11_code 15 = .ok (.iload_n 1, 1) := by decide +kernel
theorem d_Mo_scale_16 : decode prog_11_method_11_code 16 = .ok (.imul, 1) := by decide +kernel
theorem d_Mo_scale_17 : decode prog_11_method_11_code 17 = .ok (.aload_n 0, 1) := by decide +kernel
theorem d_Mo_scale_18 : decode prog_11_method_11_code 18 = .ok (.getfield 27, 3) := by decide +kernel
theorem d_Mo_scale_21 : decode prog_11_method_11_code 21 = .ok (.iload_n 1, 1) := by decide +kernel
theorem d_Mo_scale_22 : decode prog_11_method_11_code 22 = .ok (.iaload, 1) := by decide +kernel
theorem d_Mo_scale_23 : decode prog_11_method_11_code 23 = .ok (.iadd, 1) := by decide +kernel
theorem d_Mo_scale_24 : decode prog_11_method_11_code 24 = .ok (.if_icmp .ge 49, 3) := by decide +kernel
theorem d_Mo_scale_27 : decode prog_11_method_11_code 27 = .ok (.aload_n 0, 1) := by decide +kernel
theorem d_Mo_scale_28 : decode prog_11_method_11_code 28 = .ok (.getfield 24, 3) := by decide +kernel
theorem d_Mo_scale_31 : decode prog_11_method_11_code 31 = .ok (.iload 6, 2) := by decide +kernel
theorem d_Mo_scale_33 : decode prog_11_method_11_code 33 = .ok (.iaload, 1) := by decide +kernel
theorem d_Mo_scale_34 : decode prog_11_method_11_code 34 = .ok (.i2l, 1) := by decide +kernel
theorem d_Mo_scale_35 : decode prog_11_method_11_code 35 = .ok (.lload_n 2, 1) := by decide +kernel
theorem d_Mo_scale_36 : decode prog_11_method_11_code 36 = .ok (.lmul, 1) := by decide +kernel
theorem d_Mo_scale_37 : decode prog_11_method_11_code 37 = .ok (.lload 4, 2) := by decide +kernel
theorem d_Mo_scale_39 : decode prog_11_method_11_code 39 = .ok (.ladd, 1) := by decide +kernel
theorem d_Mo_scale_40 : decode prog_11_method_11_code 40 = .ok (.lstore 7, 2) := by decide +kernel
theorem d_Mo_scale_42 : decode prog_11_method_11_code 42 = .ok (.lload 7, 2) := by decide +kernel
theorem d_Mo_scale_44 : decode prog_11_method_11_code 44 = .ok (.ldc2_w 56, 3) := by decide +kernel
theorem d_Mo_scale_47 : decode prog_11_method_11_code 47 = .ok (.ldiv, 1) := by decide +kernel
theorem d_Mo_scale_48 : decode prog_11_method_11_code 48 = .ok (.lstore 4, 2) := by decide +kernel
theorem d_Mo_scale_50 : decode prog_11_method_11_code 50 = .ok (.aload_n 0, 1) := by decide +kernel
theorem d_Mo_scale_51 : decode prog_11_method_11_code 51 = .ok (.getfield 24, 3) := by decide +kernel
theorem d_Mo_scale_54 : decode prog_11_method_11_code 54 = .ok (.iload 6, 2) := by decide +kernel
theorem d_Mo_scale_56 : decode prog_11_method_11_code 56 = .ok (.lload 7, 2) := by decide +kernel
theorem d_Mo_scale_58 : decode prog_11_method_11_code 58 = .ok (.lload 4, 2) := by decide +kernel
theorem d_Mo_scale_60 : decode prog_11_method_11_code 60 = .ok (.ldc2_w 56, 3) := by decide +kernel
theorem d_Mo_scale_63 : decode prog_11_method_11_code 63 = .ok (.lmul, 1) := by decide +kernel
theorem d_Mo_scale_64 : decode prog_11_method_11_code 64 = .ok (.lsub, 1) := by decide +kernel
theorem d_Mo_scale_65 : decode prog_11_method_11_code 65 = .ok (.l2i, 1) := by decide +kernel
theorem d_Mo_scale_66 : decode prog_11_method_11_code 66 = .ok (.iastore, 1) := by decide +kernel
theorem d_Mo_scale_67 : decode prog_11_method_11_code 67 = .ok (.iinc 6 1, 3) := by decide +kernel
theorem d_Mo_scale_70 : decode prog_11_method_11_code 70 = .ok (.goto (-60), 3) := by decide +kernel
theorem d_Mo_scale_73 : decode prog_11_method_11_code 73 = .ok (.lload 4, 2) := by decide +kernel
theorem d_Mo_scale_75 : decode prog_11_method_11_code 75 = .ok (.lconst 0, 1) := by decide +kernel
theorem d_Mo_scale_76 : decode prog_11_method_11_code 76 = .ok (.lcmp, 1) := by decide +kernel
theorem d_Mo_scale_77 : decode prog_11_method_11_code 77 = .ok (.ifCond .le 48, 3) := by decide +kernel
theorem d_Mo_scale_80 : decode prog_11_method_11_code 80 = .ok (.aload_n 0, 1) := by decide +kernel
theorem d_Mo_scale_81 : decode prog_11_method_11_code 81 = .ok (.getfield 24, 3) := by decide +kernel
theorem d_Mo_scale_84 : decode prog_11_method_11_code 84 = .ok (.sipush 4300, 3) := by decide +kernel
theorem d_Mo_scale_87 : decode prog_11_method_11_code 87 = .ok (.iload_n 1, 1) := by decide +kernel
theorem d_Mo_scale_88 : decode prog_11_method_11_code 88 = .ok (.imul, 1) := by decide +kernel
theorem d_Mo_scale_89 : decode prog_11_method_11_code 89 = .ok (.aload_n 0, 1) := by decide +kernel
theorem d_Mo_scale_90 : decode prog_11_method_11_code 90 = .ok (.getfield 27, 3) := by decide +kernel
theorem d_Mo_scale_93 : decode prog_11_method_11_code 93 = .ok (.iload_n 1, 1) := by decide +kernel
theorem d_Mo_scale_94 : decode prog_11_method_11_code 94 = .ok (.iaload, 1) := by decide +kernel
theorem d_Mo_scale_95 : decode prog_11_method_11_code 95 = .ok (.iadd, 1) := by decide +kernel
theorem d_Mo_scale_96 : decode prog_11_method_11_code 96 = .ok (.lload 4, 2) := by decide +kernel
theorem d_Mo_scale_98 : decode prog_11_method_11_code 98 = .ok (.ldc2_w 56, 3) := by decide +kernel
theorem d_Mo_scale_101 : decode prog_11_method_11_code 101 = .ok (.lrem, 1) := by decide +kernel
theorem d_Mo_scale_102 : decode prog_11_method_11_code 102 = .ok (.l2i, 1) := by decide +kernel
theorem d_Mo_scale_103 : decode prog_11_method_11_code 103 = .ok (.iastore, 1) := by decide +kernel
theorem d_Mo_scale_104 : decode prog_11_method_11_code 104 = .ok (.aload_n 0, 1) := by decide +kernel
theorem d_Mo_scale_105 : decode prog_11_method_11_code 105 = .ok (.getfield 27, 3) := by decide +kernel
theorem d_Mo_scale_108 : decode prog_11_method_11_code 108 = .ok (.iload_n 1, 1) := by decide +kernel
theorem d_Mo_scale_109 : decode prog_11_method_11_code 109 = .ok (.dup2, 1) := by decide +kernel
theorem d_Mo_scale_110 : decode prog_11_method_11_code 110 = .ok (.iaload, 1) := by decide +kernel
theorem d_Mo_scale_111 : decode prog_11_method_11_code 111 = .ok (.iconst 1, 1) := by decide +kernel
theorem d_Mo_scale_112 : decode prog_11_method_11_code 112 = .ok (.iadd, 1) := by decide +kernel
theorem d_Mo_scale_113 : decode prog_11_method_11_code 113 = .ok (.iastore, 1) := by decide +kernel
theorem d_Mo_scale_114 : decode prog_11_method_11_code 114 = .ok (.lload 4, 2) := by decide +kernel
theorem d_Mo_scale_116 : decode prog_11_method_11_code 116 = .ok (.ldc2_w 56, 3) := by decide +kernel
theorem d_Mo_scale_119 : decode prog_11_method_11_code 119 = .ok (.ldiv, 1) := by decide +kernel
theorem d_Mo_scale_120 : decode prog_11_method_11_code 120 = .ok (.lstore 4, 2) := by decide +kernel
theorem d_Mo_scale_122 : decode prog_11_method_11_code 122 = .ok (.goto (-49), 3) := by decide +kernel
theorem d_Mo_scale_125 : decode prog_11_method_11_code 125 = .ok (.aload_n 0, 1) := by decide +kernel
theorem d_Mo_scale_126 : decode prog_11_method_11_code 126 = .ok (.iload_n 1, 1) := by decide +kernel
theorem d_Mo_scale_127 : decode prog_11_method_11_code 127 = .ok (.invokevirtual 63, 3) := by decide +kernel
theorem d_Mo_scale_130 : decode prog_11_method_11_code 130 = .ok (.return_, 1) := by decide +kernel
theorem d_Mo_small_0 : decode prog_11_method_12_code 0 = .ok (.lconst 0, 1) := by decide +kernel
theorem d_Mo_small_1 : decode prog_11_method_12_code 1 = .ok (.lstore 4, 2) := by decide +kernel
theorem d_Mo_small_3 : decode prog_11_method_12_code 3 = .ok (.sipush 4300, 3) := by decide +kernel
theorem d_Mo_small_6 : decode prog_11_method_12_code 6 = .ok (.iload_n 1, 1) := by decide +kernel
theorem d_Mo_small_7 : decode prog_11_method_12_code 7 = .ok (.imul, 1) := by decide +kernel
theorem d_Mo_small_8 : decode prog_11_method_12_code 8 = .ok (.aload_n 0, 1) := by decide +kernel
theorem d_Mo_small_9 : decode prog_11_method_12_code 9 = .ok (.getfield 27, 3) := by decide +kernel
theorem d_Mo_small_12 : decode prog_11_method_12_code 12 = .ok (.iload_n 1, 1) := by decide +kernel
theorem d_Mo_small_13 : decode prog_11_method_12_code 13 = .ok (.iaload, 1) := by decide +kernel
theorem d_Mo_small_14 : decode prog_11_method_12_code 14 = .ok (.iadd, 1) := by decide +kernel
theorem d_Mo_small_15 : decode prog_11_method_12_code 15 = .ok (.iconst 1, 1) := by decide +kernel
theorem d_Mo_small_16 : decode prog_11_method_12_code 16 = .ok (.isub, 1) := by decide +kernel
theorem d_Mo_small_17 : decode prog_11_method_12_code 17 = .ok (.istore 6, 2) := by decide +kernel
theorem d_Mo_small_19 : decode prog_11_method_12_code 19 = .ok (.iload 6, 2) := by decide +kernel
theorem d_Mo_small_21 : decode prog_11_method_12_code 21 = .ok (.sipush 4300, 3) := by decide +kernel
theorem d_Mo_small_24 : decode prog_11_method_12_code 24 = .ok (.iload_n 1, 1) := by decide +kernel
theorem d_Mo_small_25 : decode prog_11_method_12_code 25 = .ok (.imul, 1) := by decide +kernel
theorem d_Mo_small_26 : decode prog_11_method_12_code 26 = .ok (.if_icmp .lt 44, 3) := by decide +kernel
theorem d_Mo_small_29 : decode prog_11_method_12_code 29 = .ok (.lload 4, 2) := by decide +kernel
theorem d_Mo_small_31 : decode prog_11_method_12_code 31 = .ok (.ldc2_w 56, 3) := by decide +kernel
theorem d_Mo_small_34 : decode prog_11_method_12_code 34 = .ok (.lmul, 1) := by decide +kernel
theorem d_Mo_small_35 : decode prog_11_method_12_code 35 = .ok (.aload_n 0, 1) := by decide +kernel
theorem d_Mo_small_36 : decode prog_11_method_12_code 36 = .ok (.getfield 24, 3) := by decide +kernel
theorem d_Mo_small_39 : decode prog_11_method_12_code 39 = .ok (.iload 6, 2) := by decide +kernel
theorem d_Mo_small_41 : decode prog_11_method_12_code 41 = .ok (.iaload, 1) := by decide +kernel
theorem d_Mo_small_42 : decode prog_11_method_12_code 42 = .ok (.i2l, 1) := by decide +kernel
theorem d_Mo_small_43 : decode prog_11_method_12_code 43 = .ok (.ladd, 1) := by decide +kernel
theorem d_Mo_small_44 : decode prog_11_method_12_code 44 = .ok (.lstore 7, 2) := by decide +kernel
theorem d_Mo_small_46 : decode prog_11_method_12_code 46 = .ok (.aload_n 0, 1) := by decide +kernel
theorem d_Mo_small_47 : decode prog_11_method_12_code 47 = .ok (.getfield 24, 3) := by decide +kernel
theorem d_Mo_small_50 : decode prog_11_method_12_code 50 = .ok (.iload 6, 2) := by decide +kernel
theorem d_Mo_small_52 : decode prog_11_method_12_code 52 = .ok (.lload 7, 2) := by decide +kernel
theorem d_Mo_small_54 : decode prog_11_method_12_code 54 = .ok (.lload_n 2, 1) := by decide +kernel
theorem d_Mo_small_55 : decode prog_11_method_12_code 55 = .ok (.ldiv, 1) := by decide +kernel
theorem d_Mo_small_56 : decode prog_11_method_12_code 56 = .ok (.l2i, 1) := by decide +kernel
theorem d_Mo_small_57 : decode prog_11_method_12_code 57 = .ok (.iastore, 1) := by decide +kernel
theorem d_Mo_small_58 : decode prog_11_method_12_code 58 = .ok (.lload 7, 2) := by decide +kernel
theorem d_Mo_small_60 : decode prog_11_method_12_code 60 = .ok (.lload_n 2, 1) := by decide +kernel
theorem d_Mo_small_61 : decode prog_11_method_12_code 61 = .ok (.lrem, 1) := by decide +kernel
theorem d_Mo_small_62 : decode prog_11_method_12_code 62 = .ok (.lstore 4, 2) := by decide +kernel
theorem d_Mo_small_64 : decode prog_11_method_12_code 64 = .ok (.iinc 6 (-1), 3) := by decide +kernel
theorem d_Mo_small_67 : decode prog_11_method_12_code 67 = .ok (.goto (-48), 3) := by decide +kernel
theorem d_Mo_small_70 : decode prog_11_method_12_code 70 = .ok (.aload_n 0, 1) := by decide +kernel
theorem d_Mo_small_71 : decode prog_11_method_12_code 71 = .ok (.iload_n 1, 1) := by decide +kernel
theorem d_Mo_small_72 : decode prog_11_method_12_code 72 = .ok (.invokevirtual 63, 3) := by decide +kernel
theorem d_Mo_small_75 : decode prog_11_method_12_code 75 = .ok (.lload 4, 2) := by decide +kernel
theorem d_Mo_small_77 : decode prog_11_method_12_code 77 = .ok (.lreturn, 1) := by decide +kernel
theorem d_Mo_takeOff_0 : decode prog_11_method_13_code 0 = .ok (.lconst 0, 1) := by decide +kernel
theorem d_Mo_takeOff_1 : decode prog_11_method_13_code 1 = .ok (.lstore 5, 2) := by decide +kernel
theorem d_Mo_takeOff_3 : decode prog_11_method_13_code 3 = .ok (.aload_n 0, 1) := by decide +kernel
theorem d_Mo_takeOff_4 : decode prog_11_method_13_code 4 = .ok (.getfield 27, 3) := by decide +kernel
theorem d_Mo_takeOff_7 : decode prog_11_method_13_code 7 = .ok (.iload_n 2, 1) := by decide +kernel
theorem d_Mo_takeOff_8 : decode prog_11_method_13_code 8 = .ok (.iaload, 1) := by decide +kernel
theorem d_Mo_takeOff_9 : decode prog_11_method_13_code 9 = .ok (.istore 7, 2) := by decide +kernel
theorem d_Mo_takeOff_11 : decode prog_11_method_13_code 11 = .ok (.iconst 0, 1) := by decide +kernel
theorem d_Mo_takeOff_12 : decode prog_11_method_13_code 12 = .ok (.istore 8, 2) := by decide +kernel
theorem d_Mo_takeOff_14 : decode prog_11_method_13_code 14 = .ok (.iload 8, 2) := by decide +kernel
theorem d_Mo_takeOff_16 : decode prog_11_method_13_code 16 = .ok (.iload 7, 2) := by decide +kernel
theorem d_Mo_takeOff_18 : decode prog_11_method_13_code 18 = .ok (.if_icmp .gt 106, 3) := by decide +kernel
theorem d_Mo_takeOff_21 : decode prog_11_method_13_code 21 = .ok (.sipush 4300, 3) := by decide +kernel
theorem d_Mo_takeOff_24 : decode prog_11_method_13_code 24 = .ok (.iload_n 1, 1) := by decide +kernel
theorem d_Mo_takeOff_25 : decode prog_11_method_13_code 25 = .ok (.imul, 1) := by decide +kernel
theorem d_Mo_takeOff_26 : decode prog_11_method_13_code 26 = .ok (.iload 4, 2) := by decide +kernel
theorem d_Mo_takeOff_28 : decode prog_11_method_13_code 28 = .ok (.iadd, 1) := by decide +kernel
theorem d_Mo_takeOff_29 : decode prog_11_method_13_code 29 = .ok (.iload 8, 2) := by decide +kernel
theorem d_Mo_takeOff_31 : decode prog_11_method_13_code 31 = .ok (.iadd, 1) := by decide +kernel
theorem d_Mo_takeOff_32 : decode prog_11_method_13_code 32 = .ok (.istore 9, 2) := by decide +kernel
theorem d_Mo_takeOff_34 : decode prog_11_method_13_code 34 = .ok (.aload_n 0, 1) := by decide +kernel
theorem d_Mo_takeOff_35 : decode prog_11_method_13_code 35 = .ok (.getfield 24, 3) := by decide +kernel
theorem d_Mo_takeOff_38 : decode prog_11_method_13_code 38 = .ok (.iload 9, 2) := by decide +kernel
theorem d_Mo_takeOff_40 : decode prog_11_method_13_code 40 = .ok (.iaload, 1) := by decide +kernel
theorem d_Mo_takeOff_41 : decode prog_11_method_13_code 41 = .ok (.i2l, 1) := by decide +kernel
theorem d_Mo_takeOff_42 : decode prog_11_method_13_code 42 = .ok (.iload 8, 2) := by decide +kernel
theorem d_Mo_takeOff_44 : decode prog_11_method_13_code 44 = .ok (.iload 7, 2) := by decide +kernel
theorem d_Mo_takeOff_46 : decode prog_11_method_13_code 46 = .ok (.if_icmp .ge 23, 3) := by decide +kernel
theorem d_Mo_takeOff_49 : decode prog_11_method_13_code 49 = .ok (.iload_n 3, 1) := by decide +kernel
theorem d_Mo_takeOff_50 : decode prog_11_method_13_code 50 = .ok (.i2l, 1) := by decide +kernel
theorem d_Mo_takeOff_51 : decode prog_11_method_13_code 51 = .ok (.aload_n 0, 1) := by decide +kernel
theorem d_Mo_takeOff_52 : decode prog_11_method_13_code 52 = .ok (.getfield 24, 3) := by decide +kernel
theorem d_Mo_takeOff_55 : decode prog_11_method_13_code 55 = .ok (.sipush 4300, 3) := by decide +kernel
theorem d_Mo_takeOff_58 : decode prog_11_method_13_code 58 = .ok (.iload_n 2, 1) := by decide +kernel
theorem d_Mo_takeOff_59 : decode prog_11_method_13_code 59 = .ok (.imul, 1) := by decide +kernel
theorem d_Mo_takeOff_60 : decode prog_11_method_13_code 60 = .ok (.iload 8, 2) := by decide +kernel
theorem d_Mo_takeOff_62 : decode prog_11_method_13_code 62 = .ok (.iadd, 1) := by decide +kernel
theorem d_Mo_takeOff_63 : decode prog_11_method_13_code 63 = .ok (.iaload, 1) := by decide +kernel
theorem d_Mo_takeOff_64 : decode prog_11_method_13_code 64 = .ok (.i2l, 1) := by decide +kernel
theorem d_Mo_takeOff_65 : decode prog_11_method_13_code 65 = .ok (.lmul, 1) := by decide +kernel
theorem d_Mo_takeOff_66 : decode prog_11_method_13_code 66 = .ok (.goto 4, 3) := by decide +kernel
theorem d_Mo_takeOff_69 : decode prog_11_method_13_code 69 = .ok (.lconst 0, 1) := by decide +kernel
theorem d_Mo_takeOff_70 : decode prog_11_method_13_code 70 = .ok (.lsub, 1) := by decide +kernel
theorem d_Mo_takeOff_71 : decode prog_11_method_13_code 71 = .ok (.lload 5, 2) := by decide +kernel
theorem d_Mo_takeOff_73 : decode prog_11_method_13_code 73 = .ok (.ladd, 1) := by decide +kernel
theorem d_Mo_takeOff_74 : decode prog_11_method_13_code 74 = .ok (.lstore 10, 2) := by decide +kernel
theorem d_Mo_takeOff_76 : decode prog_11_method_13_code 76 = .ok (.lload 10, 2) := by decide +kernel
theorem d_Mo_takeOff_78 : decode prog_11_method_13_code 78 = .ok (.ldc2_w 56, 3) := by decide +kernel
theorem d_Mo_takeOff_81 : decode prog_11_method_13_code 81 = .ok (.ldiv, 1) := by decide +kernel
theorem d_Mo_takeOff_82 : decode prog_11_method_13_code 82 = .ok (.lload 10, 2) := by decide +kernel
theorem d_Mo_takeOff_84 : decode prog_11_method_13_code 84 = .ok (.ldc2_w 56, 3) := by decide +kernel
theorem d_Mo_takeOff_87 : decode prog_11_method_13_code 87 = .ok (.lrem, 1) := by decide +kernel
theorem d_Mo_takeOff_88 : decode prog_11_method_13_code 88 = .ok (.lconst 0, 1) := by decide +kernel
theorem d_Mo_takeOff_89 : decode prog_11_method_13_code 89 = .ok (.lcmp, 1) := by decide +kernel
theorem d_Mo_takeOff_90 : decode prog_11_method_13_code 90 = .ok (.ifCond .ge 7, 3) := by decide +kernel
theorem d_Mo_takeOff_93 : decode prog_11_method_13_code 93 = .ok (.lconst 1, 1) := by decide +kernel
theorem d_Mo_takeOff_94 : decode prog_11_method_13_code 94 = .ok (.goto 4, 3) := by decide +kernel
theorem d_Mo_takeOff_97 : decode prog_11_method_13_code 97 = .ok (.lconst 0, 1) := by decide +kernel
theorem d_Mo_takeOff_98 : decode prog_11_method_13_code 98 = .ok (.lsub, 1) := by decide +kernel
theorem d_Mo_takeOff_99 : decode prog_11_method_13_code 99 = .ok (.lstore 5, 2) := by decide +kernel
theorem d_Mo_takeOff_101 : decode prog_11_method_13_code 101 = .ok (.aload_n 0, 1) := by decide +kernel
theorem d_Mo_takeOff_102 : decode prog_11_method_13_code 102 = .ok (.getfield 24, 3) := by decide +kernel
theorem d_Mo_takeOff_105 : decode prog_11_method_13_code 105 = .ok (.iload 9, 2) := by decide +kernel
theorem d_Mo_takeOff_107 : decode prog_11_method_13_code 107 = .ok (.lload 10, 2) := by decide +kernel
theorem d_Mo_takeOff_109 : decode prog_11_method_13_code 109 = .ok (.lload 5, 2) := by decide +kernel
theorem d_Mo_takeOff_111 : decode prog_11_method_13_code 111 = .ok (.ldc2_w 56, 3) := by decide +kernel
theorem d_Mo_takeOff_114 : decode prog_11_method_13_code 114 = .ok (.lmul, 1) := by decide +kernel
theorem d_Mo_takeOff_115 : decode prog_11_method_13_code 115 = .ok (.lsub, 1) := by decide +kernel
theorem d_Mo_takeOff_116 : decode prog_11_method_13_code 116 = .ok (.l2i, 1) := by decide +kernel
theorem d_Mo_takeOff_117 : decode prog_11_method_13_code 117 = .ok (.iastore, 1) := by decide +kernel
theorem d_Mo_takeOff_118 : decode prog_11_method_13_code 118 = .ok (.iinc 8 1, 3) := by decide +kernel
theorem d_Mo_takeOff_121 : decode prog_11_method_13_code 121 = .ok (.goto (-107), 3) := by decide +kernel
theorem d_Mo_takeOff_124 : decode prog_11_method_13_code 124 = .ok (.lload 5, 2) := by decide +kernel
theorem d_Mo_takeOff_126 : decode prog_11_method_13_code 126 = .ok (.lconst 0, 1) := by decide +kernel
theorem d_Mo_takeOff_127 : decode prog_11_method_13_code 127 = .ok (.lcmp, 1) := by decide +kernel
theorem d_Mo_takeOff_128 : decode prog_11_method_13_code 128 = .ok (.ifCond .ge 7, 3) := by decide +kernel
theorem d_Mo_takeOff_131 : decode prog_11_method_13_code 131 = .ok (.iconst 1, 1) := by decide +kernel
theorem d_Mo_takeOff_132 : decode prog_11_method_13_code 132 = .ok (.goto 4, 3) := by decide +kernel
theorem d_Mo_takeOff_135 : decode prog_11_method_13_code 135 = .ok (.iconst 0, 1) := by decide +kernel
theorem d_Mo_takeOff_136 : decode prog_11_method_13_code 136 = .ok (.ireturn, 1) := by decide +kernel
theorem d_Mo_putOn_0 : decode prog_11_method_14_code 0 = .ok (.iconst 0, 1) := by decide +kernel
theorem d_Mo_putOn_1 : decode prog_11_method_14_code 1 = .ok (.istore 4, 2) := by decide +kernel
theorem d_Mo_putOn_3 : decode prog_11_method_14_code 3 = .ok (.aload_n 0, 1) := by decide +kernel
theorem d_Mo_putOn_4 : decode prog_11_method_14_code 4 = .ok (.getfield 27, 3) := by decide +kernel
theorem d_Mo_putOn_7 : decode prog_11_method_14_code 7 = .ok (.iload_n 2, 1) := by decide +kernel
theorem d_Mo_putOn_8 : decode prog_11_method_14_code 8 = .ok (.iaload, 1) := by decide +kernel
theorem d_Mo_putOn_9 : decode prog_11_method_14_code 9 = .ok (.istore 5, 2) := by decide +kernel
theorem d_Mo_putOn_11 : decode prog_11_method_14_code 11 = .ok (.iconst 0, 1) := by decide +kernel
theorem d_Mo_putOn_12 : decode prog_11_method_14_code 12 = .ok (.istore 6, 2) := by decide +kernel
theorem d_Mo_putOn_14 : decode prog_11_method_14_code 14 = .ok (.iload 6, 2) := by decide +kernel
theorem d_Mo_putOn_16 : decode prog_11_method_14_code 16 = .ok (.iload 5, 2) := by decide +kernel
theorem d_Mo_putOn_18 : decode prog_11_method_14_code 18 = .ok (.if_icmp .gt 95, 3) := by decide +kernel
theorem d_Mo_putOn_21 : decode prog_11_method_14_code 21 = .ok (.sipush 4300, 3) := by decide +kernel
theorem d_Mo_putOn_24 : decode prog_11_method_14_code 24 = .ok (.iload_n 1, 1) := by decide +kernel
theorem d_Mo_putOn_25 : decode prog_11_method_14_code 25 = .ok (.imul, 1) := by decide +kernel
theorem d_Mo_putOn_26 : decode prog_11_method_14_code 26 = .ok (.iload_n 3, 1) := by decide +kernel
theorem d_Mo_putOn_27 : decode prog_11_method_14_code 27 = .ok (.iadd, 1) := by decide +kernel
theorem d_Mo_putOn_28 : decode prog_11_method_14_code 28 = .ok (.iload 6, 2) := by decide +kernel
theorem d_Mo_putOn_30 : decode prog_11_method_14_code 30 = .ok (.iadd, 1) := by decide +kernel
theorem d_Mo_putOn_31 : decode prog_11_method_14_code 31 = .ok (.istore 7, 2) := by decide +kernel
theorem d_Mo_putOn_33 : decode prog_11_method_14_code 33 = .ok (.aload_n 0, 1) := by decide +kernel
theorem d_Mo_putOn_34 : decode prog_11_method_14_code 34 = .ok (.getfield 24, 3) := by decide +kernel
theorem d_Mo_putOn_37 : decode prog_11_method_14_code 37 = .ok (.iload 7, 2) := by decide +kernel
theorem d_Mo_putOn_39 : decode prog_11_method_14_code 39 = .ok (.iaload, 1) := by decide +kernel
theorem d_Mo_putOn_40 : decode prog_11_method_14_code 40 = .ok (.iload 6, 2) := by decide +kernel
theorem d_Mo_putOn_42 : decode prog_11_method_14_code 42 = .ok (.iload 5, 2) := by decide +kernel
theorem d_Mo_putOn_44 : decode prog_11_method_14_code 44 = .ok (.if_icmp .ge 19, 3) := by decide +kernel
theorem d_Mo_putOn_47 : decode prog_11_method_14_code 47 = .ok (.aload_n 0, 1) := by decide +kernel
theorem d_Mo_putOn_48 : decode prog_11_method_14_code 48 = .ok (.getfield 24, 3) := by decide +kernel
theorem d_Mo_putOn_51 : decode prog_11_method_14_code 51 = .ok (.sipush 4300, 3) := by decide +kernel
theorem d_Mo_putOn_54 : decode prog_11_method_14_code 54 = .ok (.iload_n 2, 1) := by decide +kernel
theorem d_Mo_putOn_55 : decode prog_11_method_14_code 55 = .ok (.imul, 1) := by decide +kernel
theorem d_Mo_putOn_56 : decode prog_11_method_14_code 56 = .ok (.iload 6, 2) := by decide +kernel
theorem d_Mo_putOn_58 : decode prog_11_method_14_code 58 = .ok (.iadd, 1) := by decide +kernel
theorem d_Mo_putOn_59 : decode prog_11_method_14_code 59 = .ok (.iaload, 1) := by decide +kernel
theorem d_Mo_putOn_60 : decode prog_11_method_14_code 60 = .ok (.goto 4, 3) := by decide +kernel
theorem d_Mo_putOn_63 : decode prog_11_method_14_code 63 = .ok (.iconst 0, 1) := by decide +kernel
theorem d_Mo_putOn_64 : decode prog_11_method_14_code 64 = .ok (.iadd, 1) := by decide +kernel
theorem d_Mo_putOn_65 : decode prog_11_method_14_code 65 = .ok (.iload 4, 2) := by decide +kernel
theorem d_Mo_putOn_67 : decode prog_11_method_14_code 67 = .ok (.iadd, 1) := by decide +kernel
theorem d_Mo_putOn_68 : decode prog_11_method_14_code 68 = .ok (.ldc 62, 2) := by decide +kernel
theorem d_Mo_putOn_70 : decode prog_11_method_14_code 70 = .ok (.isub, 1) := by decide +kernel
theorem d_Mo_putOn_71 : decode prog_11_method_14_code 71 = .ok (.istore 8, 2) := by decide +kernel
theorem d_Mo_putOn_73 : decode prog_11_method_14_code 73 = .ok (.iload 8, 2) := by decide +kernel
theorem d_Mo_putOn_75 : decode prog_11_method_14_code 75 = .ok (.ifCond .lt 7, 3) := by decide +kernel
theorem d_Mo_putOn_78 : decode prog_11_method_14_code 78 = .ok (.iconst 1, 1) := by decide +kernel
theorem d_Mo_putOn_79 : decode prog_11_method_14_code 79 = .ok (.goto 4, 3) := by decide +kernel
theorem d_Mo_putOn_82 : decode prog_11_method_14_code 82 = .ok (.iconst 0, 1) := by decide +kernel
theorem d_Mo_putOn_83 : decode prog_11_method_14_code 83 = .ok (.istore 4, 2) := by decide +kernel
theorem d_Mo_putOn_85 : decode prog_11_method_14_code 85 = .ok (.aload_n 0, 1) := by decide +kernel
theorem d_Mo_putOn_86 : decode prog_11_method_14_code 86 = .ok (.getfield 24, 3) := by decide +kernel
theorem d_Mo_putOn_89 : decode prog_11_method_14_code 89 = .ok (.iload 7, 2) := by decide +kernel
theorem d_Mo_putOn_91 : decode prog_11_method_14_code 91 = .ok (.iload 8, 2) := by decide +kernel
theorem d_Mo_putOn_93 : decode prog_11_method_14_code 93 = .ok (.ifCond .lt 8, 3) := by decide +kernel
theorem d_Mo_putOn_96 : decode prog_11_method_14_code 96 = .ok (.iload 8, 2) := by decide +kernel
theorem d_Mo_putOn_98 : decode prog_11_method_14_code 98 = .ok (.goto 8, 3) := by decide +kernel
theorem d_Mo_putOn_101 : decode prog_11_method_14_code 101 = .ok (.iload 8, 2) := by decide +kernel
theorem d_Mo_putOn_103 : decode prog_11_method_14_code 103 = .ok (.ldc 62, 2) := by decide +kernel
theorem d_Mo_putOn_105 : decode prog_11_method_14_code 105 = .ok (.iadd, 1) := by decide +kernel
theorem d_Mo_putOn_106 : decode prog_11_method_14_code 106 = .ok (.iastore, 1) := by decide +kernel
theorem d_Mo_putOn_107 : decode prog_11_method_14_code 107 = .ok (.iinc 6 1, 3) := by decide +kernel
theorem d_Mo_putOn_110 : decode prog_11_method_14_code 110 = .ok (.goto (-96), 3) := by decide +kernel
theorem d_Mo_putOn_113 : decode prog_11_method_14_code 113 = .ok (.return_, 1) := by decide +kernel
theorem d_Mo_divide_0 : decode prog_11_method_15_code 0 = .ok (.aload_n 0, 1) := by decide +kernel
theorem d_Mo_divide_1 : decode prog_11_method_15_code 1 = .ok (.iload_n 1, 1) := by decide +kernel
theorem d_Mo_divide_2 : decode prog_11_method_15_code 2 = .ok (.iload_n 2, 1) := by decide +kernel
theorem d_Mo_divide_3 : decode prog_11_method_15_code 3 = .ok (.invokevirtual 67, 3) := by decide +kernel
theorem d_Mo_divide_6 : decode prog_11_method_15_code 6 = .ok (.ifCond .ge 12, 3) := by decide +kernel
theorem d_Mo_divide_9 : decode prog_11_method_15_code 9 = .ok (.aload_n 0, 1) := by decide +kernel
theorem d_Mo_divide_10 : decode prog_11_method_15_code 10 = .ok (.getfield 27, 3) := by decide +kernel
theorem d_Mo_divide_13 : decode prog_11_method_15_code 13 = .ok (.bipush 8, 2) := by decide +kernel
theorem d_Mo_divide_15 : decode prog_11_method_15_code 15 = .ok (.iconst 0, 1) := by decide +kernel
theorem d_Mo_divide_16 : decode prog_11_method_15_code 16 = .ok (.iastore, 1) := by decide +kernel
theorem d_Mo_divide_17 : decode prog_11_method_15_code 17 = .ok (.return_, 1) := by decide +kernel
theorem d_Mo_divide_18 : decode prog_11_method_15_code 18 = .ok (.aload_n 0, 1) := by decide +kernel
theorem d_Mo_divide_19 : decode prog_11_method_15_code 19 = .ok (.getfield 27, 3) := by decide +kernel
theorem d_Mo_divide_22 : decode prog_11_method_15_code 22 = .ok (.iload_n 2, 1) := by decide +kernel
theorem d_Mo_divide_23 : decode prog_11_method_15_code 23 = .ok (.iaload, 1) := by decide +kernel
theorem d_Mo_divide_24 : decode prog_11_method_15_code 24 = .ok (.iconst 1, 1) := by decide +kernel
theorem d_Mo_divide_25 : decode prog_11_method_15_code 25 = .ok (.if_icmp .ne 35, 3) := by decide +kernel
theorem d_Mo_divide_28 : decode prog_11_method_15_code 28 = .ok (.aload_n 0, 1) := by decide +kernel
theorem d_Mo_divide_29 : decode prog_11_method_15_code 29 = .ok (.bipush 8, 2) := by decide +kernel
theorem d_Mo_divide_31 : decode prog_11_method_15_code 31 = .ok (.iload_n 1, 1) := by decide +kernel
theorem d_Mo_divide_32 : decode prog_11_method_15_code 32 = .ok (.invokevirtual 70, 3) := by decide +kernel
theorem d_Mo_divide_35 : decode prog_11_method_15_code 35 = .ok (.aload_n 0, 1) := by decide +kernel
theorem d_Mo_divide_36 : decode prog_11_method_15_code 36 = .ok (.bipush 8, 2) := by decide +kernel
theorem d_Mo_divide_38 : decode prog_11_method_15_code 38 = .ok (.aload_n 0, 1) := by decide +kernel
theorem d_Mo_divide_39 : decode prog_11_method_15_code 39 = .ok (.getfield 24, 3) := by decide +kernel
theorem d_Mo_divide_42 : decode prog_11_method_15_code 42 = .ok (.sipush 4300, 3) := by decide +kernel
theorem d_Mo_divide_45 : decode prog_11_method_15_code 45 = .ok (.iload_n 2, 1) := by decide +kernel
theorem d_Mo_divide_46 : decode prog_11_method_15_code 46 = .ok (.imul, 1) := by decide +kernel
theorem d_Mo_divide_47 : decode prog_11_method_15_code 47 = .ok (.iaload, 1) := by decide +kernel
theorem d_Mo_divide_48 : decode prog_11_method_15_code 48 = .ok (.i2l, 1) := by decide +kernel
theorem d_Mo_divide_49 : decode prog_11_method_15_code 49 = .ok (.invokevirtual 74, 3) := by decide +kernel
theorem d_Mo_divide_52 : decode prog_11_method_15_code 52 = .ok (.lstore_n 3, 1) := by decide +kernel
theorem d_Mo_divide_53 : decode prog_11_method_15_code 53 = .ok (.aload_n 0, 1) := by decide +kernel
theorem d_Mo_divide_54 : decode prog_11_method_15_code 54 = .ok (.iload_n 1, 1) := by decide +kernel
theorem d_Mo_divide_55 : decode prog_11_method_15_code 55 = .ok (.lload_n 3, 1) := by decide +kernel
theorem d_Mo_divide_56 : decode prog_11_method_15_code 56 = .ok (.invokevirtual 78, 3) := by decide +kernel
theorem d_Mo_divide_59 : decode prog_11_method_15_code 59 = .ok (.return_, 1) := by decide +kernel
theorem d_Mo_divide_60 : decode prog_11_method_15_code 60 = .ok (.ldc 62, 2) := by decide +kernel
theorem d_Mo_divide_62 : decode prog_11_method_15_code 62 = .ok (.aload_n 0, 1) := by decide +kernel
theorem d_Mo_divide_63 : decode prog_11_method_15_code 63 = .ok (.getfield 24, 3) := by decide +kernel
theorem d_Mo_divide_66 : decode prog_11_method_15_code 66 = .ok (.sipush 4300, 3) := by decide +kernel
theorem d_Mo_divide_69 : decode prog_11_method_15_code 69 = .ok (.iload_n 2, 1) := by decide +kernel
theorem d_Mo_divide_70 : decode prog_11_method_15_code 70 = .ok (.imul, 1) := by decide +kernel
theorem d_Mo_divide_71 : decode prog_11_method_15_code 71 = .ok (.aload_n 0, 1) := by decide +kernel
theorem d_Mo_divide_72 : decode prog_11_method_15_code 72 = .ok (.getfield 27, 3) := by decide +kernel
theorem d_Mo_divide_75 : decode prog_11_method_15_code 75 = .ok (.iload_n 2, 1) := by decide +kernel
theorem d_Mo_divide_76 : decode prog_11_method_15_code 76 = .ok (.iaload, 1) := by decide +kernel
theorem d_Mo_divide_77 : decode prog_11_method_15_code 77 = .ok (.iadd, 1) := by decide +kernel
theorem d_Mo_divide_78 : decode prog_11_method_15_code 78 = .ok (.iconst 1, 1) := by decide +kernel
theorem d_Mo_divide_79 : decode prog_11_method_15_code 79 = .ok (.isub, 1) := by decide +kernel
theorem d_Mo_divide_80 : decode prog_11_method_15_code 80 = .ok (.iaload, 1) := by decide +kernel
theorem d_Mo_divide_81 : decode prog_11_method_15_code 81 = .ok (.iconst 1, 1) := by decide +kernel
theorem d_Mo_divide_82 : decode prog_11_method_15_code 82 = .ok (.iadd, 1) := by decide +kernel
theorem d_Mo_divide_83 : decode prog_11_method_15_code 83 = .ok (.idiv, 1) := by decide +kernel
theorem d_Mo_divide_84 : decode prog_11_method_15_code 84 = .ok (.istore_n 3, 1) := by decide +kernel
theorem d_Mo_divide_85 : decode prog_11_method_15_code 85 = .ok (.aload_n 0, 1) := by decide +kernel
theorem d_Mo_divide_86 : decode prog_11_method_15_code 86 = .ok (.iload_n 1, 1) := by decide +kernel
theorem d_Mo_divide_87 : decode prog_11_method_15_code 87 = .ok (.iload_n 3, 1) := by decide +kernel
theorem d_Mo_divide_88 : decode prog_11_method_15_code 88 = .ok (.i2l, 1) := by decide +kernel
theorem d_Mo_divide_89 : decode prog_11_method_15_code 89 = .ok (.invokevirtual 82, 3) := by decide +kernel
theorem d_Mo_divide_92 : decode prog_11_method_15_code 92 = .ok (.aload_n 0, 1) := by decide +kernel
theorem d_Mo_divide_93 : decode prog_11_method_15_code 93 = .ok (.iload_n 2, 1) := by decide +kernel
theorem d_Mo_divide_94 : decode prog_11_method_15_code 94 = .ok (.iload_n 3, 1) := by decide +kernel
theorem d_Mo_divide_95 : decode prog_11_method_15_code 95 = .ok (.i2l, 1) := by decide +kernel
theorem d_Mo_divide_96 : decode prog_11_method_15_code 96 = .ok (.invokevirtual 82, 3) := by decide +kernel
theorem d_Mo_divide_99 : decode prog_11_method_15_code 99 = .ok (.aload_n 0, 1) := by decide +kernel
theorem d_Mo_divide_100 : decode prog_11_method_15_code 100 = .ok (.getfield 27, 3) := by decide +kernel
theorem d_Mo_divide_103 : decode prog_11_method_15_code 103 = .ok (.iload_n 2, 1) := by decide +kernel
theorem d_Mo_divide_104 : decode prog_11_method_15_code 104 = .ok (.iaload, 1) := by decide +kernel
theorem d_Mo_divide_105 : decode prog_11_method_15_code 105 = .ok (.istore 4, 2) := by decide +kernel
theorem d_Mo_divide_107 : decode prog_11_method_15_code 107 = .ok (.aload_n 0, 1) := by decide +kernel
theorem d_Mo_divide_108 : decode prog_11_method_15_code 108 = .ok (.getfield 27, 3) := by decide +kernel
theorem d_Mo_divide_111 : decode prog_11_method_15_code 111 = .ok (.iload_n 1, 1) := by decide +kernel
theorem d_Mo_divide_112 : decode prog_11_method_15_code 112 = .ok (.iaload, 1) := by decide +kernel
theorem d_Mo_divide_113 : decode prog_11_method_15_code 113 = .ok (.iload 4, 2) := by decide +kernel
theorem d_Mo_divide_115 : decode prog_11_method_15_code 115 = .ok (.isub, 1) := by decide +kernel
theorem d_Mo_divide_116 : decode prog_11_method_15_code 116 = .ok (.istore 5, 2) := by decide +kernel
theorem d_Mo_divide_118 : decode prog_11_method_15_code 118 = .ok (.aload_n 0, 1) := by decide +kernel
theorem d_Mo_divide_119 : decode prog_11_method_15_code 119 = .ok (.getfield 24, 3) := by decide +kernel
theorem d_Mo_divide_122 : decode prog_11_method_15_code 122 = .ok (.sipush 4300, 3) := by decide +kernel
theorem d_Mo_divide_125 : decode prog_11_method_15_code 125 = .ok (.iload_n 1, 1) := by decide +kernel
theorem d_Mo_divide_126 : decode prog_11_method_15_code 126 = .ok (.imul, 1) := by decide +kernel
theorem d_Mo_divide_127 : decode prog_11_method_15_code 127 = .ok (.aload_n 0, 1) := by decide +kernel
theorem d_Mo_divide_128 : decode prog_11_method_15_code 128 = .ok (.getfield 27, 3) := by decide +kernel
theorem d_Mo_divide_131 : decode prog_11_method_15_code 131 = .ok (.iload_n 1, 1) := by decide +kernel
theorem d_Mo_divide_132 : decode prog_11_method_15_code 132 = .ok (.iaload, 1) := by decide +kernel
theorem d_Mo_divide_133 : decode prog_11_method_15_code 133 = .ok (.iadd, 1) := by decide +kernel
theorem d_Mo_divide_134 : decode prog_11_method_15_code 134 = .ok (.iconst 0, 1) := by decide +kernel
theorem d_Mo_divide_135 : decode prog_11_method_15_code 135 = .ok (.iastore, 1) := by decide +kernel
theorem d_Mo_divide_136 : decode prog_11_method_15_code 136 = .ok (.aload_n 0, 1) := by decide +kernel
theorem d_Mo_divide_137 : decode prog_11_method_15_code 137 = .ok (.getfield 24, 3) := by decide +kernel
theorem d_Mo_divide_140 : decode prog_11_method_15_code 140 = .ok (.sipush 4300, 3) := by decide +kernel
theorem d_Mo_divide_143 : decode prog_11_method_15_code 143 = .ok (.iload_n 2, 1) := by decide +kernel
theorem d_Mo_divide_144 : decode prog_11_method_15_code 144 = .ok (.imul, 1) := by decide +kernel
theorem d_Mo_divide_145 : decode prog_11_method_15_code 145 = .ok (.iload 4, 2) := by decide +kernel
theorem d_Mo_divide_147 : decode prog_11_method_15_code 147 = .ok (.iadd, 1) := by decide +kernel
theorem d_Mo_divide_148 : decode prog_11_method_15_code 148 = .ok (.iconst 1, 1) := by decide +kernel
theorem d_Mo_divide_149 : decode prog_11_method_15_code 149 = .ok (.isub, 1) := by decide +kernel
theorem d_Mo_divide_150 : decode prog_11_method_15_code 150 = .ok (.iaload, 1) := by decide +kernel
theorem d_Mo_divide_151 : decode prog_11_method_15_code 151 = .ok (.i2l, 1) := by decide +kernel
theorem d_Mo_divide_152 : decode prog_11_method_15_code 152 = .ok (.lstore 6, 2) := by decide +kernel
theorem d_Mo_divide_154 : decode prog_11_method_15_code 154 = .ok (.aload_n 0, 1) := by decide +kernel
theorem d_Mo_divide_155 : decode prog_11_method_15_code 155 = .ok (.getfield 24, 3) := by decide +kernel
theorem d_Mo_divide_158 : decode prog_11_method_15_code 158 = .ok (.sipush 4300, 3) := by decide +kernel
theorem d_Mo_divide_161 : decode prog_11_method_15_code 161 = .ok (.iload_n 2, 1) := by decide +kernel
theorem d_Mo_divide_162 : decode prog_11_method_15_code 162 = .ok (.imul, 1) := by decide +kernel
theorem d_Mo_divide_163 : decode prog_11_method_15_code 163 = .ok (.iload 4, 2) := by decide +kernel
theorem d_Mo_divide_165 : decode prog_11_method_15_code 165 = .ok (.iadd, 1) := by decide +kernel
theorem d_Mo_divide_166 : decode prog_11_method_15_code 166 = .ok (.iconst 2, 1) := by decide +kernel
theorem d_Mo_divide_167 : decode prog_11_method_15_code 167 = .ok (.isub, 1) := by decide +kernel
theorem d_Mo_divide_168 : decode prog_11_method_15_code 168 = .ok (.iaload, 1) := by decide +kernel
theorem d_Mo_divide_169 : decode prog_11_method_15_code 169 = .ok (.i2l, 1) := by decide +kernel
theorem d_Mo_divide_170 : decode prog_11_method_15_code 170 = .ok (.lstore 8, 2) := by decide +kernel
theorem d_Mo_divide_172 : decode prog_11_method_15_code 172 = .ok (.iload 5, 2) := by decide +kernel
theorem d_Mo_divide_174 : decode prog_11_method_15_code 174 = .ok (.istore 10, 2) := by decide +kernel
theorem d_Mo_divide_176 : decode prog_11_method_15_code 176 = .ok (.iload 10, 2) := by decide +kernel
theorem d_Mo_divide_178 : decode prog_11_method_15_code 178 = .ok (.ifCond .lt 165, 3) := by decide +kernel
theorem d_Mo_divide_181 : decode prog_11_method_15_code 181 = .ok (.sipush 4300, 3) := by decide +kernel
theorem d_Mo_divide_184 : decode prog_11_method_15_code 184 = .ok (.iload_n 1, 1) := by decide +kernel
theorem d_Mo_divide_185 : decode prog_11_method_15_code 185 = .ok (.imul, 1) := by decide +kernel
theorem d_Mo_divide_186 : decode prog_11_method_15_code 186 = .ok (.iload 10, 2) := by decide +kernel
theorem d_Mo_divide_188 : decode prog_11_method_15_code 188 = .ok (.iadd, 1) := by decide +kernel
theorem d_Mo_divide_189 : decode prog_11_method_15_code 189 = .ok (.iload 4, 2) := by decide +kernel
theorem d_Mo_divide_191 : decode prog_11_method_15_code 191 = .ok (.iadd, 1) := by decide +kernel
theorem d_Mo_divide_192 : decode prog_11_method_15_code 192 = .ok (.istore 11, 2) := by decide +kernel
theorem d_Mo_divide_194 : decode prog_11_method_15_code 194 = .ok (.aload_n 0, 1) := by decide +kernel
theorem d_Mo_divide_195 : decode prog_11_method_15_code 195 = .ok (.getfield 24, 3) := by decide +kernel
theorem d_Mo_divide_198 : decode prog_11_method_15_code 198 = .ok (.iload 11, 2) := by decide +kernel
theorem d_Mo_divide_200 : decode prog_11_method_15_code 200 = .ok (.iaload, 1) := by decide +kernel
theorem d_Mo_divide_201 : decode prog_11_method_15_code 201 = .ok (.i2l, 1) := by decide +kernel
theorem d_Mo_divide_202 : decode prog_11_method_15_code 202 = .ok (.ldc2_w 56, 3) := by decide +kernel
theorem d_Mo_divide_205 : decode prog_11_method_15_code 205 = .ok (.lmul, 1) := by decide +kernel
theorem d_Mo_divide_206 : decode prog_11_method_15_code 206 = .ok (.aload_n 0, 1) := by decide +kernel
theorem d_Mo_divide_207 : decode prog_11_method_15_code 207 = .ok (.getfield 24, 3) := by decide +kernel
theorem d_Mo_divide_210 : decode prog_11_method_15_code 210 = .ok (.iload 11, 2) := by decide +kernel
theorem d_Mo_divide_212 : decode prog_11_method_15_code 212 = .ok (.iconst 1, 1) := by decide +kernel
theorem d_Mo_divide_213 : decode prog_11_method_15_code 213 = .ok (.isub, 1) := by decide +kernel
theorem d_Mo_divide_214 : decode prog_11_method_15_code 214 = .ok (.iaload, 1) := by decide +kernel
theorem d_Mo_divide_215 : decode prog_11_method_15_code 215 = .ok (.i2l, 1) := by decide +kernel
theorem d_Mo_divide_216 : decode prog_11_method_15_code 216 = .ok (.ladd, 1) := by decide +kernel
theorem d_Mo_divide_217 : decode prog_11_method_15_code 217 = .ok (.lstore 12, 2) := by decide +kernel
theorem d_Mo_divide_219 : decode prog_11_method_15_code 219 = .ok (.lload 12, 2) := by decide +kernel
theorem d_Mo_divide_221 : decode prog_11_method_15_code 221 = .ok (.lload 6, 2) := by decide +kernel
theorem d_Mo_divide_223 : decode prog_11_method_15_code 223 = .ok (.ldiv, 1) := by decide +kernel
theorem d_Mo_divide_224 : decode prog_11_method_15_code 224 = .ok (.lstore 14, 2) := by decide +kernel
theorem d_Mo_divide_226 : decode prog_11_method_15_code 226 = .ok (.lload 12, 2) := by decide +kernel
theorem d_Mo_divide_228 : decode prog_11_method_15_code 228 = .ok (.lload 14, 2) := by decide +kernel
theorem d_Mo_divide_230 : decode prog_11_method_15_code 230 = .ok (.lload 6, 2) := by decide +kernel
theorem d_Mo_divide_232 : decode prog_11_method_15_code 232 = .ok (.lmul, 1) := by decide +kernel
theorem d_Mo_divide_233 : decode prog_11_method_15_code 233 = .ok (.lsub, 1) := by decide +kernel
theorem d_Mo_divide_234 : decode prog_11_method_15_code 234 = .ok (.lstore 16, 2) := by decide +kernel
theorem d_Mo_divide_236 : decode prog_11_method_15_code 236 = .ok (.lload 16, 2) := by decide +kernel
theorem d_Mo_divide_238 : decode prog_11_method_15_code 238 = .ok (.ldc2_w 56, 3) := by decide +kernel
theorem d_Mo_divide_241 : decode prog_11_method_15_code 241 = .ok (.lcmp, 1) := by decide +kernel
theorem d_Mo_divide_242 : decode prog_11_method_15_code 242 = .ok (.ifCond .ge 54, 3) := by decide +kernel
theorem d_Mo_divide_245 : decode prog_11_method_15_code 245 = .ok (.lload 14, 2) := by decide +kernel
theorem d_Mo_divide_247 : decode prog_11_method_15_code 247 = .ok (.ldc2_w 56, 3) := by decide +kernel
theorem d_Mo_divide_250 : decode prog_11_method_15_code 250 = .ok (.lcmp, 1) := by decide +kernel
theorem d_Mo_divide_251 : decode prog_11_method_15_code 251 = .ok (.ifCond .ge 29, 3) := by decide +kernel
theorem d_Mo_divide_254 : decode prog_11_method_15_code 254 = .ok (.lload 14, 2) := by decide +kernel
theorem d_Mo_divide_256 : decode prog_11_method_15_code 256 = .ok (.lload 8, 2) := by decide +kernel
theorem d_Mo_divide_258 : decode prog_11_method_15_code 258 = .ok (.lmul, 1) := by decide +kernel
theorem d_Mo_divide_259 : decode prog_11_method_15_code 259 = .ok (.lload 16, 2) := by decide +kernel
theorem d_Mo_divide_261 : decode prog_11_method_15_code 261 = .ok (.ldc2_w 56, 3) := by decide +kernel
theorem d_Mo_divide_264 : decode prog_11_method_15_code 264 = .ok (.lmul, 1) := by decide +kernel
theorem d_Mo_divide_265 : decode prog_11_method_15_code 265 = .ok (.aload_n 0, 1) := by decide +kernel
theorem d_Mo_divide_266 : decode prog_11_method_15_code 266 = .ok (.getfield 24, 3) := by decide +kernel
theorem d_Mo_divide_269 : decode prog_11_method_15_code 269 = .ok (.iload 11, 2) := by decide +kernel
theorem d_Mo_divide_271 : decode prog_11_method_15_code 271 = .ok (.iconst 2, 1) := by decide +kernel
theorem d_Mo_divide_272 : decode prog_11_method_15_code 272 = .ok (.isub, 1) := by decide +kernel
theorem d_Mo_divide_273 : decode prog_11_method_15_code 273 = .ok (.iaload, 1) := by decide +kernel
theorem d_Mo_divide_274 : decode prog_11_method_15_code 274 = .ok (.i2l, 1) := by decide +kernel
theorem d_Mo_divide_275 : decode prog_11_method_15_code 275 = .ok (.ladd, 1) := by decide +kernel
theorem d_Mo_divide_276 : decode prog_11_method_15_code 276 = .ok (.lcmp, 1) := by decide +kernel
theorem d_Mo_divide_277 : decode prog_11_method_15_code 277 = .ok (.ifCond .le 19, 3) := by decide +kernel
theorem d_Mo_divide_280 : decode prog_11_method_15_code 280 = .ok (.lload 14, 2) := by decide +kernel
theorem d_Mo_divide_282 : decode prog_11_method_15_code 282 = .ok (.lconst 1, 1) := by decide +kernel
theorem d_Mo_divide_283 : decode prog_11_method_15_code 283 = .ok (.lsub, 1) := by decide +kernel
theorem d_Mo_divide_284 : decode prog_11_method_15_code 284 = .ok (.lstore 14, 2) := by decide +kernel
theorem d_Mo_divide_286 : decode prog_11_method_15_code 286 = .ok (.lload 16, 2) := by decide +kernel
theorem d_Mo_divide_288 : decode prog_11_method_15_code 288 = .ok (.lload 6, 2) := by decide +kernel
theorem d_Mo_divide_290 : decode prog_11_method_15_code 290 = .ok (.ladd, 1) := by decide +kernel
theorem d_Mo_divide_291 : decode prog_11_method_15_code 291 = .ok (.lstore 16, 2) := by decide +kernel
theorem d_Mo_divide_293 : decode prog_11_method_15_code 293 = .ok (.goto (-57), 3) := by decide +kernel
theorem d_Mo_divide_296 : decode prog_11_method_15_code 296 = .ok (.aload_n 0, 1) := by decide +kernel
theorem d_Mo_divide_297 : decode prog_11_method_15_code 297 = .ok (.iload_n 1, 1) := by decide +kernel
theorem d_Mo_divide_298 : decode prog_11_method_15_code 298 = .ok (.iload_n 2, 1) := by decide +kernel
theorem d_Mo_divide_299 : decode prog_11_method_15_code 299 = .ok (.lload 14, 2) := by decide +kernel
theorem d_Mo_divide_301 : decode prog_11_method_15_code 301 = .ok (.l2i, 1) := by decide +kernel
theorem d_Mo_divide_302 : decode prog_11_method_15_code 302 = .ok (.iload 10, 2) := by decide +kernel
theorem d_Mo_divide_304 : decode prog_11_method_15_code 304 = .ok (.invokevirtual 85, 3) := by decide +kernel
theorem d_Mo_divide_307 : decode prog_11_method_15_code 307 = .ok (.ifCond .eq 17, 3) := by decide +kernel
theorem d_Mo_divide_310 : decode prog_11_method_15_code 310 = .ok (.lload 14, 2) := by decide +kernel
theorem d_Mo_divide_312 : decode prog_11_method_15_code 312 = .ok (.lconst 1, 1) := by decide +kernel
theorem d_Mo_divide_313 : decode prog_11_method_15_code 313 = .ok (.lsub, 1) := by decide +kernel
theorem d_Mo_divide_314 : decode prog_11_method_15_code 314 = .ok (.lstore 14, 2) := by decide +kernel
theorem d_Mo_divide_316 : decode prog_11_method_15_code 316 = .ok (.aload_n 0, 1) := by decide +kernel
theorem d_Mo_divide_317 : decode prog_11_method_15_code 317 = .ok (.iload_n 1, 1) := by decide +kernel
theorem d_Mo_divide_318 : decode prog_11_method_15_code 318 = .ok (.iload_n 2, 1) := by decide +kernel
theorem d_Mo_divide_319 : decode prog_11_method_15_code 319 = .ok (.iload 10, 2) := by decide +kernel
theorem d_Mo_divide_321 : decode prog_11_method_15_code 321 = .ok (.invokevirtual 89, 3) := by decide +kernel
theorem d_Mo_divide_324 : decode prog_11_method_15_code 324 = .ok (.aload_n 0, 1) := by decide +kernel
theorem d_Mo_divide_325 : decode prog_11_method_15_code 325 = .ok (.getfield 24, 3) := by decide +kernel
theorem d_Mo_divide_328 : decode prog_11_method_15_code 328 = .ok (.ldc 93, 2) := by decide +kernel
theorem d_Mo_divide_330 : decode prog_11_method_15_code 330 = .ok (.iload 10, 2) := by decide +kernel
theorem d_Mo_divide_332 : decode prog_11_method_15_code 332 = .ok (.iadd, 1) := by decide +kernel
theorem d_Mo_divide_333 : decode prog_11_method_15_code 333 = .ok (.lload 14, 2) := by decide +kernel
theorem d_Mo_divide_335 : decode prog_11_method_15_code 335 = .ok (.l2i, 1) := by decide +kernel
theorem d_Mo_divide_336 : decode prog_11_method_15_code 336 = .ok (.iastore, 1) := by decide +kernel
theorem d_Mo_divide_337 : decode prog_11_method_15_code 337 = .ok (.iinc 10 (-1), 3) := by decide +kernel
theorem d_Mo_divide_340 : decode prog_11_method_15_code 340 = .ok (.goto (-164), 3) := by decide +kernel
theorem d_Mo_divide_343 : decode prog_11_method_15_code 343 = .ok (.aload_n 0, 1) := by decide +kernel
theorem d_Mo_divide_344 : decode prog_11_method_15_code 344 = .ok (.getfield 27, 3) := by decide +kernel
theorem d_Mo_divide_347 : decode prog_11_method_15_code 347 = .ok (.bipush 8, 2) := by decide +kernel
theorem d_Mo_divide_349 : decode prog_11_method_15_code 349 = .ok (.iload 5, 2) := by decide +kernel
theorem d_Mo_divide_351 : decode prog_11_method_15_code 351 = .ok (.iconst 1, 1) := by decide +kernel
theorem d_Mo_divide_352 : decode prog_11_method_15_code 352 = .ok (.iadd, 1) := by decide +kernel
theorem d_Mo_divide_353 : decode prog_11_method_15_code 353 = .ok (.iastore, 1) := by decide +kernel
theorem d_Mo_divide_354 : decode prog_11_method_15_code 354 = .ok (.aload_n 0, 1) := by decide +kernel
theorem d_Mo_divide_355 : decode prog_11_method_15_code 355 = .ok (.bipush 8, 2) := by decide +kernel
theorem d_Mo_divide_357 : decode prog_11_method_15_code 357 = .ok (.invokevirtual 63, 3) := by decide +kernel
theorem d_Mo_divide_360 : decode prog_11_method_15_code 360 = .ok (.aload_n 0, 1) := by decide +kernel
theorem d_Mo_divide_361 : decode prog_11_method_15_code 361 = .ok (.getfield 27, 3) := by decide +kernel
theorem d_Mo_divide_364 : decode prog_11_method_15_code 364 = .ok (.iload_n 1, 1) := by decide +kernel
theorem d_Mo_divide_365 : decode prog_11_method_15_code 365 = .ok (.iload 4, 2) := by decide +kernel
theorem d_Mo_divide_367 : decode prog_11_method_15_code 367 = .ok (.iastore, 1) := by decide +kernel
theorem d_Mo_divide_368 : decode prog_11_method_15_code 368 = .ok (.aload_n 0, 1) := by decide +kernel
theorem d_Mo_divide_369 : decode prog_11_method_15_code 369 = .ok (.iload_n 1, 1) := by decide +kernel
theorem d_Mo_divide_370 : decode prog_11_method_15_code 370 = .ok (.invokevirtual 63, 3) := by decide +kernel
theorem d_Mo_divide_373 : decode prog_11_method_15_code 373 = .ok (.aload_n 0, 1) := by decide +kernel
theorem d_Mo_divide_374 : decode prog_11_method_15_code 374 = .ok (.iload_n 1, 1) := by decide +kernel
theorem d_Mo_divide_375 : decode prog_11_method_15_code 375 = .ok (.iload_n 3, 1) := by decide +kernel
theorem d_Mo_divide_376 : decode prog_11_method_15_code 376 = .ok (.i2l, 1) := by decide +kernel
theorem d_Mo_divide_377 : decode prog_11_method_15_code 377 = .ok (.invokevirtual 74, 3) := by decide +kernel
theorem d_Mo_divide_380 : decode prog_11_method_15_code 380 = .ok (.aload_n 0, 1) := by decide +kernel
theorem d_Mo_divide_381 : decode prog_11_method_15_code 381 = .ok (.iload_n 2, 1) := by decide +kernel
theorem d_Mo_divide_382 : decode prog_11_method_15_code 382 = .ok (.iload_n 3, 1) := by decide +kernel
theorem d_Mo_divide_383 : decode prog_11_method_15_code 383 = .ok (.i2l, 1) := by decide +kernel
theorem d_Mo_divide_384 : decode prog_11_method_15_code 384 = .ok (.invokevirtual 74, 3) := by decide +kernel
theorem d_Mo_divide_387 : decode prog_11_method_15_code 387 = .ok (.ladd, 1) := by decide +kernel
theorem d_Mo_divide_388 : decode prog_11_method_15_code 388 = .ok (.lstore 10, 2) := by decide +kernel
theorem d_Mo_divide_390 : decode prog_11_method_15_code 390 = .ok (.return_, 1) := by decide +kernel
theorem d_Mo_digits_0 : decode prog_11_method_16_code 0 = .ok (.aload_n 0, 1) := by decide +kernel
theorem d_Mo_digits_1 : decode prog_11_method_16_code 1 = .ok (.getfield 27, 3) := by decide +kernel
theorem d_Mo_digits_4 : decode prog_11_method_16_code 4 = .ok (.iload_n 1, 1) := by decide +kernel
theorem d_Mo_digits_5 : decode prog_11_method_16_code 5 = .ok (.iaload, 1) := by decide +kernel
theorem d_Mo_digits_6 : decode prog_11_method_16_code 6 = .ok (.ifCond .ne 5, 3) := by decide +kernel
theorem d_Mo_digits_9 : decode prog_11_method_16_code 9 = .ok (.iconst 1, 1) := by decide +kernel
theorem d_Mo_digits_10 : decode prog_11_method_16_code 10 = .ok (.ireturn, 1) := by decide +kernel
theorem d_Mo_digits_11 : decode prog_11_method_16_code 11 = .ok (.bipush 9, 2) := by decide +kernel
theorem d_Mo_digits_13 : decode prog_11_method_16_code 13 = .ok (.aload_n 0, 1) := by decide +kernel
theorem d_Mo_digits_14 : decode prog_11_method_16_code 14 = .ok (.getfield 27, 3) := by decide +kernel
theorem d_Mo_digits_17 : decode prog_11_method_16_code 17 = .ok (.iload_n 1, 1) := by decide +kernel
theorem d_Mo_digits_18 : decode prog_11_method_16_code 18 = .ok (.iaload, 1) := by decide +kernel
theorem d_Mo_digits_19 : decode prog_11_method_16_code 19 = .ok (.iconst 1, 1) := by decide +kernel
theorem d_Mo_digits_20 : decode prog_11_method_16_code 20 = .ok (.isub, 1) := by decide +kernel
theorem d_Mo_digits_21 : decode prog_11_method_16_code 21 = .ok (.imul, 1) := by decide +kernel
theorem d_Mo_digits_22 : decode prog_11_method_16_code 22 = .ok (.istore_n 2, 1) := by decide +kernel
theorem d_Mo_digits_23 : decode prog_11_method_16_code 23 = .ok (.aload_n 0, 1) := by decide +kernel
theorem d_Mo_digits_24 : decode prog_11_method_16_code 24 = .ok (.getfield 24, 3) := by decide +kernel
theorem d_Mo_digits_27 : decode prog_11_method_16_code 27 = .ok (.sipush 4300, 3) := by decide +kernel
theorem d_Mo_digits_30 : decode prog_11_method_16_code 30 = .ok (.iload_n 1, 1) := by decide +kernel
theorem d_Mo_digits_31 : decode prog_11_method_16_code 31 = .ok (.imul, 1) := by decide +kernel
theorem d_Mo_digits_32 : decode prog_11_method_16_code 32 = .ok (.aload_n 0, 1) := by decide +kernel
theorem d_Mo_digits_33 : decode prog_11_method_16_code 33 = .ok (.getfield 27, 3) := by decide +kernel
theorem d_Mo_digits_36 : decode prog_11_method_16_code 36 = .ok (.iload_n 1, 1) := by decide +kernel
theorem d_Mo_digits_37 : decode prog_11_method_16_code 37 = .ok (.iaload, 1) := by decide +kernel
theorem d_Mo_digits_38 : decode prog_11_method_16_code 38 = .ok (.iadd, 1) := by decide +kernel
theorem d_Mo_digits_39 : decode prog_11_method_16_code 39 = .ok (.iconst 1, 1) := by decide +kernel
theorem d_Mo_digits_40 : decode prog_11_method_16_code 40 = .ok (.isub, 1) := by decide +kernel
theorem d_Mo_digits_41 : decode prog_11_method_16_code 41 = .ok (.iaload, 1) := by decide +kernel
theorem d_Mo_digits_42 : decode prog_11_method_16_code 42 = .ok (.istore_n 3, 1) := by decide +kernel
theorem d_Mo_digits_43 : decode prog_11_method_16_code 43 = .ok (.iload_n 3, 1) := by decide +kernel
theorem d_Mo_digits_44 : decode prog_11_method_16_code 44 = .ok (.ifCond .le 14, 3) := by decide +kernel
theorem d_Mo_digits_47 : decode prog_11_method_16_code 47 = .ok (.iinc 2 1, 3) := by decide +kernel
theorem d_Mo_digits_50 : decode prog_11_method_16_code 50 = .ok (.iload_n 3, 1) := by decide +kernel
theorem d_Mo_digits_51 : decode prog_11_method_16_code 51 = .ok (.bipush 10, 2) := by decide +kernel
theorem d_Mo_digits_53 : decode prog_11_method_16_code 53 = .ok (.idiv, 1) := by decide +kernel
theorem d_Mo_digits_54 : decode prog_11_method_16_code 54 = .ok (.istore_n 3, 1) := by decide +kernel
theorem d_Mo_digits_55 : decode prog_11_method_16_code 55 = .ok (.goto (-12), 3) := by decide +kernel
theorem d_Mo_digits_58 : decode prog_11_method_16_code 58 = .ok (.iload_n 2, 1) := by decide +kernel
theorem d_Mo_digits_59 : decode prog_11_method_16_code 59 = .ok (.ireturn, 1) := by decide +kernel
theorem d_Mo_reduce_0 : decode prog_11_method_17_code 0 = .ok (.aload_n 0, 1) := by decide +kernel
theorem d_Mo_reduce_1 : decode prog_11_method_17_code 1 = .ok (.getfield 27, 3) := by decide +kernel
theorem d_Mo_reduce_4 : decode prog_11_method_17_code 4 = .ok (.iconst 0, 1) := by decide +kernel
theorem d_Mo_reduce_5 : decode prog_11_method_17_code 5 = .ok (.iaload, 1) := by decide +kernel
theorem d_Mo_reduce_6 : decode prog_11_method_17_code 6 = .ok (.ifCond .ne 15, 3) := by decide +kernel
theorem d_Mo_reduce_9 : decode prog_11_method_17_code 9 = .ok (.aload_n 0, 1) := by decide +kernel
theorem d_Mo_reduce_10 : decode prog_11_method_17_code 10 = .ok (.iconst 0, 1) := by decide +kernel
theorem d_Mo_reduce_11 : decode prog_11_method_17_code 11 = .ok (.putfield 94, 3) := by decide +kernel
theorem d_Mo_reduce_14 : decode prog_11_method_17_code 14 = .ok (.aload_n 0, 1) := by decide +kernel
theorem d_Mo_reduce_15 : decode prog_11_method_17_code 15 = .ok (.iconst 1, 1) := by decide +kernel
theorem d_Mo_reduce_16 : decode prog_11_method_17_code 16 = .ok (.lconst 1, 1) := by decide +kernel
theorem d_Mo_reduce_17 : decode prog_11_method_17_code 17 = .ok (.invokevirtual 78, 3) := by decide +kernel
theorem d_Mo_reduce_20 : decode prog_11_method_17_code 20 = .ok (.return_, 1) := by decide +kernel
theorem d_Mo_reduce_21 : decode prog_11_method_17_code 21 = .ok (.aload_n 0, 1) := by decide +kernel
theorem d_Mo_reduce_22 : decode prog_11_method_17_code 22 = .ok (.bipush 6, 2) := by decide +kernel
theorem d_Mo_reduce_24 : decode prog_11_method_17_code 24 = .ok (.iconst 0, 1) := by decide +kernel
theorem d_Mo_reduce_25 : decode prog_11_method_17_code 25 = .ok (.invokevirtual 70, 3) := by decide +kernel
theorem d_Mo_reduce_28 : decode prog_11_method_17_code 28 = .ok (.aload_n 0, 1) := by decide +kernel
theorem d_Mo_reduce_29 : decode prog_11_method_17_code 29 = .ok (.bipush 7, 2) := by decide +kernel
theorem d_Mo_reduce_31 : decode prog_11_method_17_code 31 = .ok (.iconst 1, 1) := by decide +kernel
theorem d_Mo_reduce_32 : decode prog_11_method_17_code 32 = .ok (.invokevirtual 70, 3) := by decide +kernel
theorem d_Mo_reduce_35 : decode prog_11_method_17_code 35 = .ok (.bipush 6, 2) := by decide +kernel
theorem d_Mo_reduce_37 : decode prog_11_method_17_code 37 = .ok (.istore_n 1, 1) := by decide +kernel
theorem d_Mo_reduce_38 : decode prog_11_method_17_code 38 = .ok (.bipush 7, 2) := by decide +kernel
theorem d_Mo_reduce_40 : decode prog_11_method_17_code 40 = .ok (.istore_n 2, 1) := by decide +kernel
theorem d_Mo_reduce_41 : decode prog_11_method_17_code 41 = .ok (.aload_n 0, 1) := by decide +kernel
theorem d_Mo_reduce_42 : decode prog_11_method_17_code 42 = .ok (.getfield 27, 3) := by decide +kernel
theorem d_Mo_reduce_45 : decode prog_11_method_17_code 45 = .ok (.iload_n 2, 1) := by decide +kernel
theorem d_Mo_reduce_46 : decode prog_11_method_17_code 46 = .ok (.iaload, 1) := by decide +kernel
theorem d_Mo_reduce_47 : decode prog_11_method_17_code 47 = .ok (.ifCond .le 18, 3) := by decide +kernel
theorem d_Mo_reduce_50 : decode prog_11_method_17_code 50 = .ok (.aload_n 0, 1) := by decide +kernel
theorem d_Mo_reduce_51 : decode prog_11_method_17_code 51 = .ok (.iload_n 1, 1) := by decide +kernel
theorem d_Mo_reduce_52 : decode prog_11_method_17_code 52 = .ok (.iload_n 2, 1) := by decide +kernel
theorem d_Mo_reduce_53 : decode prog_11_method_17_code 53 = .ok (.invokevirtual 97, 3) := by decide +kernel
theorem d_Mo_reduce_56 : decode prog_11_method_17_code 56 = .ok (.iload_n 1, 1) := by decide +kernel
theorem d_Mo_reduce_57 : decode prog_11_method_17_code 57 = .ok (.istore_n 3, 1) := by decide +kernel
theorem d_Mo_reduce_58 : decode prog_11_method_17_code 58 = .ok (.iload_n 2, 1) := by decide +kernel
theorem d_Mo_reduce_59 : decode prog_11_method_17_code 59 = .ok (.istore_n 1, 1) := by decide +kernel
theorem d_Mo_reduce_60 : decode prog_11_method_17_code 60 = .ok (.iload_n 3, 1) := by decide +kernel
theorem d_Mo_reduce_61 : decode prog_11_method_17_code 61 = .ok (.istore_n 2, 1) := by decide +kernel
theorem d_Mo_reduce_62 : decode prog_11_method_17_code 62 = .ok (.goto (-21), 3) := by decide +kernel
theorem d_Mo_reduce_65 : decode prog_11_method_17_code 65 = .ok (.aload_n 0, 1) := by decide +kernel
theorem d_Mo_reduce_66 : decode prog_11_method_17_code 66 = .ok (.getfield 27, 3) := by decide +kernel
theorem d_Mo_reduce_69 : decode prog_11_method_17_code 69 = .ok (.iload_n 1, 1) := by decide +kernel
theorem d_Mo_reduce_70 : decode prog_11_method_17_code 70 = .ok (.iaload, 1) := by decide +kernel
theorem d_Mo_reduce_71 : decode prog_11_method_17_code 71 = .ok (.iconst 1, 1) := by decide +kernel
theorem d_Mo_reduce_72 : decode prog_11_method_17_code 72 = .ok (.if_icmp .gt 17, 3) := by decide +kernel
theorem d_Mo_reduce_75 : decode prog_11_method_17_code 75 = .ok (.aload_n 0, 1) := by decide +kernel
theorem d_Mo_reduce_76 : decode prog_11_method_17_code 76 = .ok (.getfield 24, 3) := by decide +kernel
theorem d_Mo_reduce_79 : decode prog_11_method_17_code 79 = .ok (.sipush 4300, 3) := by decide +kernel
theorem d_Mo_reduce_82 : decode prog_11_method_17_code 82 = .ok (.iload_n 1, 1) := by decide +kernel
theorem d_Mo_reduce_83 : decode prog_11_method_17_code 83 = .ok (.imul, 1) := by decide +kernel
theorem d_Mo_reduce_84 : decode prog_11_method_17_code 84 = .ok (.iaload, 1) := by decide +kernel
theorem d_Mo_reduce_85 : decode prog_11_method_17_code 85 = .ok (.iconst 1, 1) := by decide +kernel
theorem d_Mo_reduce_86 : decode prog_11_method_17_code 86 = .ok (.if_icmp .le 29, 3) := by decide +kernel
theorem d_Mo_reduce_89 : decode prog_11_method_17_code 89 = .ok (.aload_n 0, 1) := by decide +kernel
theorem d_Mo_reduce_90 : decode prog_11_method_17_code 90 = .ok (.iconst 0, 1) := by decide +kernel
theorem d_Mo_reduce_91 : decode prog_11_method_17_code 91 = .ok (.iload_n 1, 1) := by decide +kernel
theorem d_Mo_reduce_92 : decode prog_11_method_17_code 92 = .ok (.invokevirtual 97, 3) := by decide +kernel
theorem d_Mo_reduce_95 : decode prog_11_method_17_code 95 = .ok (.aload_n 0, 1) := by decide +kernel
theorem d_Mo_reduce_96 : decode prog_11_method_17_code 96 = .ok (.iconst 0, 1) := by decide +kernel
theorem d_Mo_reduce_97 : decode prog_11_method_17_code 97 = .ok (.bipush 8, 2) := by decide +kernel
theorem d_Mo_reduce_99 : decode prog_11_method_17_code 99 = .ok (.invokevirtual 70, 3) := by decide +kernel
theorem d_Mo_reduce_102 : decode prog_11_method_17_code 102 = .ok (.aload_n 0, 1) := by decide +kernel
theorem d_Mo_reduce_103 : decode prog_11_method_17_code 103 = .ok (.iconst 1, 1) := by decide +kernel
theorem d_Mo_reduce_104 : decode prog_11_method_17_code 104 = .ok (.iload_n 1, 1) := by decide +kernel
theorem d_Mo_reduce_105 : decode prog_11_method_17_code 105 = .ok (.invokevirtual 97, 3) := by decide +kernel
theorem d_Mo_reduce_108 : decode prog_11_method_17_code 108 = .ok (.aload_n 0, 1) := by decide +kernel
theorem d_Mo_reduce_109 : decode prog_11_method_17_code 109 = .ok (.iconst 1, 1) := by decide +kernel
theorem d_Mo_reduce_110 : decode prog_11_method_17_code 110 = .ok (.bipush 8, 2) := by decide +kernel
theorem d_Mo_reduce_112 : decode prog_11_method_17_code 112 = .ok (.invokevirtual 70, 3) := by decide +kernel
theorem d_Mo_reduce_115 : decode prog_11_method_17_code 115 = .ok (.return_, 1) := by decide +kernel
theorem d_Mo_take_0 : decode prog_11_method_18_code 0 = .ok (.aload_n 0, 1) := by decide +kernel
theorem d_Mo_take_1 : decode prog_11_method_18_code 1 = .ok (.getfield 27, 3) := by decide +kernel
theorem d_Mo_take_4 : decode prog_11_method_18_code 4 = .ok (.iload_n 1, 1) := by decide +kernel
theorem d_Mo_take_5 : decode prog_11_method_18_code 5 = .ok (.aload_n 0, 1) := by decide +kernel
theorem d_Mo_take_6 : decode prog_11_method_18_code 6 = .ok (.getfield 20, 3) := by decide +kernel
theorem d_Mo_take_9 : decode prog_11_method_18_code 9 = .ok (.iconst 2, 1) := by decide +kernel
theorem d_Mo_take_10 : decode prog_11_method_18_code 10 = .ok (.iload_n 2, 1) := by decide +kernel
theorem d_Mo_take_11 : decode prog_11_method_18_code 11 = .ok (.imul, 1) := by decide +kernel
theorem d_Mo_take_12 : decode prog_11_method_18_code 12 = .ok (.iload_n 3, 1) := by decide +kernel
theorem d_Mo_take_13 : decode prog_11_method_18_code 13 = .ok (.iadd, 1) := by decide +kernel
theorem d_Mo_take_14 : decode prog_11_method_18_code 14 = .ok (.iaload, 1) := by decide +kernel
theorem d_Mo_take_15 : decode prog_11_method_18_code 15 = .ok (.iastore, 1) := by decide +kernel
theorem d_Mo_take_16 : decode prog_11_method_18_code 16 = .ok (.iconst 0, 1) := by decide +kernel
theorem d_Mo_take_17 : decode prog_11_method_18_code 17 = .ok (.istore 4, 2) := by decide +kernel
theorem d_Mo_take_19 : decode prog_11_method_18_code 19 = .ok (.iload 4, 2) := by decide +kernel
theorem d_Mo_take_21 : decode prog_11_method_18_code 21 = .ok (.aload_n 0, 1) := by decide +kernel
theorem d_Mo_take_22 : decode prog_11_method_18_code 22 = .ok (.getfield 27, 3) := by decide +kernel
theorem d_Mo_take_25 : decode prog_11_method_18_code 25 = .ok (.iload_n 1, 1) := by decide +kernel
theorem d_Mo_take_26 : decode prog_11_method_18_code 26 = .ok (.iaload, 1) := by decide +kernel
theorem d_Mo_take_27 : decode prog_11_method_18_code 27 = .ok (.if_icmp .ge 38, 3) := by decide +kernel
theorem d_Mo_take_30 : decode prog_11_method_18_code 30 = .ok (.aload_n 0, 1) := by decide +kernel
theorem d_Mo_take_31 : decode prog_11_method_18_code 31 = .ok (.getfield 24, 3) := by decide +kernel
theorem d_Mo_take_34 : decode prog_11_method_18_code 34 = .ok (.sipush 4300, 3) := by decide +kernel
theorem d_Mo_take_37 : decode prog_11_method_18_code 37 = .ok (.iload_n 1, 1) := by decide +kernel
theorem d_Mo_take_38 : decode prog_11_method_18_code 38 = .ok (.imul, 1) := by decide +kernel
theorem d_Mo_take_39 : decode prog_11_method_18_code 39 = .ok (.iload 4, 2) := by decide +kernel
theorem d_Mo_take_41 : decode prog_11_method_18_code 41 = .ok (.iadd, 1) := by decide +kernel
theorem d_Mo_take_42 : decode prog_11_method_18_code 42 = .ok (.aload_n 0, 1) := by decide +kernel
theorem d_Mo_take_43 : decode prog_11_method_18_code 43 = .ok (.getfield 17, 3) := by decide +kernel
theorem d_Mo_take_46 : decode prog_11_method_18_code 46 = .ok (.bipush 101, 2) := by decide +kernel
theorem d_Mo_take_48 : decode prog_11_method_18_code 48 = .ok (.iconst 2, 1) := by decide +kernel
theorem d_Mo_take_49 : decode prog_11_method_18_code 49 = .ok (.iload_n 2, 1) := by decide +kernel
theorem d_Mo_take_50 : decode prog_11_method_18_code 50 = .ok (.imul, 1) := by decide +kernel
theorem d_Mo_take_51 : decode prog_11_method_18_code 51 = .ok (.iload_n 3, 1) := by decide +kernel
theorem d_Mo_take_52 : decode prog_11_method_18_code 52 = .ok (.iadd, 1) := by decide +kernel
theorem d_Mo_take_53 : decode prog_11_method_18_code 53 = .ok (.imul, 1) := by decide +kernel
theorem d_Mo_take_54 : decode prog_11_method_18_code 54 = .ok (.iload 4, 2) := by decide +kernel
theorem d_Mo_take_56 : decode prog_11_method_18_code 56 = .ok (.iadd, 1) := by decide +kernel
theorem d_Mo_take_57 : decode prog_11_method_18_code 57 = .ok (.iaload, 1) := by decide +kernel
theorem d_Mo_take_58 : decode prog_11_method_18_code 58 = .ok (.iastore, 1) := by decide +kernel
theorem d_Mo_take_59 : decode prog_11_method_18_code 59 = .ok (.iinc 4 1, 3) := by decide +kernel
theorem d_Mo_take_62 : decode prog_11_method_18_code 62 = .ok (.goto (-43), 3) := by decide +kernel
theorem d_Mo_take_65 : decode prog_11_method_18_code 65 = .ok (.return_, 1) := by decide +kernel
theorem d_Mo_load_0 : decode prog_11_method_19_code 0 = .ok (.aload_n 0, 1) := by decide +kernel
theorem d_Mo_load_1 : decode prog_11_method_19_code 1 = .ok (.iconst 0, 1) := by decide +kernel
theorem d_Mo_load_2 : decode prog_11_method_19_code 2 = .ok (.iload_n 1, 1) := by decide +kernel
theorem d_Mo_load_3 : decode prog_11_method_19_code 3 = .ok (.iconst 0, 1) := by decide +kernel
theorem d_Mo_load_4 : decode prog_11_method_19_code 4 = .ok (.invokevirtual 100, 3) := by decide +kernel
theorem d_Mo_load_7 : decode prog_11_method_19_code 7 = .ok (.aload_n 0, 1) := by decide +kernel
theorem d_Mo_load_8 : decode prog_11_method_19_code 8 = .ok (.iconst 1, 1) := by decide +kernel
theorem d_Mo_load_9 : decode prog_11_method_19_code 9 = .ok (.iload_n 1, 1) := by decide +kernel
theorem d_Mo_load_10 : decode prog_11_method_19_code 10 = .ok (.iconst 1, 1) := by decide +kernel
theorem d_Mo_load_11 : decode prog_11_method_19_code 11 = .ok (.invokevirtual 100, 3) := by decide +kernel
theorem d_Mo_load_14 : decode prog_11_method_19_code 14 = .ok (.aload_n 0, 1) := by decide +kernel
theorem d_Mo_load_15 : decode prog_11_method_19_code 15 = .ok (.aload_n 0, 1) := by decide +kernel
theorem d_Mo_load_16 : decode prog_11_method_19_code 16 = .ok (.getfield 7, 3) := by decide +kernel
theorem d_Mo_load_19 : decode prog_11_method_19_code 19 = .ok (.iload_n 1, 1) := by decide +kernel
theorem d_Mo_load_20 : decode prog_11_method_19_code 20 = .ok (.iaload, 1) := by decide +kernel
theorem d_Mo_load_21 : decode prog_11_method_19_code 21 = .ok (.putfield 94, 3) := by decide +kernel
theorem d_Mo_load_24 : decode prog_11_method_19_code 24 = .ok (.return_, 1) := by decide +kernel
theorem d_Mo_loadOther_0 : decode prog_11_method_20_code 0 = .ok (.aload_n 0, 1) := by decide +kernel
theorem d_Mo_loadOther_1 : decode prog_11_method_20_code 1 = .ok (.iconst 2, 1) := by decide +kernel
theorem d_Mo_loadOther_2 : decode prog_11_method_20_code 2 = .ok (.iload_n 1, 1) := by decide +kernel
theorem d_Mo_loadOther_3 : decode prog_11_method_20_code 3 = .ok (.iconst 0, 1) := by decide +kernel
theorem d_Mo_loadOther_4 : decode prog_11_method_20_code 4 = .ok (.invokevirtual 100, 3) := by decide +kernel
theorem d_Mo_loadOther_7 : decode prog_11_method_20_code 7 = .ok (.aload_n 0, 1) := by decide +kernel
theorem d_Mo_loadOther_8 : decode prog_11_method_20_code 8 = .ok (.iconst 3, 1) := by decide +kernel
theorem d_Mo_loadOther_9 : decode prog_11_method_20_code 9 = .ok (.iload_n 1, 1) := by decide +kernel
theorem d_Mo_loadOther_10 : decode prog_11_method_20_code 10 = .ok (.iconst 1, 1) := by decide +kernel
theorem d_Mo_loadOther_11 : decode prog_11_method_20_code 11 = .ok (.invokevirtual 100, 3) := by decide +kernel
theorem d_Mo_loadOther_14 : decode prog_11_method_20_code 14 = .ok (.aload_n 0, 1) := by decide +kernel
theorem d_Mo_loadOther_15 : decode prog_11_method_20_code 15 = .ok (.aload_n 0, 1) := by decide +kernel
theorem d_Mo_loadOther_16 : decode prog_11_method_20_code 16 = .ok (.getfield 7, 3) := by decide +kernel
theorem d_Mo_loadOther_19 : decode prog_11_method_20_code 19 = .ok (.iload_n 1, 1) := by decide +kernel
theorem d_Mo_loadOther_20 : decode prog_11_method_20_code 20 = .ok (.iaload, 1) := by decide +kernel
theorem d_Mo_loadOther_21 : decode prog_11_method_20_code 21 = .ok (.putfield 103, 3) := by decide +kernel
theorem d_Mo_loadOther_24 : decode prog_11_method_20_code 24 = .ok (.return_, 1) := by decide +kernel
theorem d_Mo_addOther_0 : decode prog_11_method_21_code 0 = .ok (.aload_n 0, 1) := by decide +kernel
theorem d_Mo_addOther_1 : decode prog_11_method_21_code 1 = .ok (.iconst 4, 1) := by decide +kernel
theorem d_Mo_addOther_2 : decode prog_11_method_21_code 2 = .ok (.iconst 0, 1) := by decide +kernel
theorem d_Mo_addOther_3 : decode prog_11_method_21_code 3 = .ok (.iconst 3, 1) := by decide +kernel
theorem d_Mo_addOther_4 : decode prog_11_method_21_code 4 = .ok (.invokevirtual 106, 3) := by decide +kernel
theorem d_Mo_addOther_7 : decode prog_11_method_21_code 7 = .ok (.aload_n 0, 1) := by decide +kernel
theorem d_Mo_addOther_8 : decode prog_11_method_21_code 8 = .ok (.iconst 5, 1) := by decide +kernel
theorem d_Mo_addOther_9 : decode prog_11_method_21_code 9 = .ok (.iconst 2, 1) := by decide +kernel
theorem d_Mo_addOther_10 : decode prog_11_method_21_code 10 = .ok (.iconst 1, 1) := by decide +kernel
theorem d_Mo_addOther_11 : decode prog_11_method_21_code 11 = .ok (.invokevirtual 106, 3) := by decide +kernel
theorem d_Mo_addOther_14 : decode prog_11_method_21_code 14 = .ok (.aload_n 0, 1) := by decide +kernel
theorem d_Mo_addOther_15 : decode prog_11_method_21_code 15 = .ok (.bipush 6, 2) := by decide +kernel
theorem d_Mo_addOther_17 : decode prog_11_method_21_code 17 = .ok (.iconst 1, 1) := by decide +kernel
theorem d_Mo_addOther_18 : decode prog_11_method_21_code 18 = .ok (.iconst 3, 1) := by decide +kernel
theorem d_Mo_addOther_19 : decode prog_11_method_21_code 19 = .ok (.invokevirtual 106, 3) := by decide +kernel
theorem d_Mo_addOther_22 : decode prog_11_method_21_code 22 = .ok (.aload_n 0, 1) := by decide +kernel
theorem d_Mo_addOther_23 : decode prog_11_method_21_code 23 = .ok (.iconst 1, 1) := by decide +kernel
theorem d_Mo_addOther_24 : decode prog_11_method_21_code 24 = .ok (.bipush 6, 2) := by decide +kernel
theorem d_Mo_addOther_26 : decode prog_11_method_21_code 26 = .ok (.invokevirtual 70, 3) := by decide +kernel
theorem d_Mo_addOther_29 : decode prog_11_method_21_code 29 = .ok (.aload_n 0, 1) := by decide +kernel
theorem d_Mo_addOther_30 : decode prog_11_method_21_code 30 = .ok (.getfield 103, 3) := by decide +kernel
theorem d_Mo_addOther_33 : decode prog_11_method_21_code 33 = .ok (.iload_n 1, 1) := by decide +kernel
theorem d_Mo_addOther_34 : decode prog_11_method_21_code 34 = .ok (.imul, 1) := by decide +kernel
theorem d_Mo_addOther_35 : decode prog_11_method_21_code 35 = .ok (.istore_n 2, 1) := by decide +kernel
theorem d_Mo_addOther_36 : decode prog_11_method_21_code 36 = .ok (.aload_n 0, 1) := by decide +kernel
theorem d_Mo_addOther_37 : decode prog_11_method_21_code 37 = .ok (.getfield 94, 3) := by decide +kernel
theorem d_Mo_addOther_40 : decode prog_11_method_21_code 40 = .ok (.iload_n 2, 1) := by decide +kernel
theorem d_Mo_addOther_41 : decode prog_11_method_21_code 41 = .ok (.if_icmp .eq 14, 3) := by decide +kernel
theorem d_Mo_addOther_44 : decode prog_11_method_21_code 44 = .ok (.iload_n 2, 1) := by decide +kernel
theorem d_Mo_addOther_45 : decode prog_11_method_21_code 45 = .ok (.ifCond .eq 10, 3) := by decide +kernel
theorem d_Mo_addOther_48 : decode prog_11_method_21_code 48 = .ok (.aload_n 0, 1) := by decide +kernel
theorem d_Mo_addOther_49 : decode prog_11_method_21_code 49 = .ok (.getfield 94, 3) := by decide +kernel
theorem d_Mo_addOther_52 : decode prog_11_method_21_code 52 = .ok (.ifCond .ne 31, 3) := by decide +kernel
theorem d_Mo_addOther_55 : decode prog_11_method_21_code 55 = .ok (.aload_n 0, 1) := by decide +kernel
theorem d_Mo_addOther_56 : decode prog_11_method_21_code 56 = .ok (.iconst 4, 1) := by decide +kernel
theorem d_Mo_addOther_57 : decode prog_11_method_21_code 57 = .ok (.iconst 5, 1) := by decide +kernel
theorem d_Mo_addOther_58 : decode prog_11_method_21_code 58 = .ok (.invokevirtual 109, 3) := by decide +kernel
theorem d_Mo_addOther_61 : decode prog_11_method_21_code 61 = .ok (.aload_n 0, 1) := by decide +kernel
theorem d_Mo_addOther_62 : decode prog_11_method_21_code 62 = .ok (.aload_n 0, 1) := by decide +kernel
theorem d_Mo_addOther_63 : decode prog_11_method_21_code 63 = .ok (.getfield 94, 3) := by decide +kernel
theorem d_Mo_addOther_66 : decode prog_11_method_21_code 66 = .ok (.ifCond .ne 7, 3) := by decide +kernel
theorem d_Mo_addOther_69 : decode prog_11_method_21_code 69 = .ok (.iload_n 2, 1) := by decide +kernel
theorem d_Mo_addOther_70 : decode prog_11_method_21_code 70 = .ok (.goto 7, 3) := by decide +kernel
theorem d_Mo_addOther_73 : decode prog_11_method_21_code 73 = .ok (.aload_n 0, 1) := by decide +kernel
theorem d_Mo_addOther_74 : decode prog_11_method_21_code 74 = .ok (.getfield 94, 3) := by decide +kernel
theorem d_Mo_addOther_77 : decode prog_11_method_21_code 77 = .ok (.putfield 94, 3) := by decide +kernel
theorem d_Mo_addOther_80 : decode prog_11_method_21_code 80 = .ok (.goto 38, 3) := by decide +kernel
theorem d_Mo_addOther_83 : decode prog_11_method_21_code 83 = .ok (.aload_n 0, 1) := by decide +kernel
theorem d_Mo_addOther_84 : decode prog_11_method_21_code 84 = .ok (.iconst 4, 1) := by decide +kernel
theorem d_Mo_addOther_85 : decode prog_11_method_21_code 85 = .ok (.iconst 5, 1) := by decide +kernel
theorem d_Mo_addOther_86 : decode prog_11_method_21_code 86 = .ok (.invokevirtual 67, 3) := by decide +kernel
theorem d_Mo_addOther_89 : decode prog_11_method_21_code 89 = .ok (.ifCond .lt 12, 3) := by decide +kernel
theorem d_Mo_addOther_92 : decode prog_11_method_21_code 92 = .ok (.aload_n 0, 1) := by decide +kernel
theorem d_Mo_addOther_93 : decode prog_11_method_21_code 93 = .ok (.iconst 4, 1) := by decide +kernel
theorem d_Mo_addOther_94 : decode prog_11_method_21_code 94 = .ok (.iconst 5, 1) := by decide +kernel
theorem d_Mo_addOther_95 : decode prog_11_method_21_code 95 = .ok (.invokevirtual 112, 3) := by decide +kernel
theorem d_Mo_addOther_98 : decode prog_11_method_21_code 98 = .ok (.goto 20, 3) := by decide +kernel
theorem d_Mo_addOther_101 : decode prog_11_method_21_code 101 = .ok (.aload_n 0, 1) := by decide +kernel
theorem d_Mo_addOther_102 : decode prog_11_method_21_code 102 = .ok (.iconst 5, 1) := by decide +kernel
theorem d_Mo_addOther_103 : decode prog_11_method_21_code 103 = .ok (.iconst 4, 1) := by decide +kernel
theorem d_Mo_addOther_104 : decode prog_11_method_21_code 104 = .ok (.invokevirtual 112, 3) := by decide +kernel
theorem d_Mo_addOther_107 : decode prog_11_method_21_code 107 = .ok (.aload_n 0, 1) := by decide +kernel
theorem d_Mo_addOther_108 : decode prog_11_method_21_code 108 = .ok (.iconst 4, 1) := by decide +kernel
theorem d_Mo_addOther_109 : decode prog_11_method_21_code 109 = .ok (.iconst 5, 1) := by decide +kernel
theorem d_Mo_addOther_110 : decode prog_11_method_21_code 110 = .ok (.invokevirtual 70, 3) := by decide +kernel
theorem d_Mo_addOther_113 : decode prog_11_method_21_code 113 = .ok (.aload_n 0, 1) := by decide +kernel
theorem d_Mo_addOther_114 : decode prog_11_method_21_code 114 = .ok (.iload_n 2, 1) := by decide +kernel
theorem d_Mo_addOther_115 : decode prog_11_method_21_code 115 = .ok (.putfield 94, 3) := by decide +kernel
theorem d_Mo_addOther_118 : decode prog_11_method_21_code 118 = .ok (.aload_n 0, 1) := by decide +kernel
theorem d_Mo_addOther_119 : decode prog_11_method_21_code 119 = .ok (.iconst 0, 1) := by decide +kernel
theorem d_Mo_addOther_120 : decode prog_11_method_21_code 120 = .ok (.iconst 4, 1) := by decide +kernel
theorem d_Mo_addOther_121 : decode prog_11_method_21_code 121 = .ok (.invokevirtual 70, 3) := by decide +kernel
theorem d_Mo_addOther_124 : decode prog_11_method_21_code 124 = .ok (.aload_n 0, 1) := by decide +kernel
theorem d_Mo_addOther_125 : decode prog_11_method_21_code 125 = .ok (.invokevirtual 115, 3) := by decide +kernel
theorem d_Mo_addOther_128 : decode prog_11_method_21_code 128 = .ok (.return_, 1) := by decide +kernel
theorem d_Mo_timesOther_0 : decode prog_11_method_22_code 0 = .ok (.aload_n 0, 1) := by decide +kernel
theorem d_Mo_timesOther_1 : decode prog_11_method_22_code 1 = .ok (.iconst 4, 1) := by decide +kernel
theorem d_Mo_timesOther_2 : decode prog_11_method_22_code 2 = .ok (.iconst 0, 1) := by decide +kernel
theorem d_Mo_timesOther_3 : decode prog_11_method_22_code 3 = .ok (.iconst 2, 1) := by decide +kernel
theorem d_Mo_timesOther_4 : decode prog_11_method_22_code 4 = .ok (.invokevirtual 106, 3) := by decide +kernel
theorem d_Mo_timesOther_7 : decode prog_11_method_22_code 7 = .ok (.aload_n 0, 1) := by decide +kernel
theorem d_Mo_timesOther_8 : decode prog_11_method_22_code 8 = .ok (.iconst 5, 1) := by decide +kernel
theorem d_Mo_timesOther_9 : decode prog_11_method_22_code 9 = .ok (.iconst 1, 1) := by decide +kernel
theorem d_Mo_timesOther_10 : decode prog_11_method_22_code 10 = .ok (.iconst 3, 1) := by decide +kernel
theorem d_Mo_timesOther_11 : decode prog_11_method_22_code 11 = .ok (.invokevirtual 106, 3) := by decide +kernel
theorem d_Mo_timesOther_14 : decode prog_11_method_22_code 14 = .ok (.aload_n 0, 1) := by decide +kernel
theorem d_Mo_timesOther_15 : decode prog_11_method_22_code 15 = .ok (.iconst 0, 1) := by decide +kernel
theorem d_Mo_timesOther_16 : decode prog_11_method_22_code 16 = .ok (.iconst 4, 1) := by decide +kernel
theorem d_Mo_timesOther_17 : decode prog_11_method_22_code 17 = .ok (.invokevirtual 70, 3) := by decide +kernel
theorem d_Mo_timesOther_20 : decode prog_11_method_22_code 20 = .ok (.aload_n 0, 1) := by decide +kernel
theorem d_Mo_timesOther_21 : decode prog_11_method_22_code 21 = .ok (.iconst 1, 1) := by decide +kernel
theorem d_Mo_timesOther_22 : decode prog_11_method_22_code 22 = .ok (.iconst 5, 1) := by decide +kernel
theorem d_Mo_timesOther_23 : decode prog_11_method_22_code 23 = .ok (.invokevirtual 70, 3) := by decide +kernel
theorem d_Mo_timesOther_26 : decode prog_11_method_22_code 26 = .ok (.aload_n 0, 1) := by decide +kernel
theorem d_Mo_timesOther_27 : decode prog_11_method_22_code 27 = .ok (.dup, 1) := by decide +kernel
theorem d_Mo_timesOther_28 : decode prog_11_method_22_code 28 = .ok (.getfield 94, 3) := by decide +kernel
theorem d_Mo_timesOther_31 : decode prog_11_method_22_code 31 = .ok (.aload_n 0, 1) := by decide +kernel
theorem d_Mo_timesOther_32 : decode prog_11_method_22_code 32 = .ok (.getfield 103, 3) := by decide +kernel
theorem d_Mo_timesOther_35 : decode prog_11_method_22_code 35 = .ok (.imul, 1) := by decide +kernel
theorem d_Mo_timesOther_36 : decode prog_11_method_22_code 36 = .ok (.putfield 94, 3) := by decide +kernel
theorem d_Mo_timesOther_39 : decode prog_11_method_22_code 39 = .ok (.aload_n 0, 1) := by decide +kernel
theorem d_Mo_timesOther_40 : decode prog_11_method_22_code 40 = .ok (.invokevirtual 115, 3) := by decide +kernel
theorem d_Mo_timesOther_43 : decode prog_11_method_22_code 43 = .ok (.return_, 1) := by decide +kernel
theorem d_Mo_overOther_0 : decode prog_11_method_23_code 0 = .ok (.aload_n 0, 1) := by decide +kernel
theorem d_Mo_overOther_1 : decode prog_11_method_23_code 1 = .ok (.iconst 4, 1) := by decide +kernel
theorem d_Mo_overOther_2 : decode prog_11_method_23_code 2 = .ok (.iconst 0, 1) := by decide +kernel
theorem d_Mo_overOther_3 : decode prog_11_method_23_code 3 = .ok (.iconst 3, 1) := by decide +kernel
theorem d_Mo_overOther_4 : decode prog_11_method_23_code 4 = .ok (.invokevirtual 106, 3) := by decide +kernel
theorem d_Mo_overOther_7 : decode prog_11_method_23_code 7 = .ok (.aload_n 0, 1) := by decide +kernel
theorem d_Mo_overOther_8 : decode prog_11_method_23_code 8 = .ok (.iconst 5, 1) := by decide +kernel
theorem d_Mo_overOther_9 : decode prog_11_method_23_code 9 = .ok (.iconst 1, 1) := by decide +kernel
theorem d_Mo_overOther_10 : decode prog_11_method_23_code 10 = .ok (.iconst 2, 1) := by decide +kernel
theorem d_Mo_overOther_11 : decode prog_11_method_23_code 11 = .ok (.invokevirtual 106, 3) := by decide +kernel
theorem d_Mo_overOther_14 : decode prog_11_method_23_code 14 = .ok (.aload_n 0, 1) := by decide +kernel
theorem d_Mo_overOther_15 : decode prog_11_method_23_code 15 = .ok (.iconst 0, 1) := by decide +kernel
theorem d_Mo_overOther_16 : decode prog_11_method_23_code 16 = .ok (.iconst 4, 1) := by decide +kernel
theorem d_Mo_overOther_17 : decode prog_11_method_23_code 17 = .ok (.invokevirtual 70, 3) := by decide +kernel
theorem d_Mo_overOther_20 : decode prog_11_method_23_code 20 = .ok (.aload_n 0, 1) := by decide +kernel
theorem d_Mo_overOther_21 : decode prog_11_method_23_code 21 = .ok (.iconst 1, 1) := by decide +kernel
theorem d_Mo_overOther_22 : decode prog_11_method_23_code 22 = .ok (.iconst 5, 1) := by decide +kernel
theorem d_Mo_overOther_23 : decode prog_11_method_23_code 23 = .ok (.invokevirtual 70, 3) := by decide +kernel
theorem d_Mo_overOther_26 : decode prog_11_method_23_code 26 = .ok (.aload_n 0, 1) := by decide +kernel
theorem d_Mo_overOther_27 : decode prog_11_method_23_code 27 = .ok (.dup, 1) := by decide +kernel
theorem d_Mo_overOther_28 : decode prog_11_method_23_code 28 = .ok (.getfield 94, 3) := by decide +kernel
theorem d_Mo_overOther_31 : decode prog_11_method_23_code 31 = .ok (.aload_n 0, 1) := by decide +kernel
theorem d_Mo_overOther_32 : decode prog_11_method_23_code 32 = .ok (.getfield 103, 3) := by decide +kernel
theorem d_Mo_overOther_35 : decode prog_11_method_23_code 35 = .ok (.imul, 1) := by decide +kernel
theorem d_Mo_overOther_36 : decode prog_11_method_23_code 36 = .ok (.putfield 94, 3) := by decide +kernel
theorem d_Mo_overOther_39 : decode prog_11_method_23_code 39 = .ok (.aload_n 0, 1) := by decide +kernel
theorem d_Mo_overOther_40 : decode prog_11_method_23_code 40 = .ok (.invokevirtual 115, 3) := by decide +kernel
theorem d_Mo_overOther_43 : decode prog_11_method_23_code 43 = .ok (.return_, 1) := by decide +kernel
theorem d_Mo_keep_0 : decode prog_11_method_24_code 0 = .ok (.aload_n 0, 1) := by decide +kernel
theorem d_Mo_keep_1 : decode prog_11_method_24_code 1 = .ok (.iconst 0, 1) := by decide +kernel
theorem d_Mo_keep_2 : decode prog_11_method_24_code 2 = .ok (.invokevirtual 118, 3) := by decide +kernel
theorem d_Mo_keep_5 : decode prog_11_method_24_code 5 = .ok (.sipush 900, 3) := by decide +kernel
theorem d_Mo_keep_8 : decode prog_11_method_24_code 8 = .ok (.if_icmp .gt 14, 3) := by decide +kernel
theorem d_Mo_keep_11 : decode prog_11_method_24_code 11 = .ok (.aload_n 0, 1) := by decide +kernel
theorem d_Mo_keep_12 : decode prog_11_method_24_code 12 = .ok (.iconst 1, 1) := by decide +kernel
theorem d_Mo_keep_13 : decode prog_11_method_24_code 13 = .ok (.invokevirtual 118, 3) := by decide +kernel
theorem d_Mo_keep_16 : decode prog_11_method_24_code 16 = .ok (.sipush 900, 3) := by decide +kernel
theorem d_Mo_keep_19 : decode prog_11_method_24_code 19 = .ok (.if_icmp .le 6, 3) := by decide +kernel
theorem d_Mo_keep_22 : decode prog_11_method_24_code 22 = .ok (.bipush (-4), 2) := by decide +kernel
theorem d_Mo_keep_24 : decode prog_11_method_24_code 24 = .ok (.ireturn, 1) := by decide +kernel
theorem d_Mo_keep_25 : decode prog_11_method_24_code 25 = .ok (.iconst 0, 1) := by decide +kernel
theorem d_Mo_keep_26 : decode prog_11_method_24_code 26 = .ok (.istore_n 2, 1) := by decide +kernel
theorem d_Mo_keep_27 : decode prog_11_method_24_code 27 = .ok (.iload_n 2, 1) := by decide +kernel
theorem d_Mo_keep_28 : decode prog_11_method_24_code 28 = .ok (.iconst 2, 1) := by decide +kernel
theorem d_Mo_keep_29 : decode prog_11_method_24_code 29 = .ok (.if_icmp .ge 76, 3) := by decide +kernel
theorem d_Mo_keep_32 : decode prog_11_method_24_code 32 = .ok (.aload_n 0, 1) := by decide +kernel
theorem d_Mo_keep_33 : decode prog_11_method_24_code 33 = .ok (.getfield 20, 3) := by decide +kernel
theorem d_Mo_keep_36 : decode prog_11_method_24_code 36 = .ok (.iconst 2, 1) := by decide +kernel
theorem d_Mo_keep_37 : decode prog_11_method_24_code 37 = .ok (.aload_n 0, 1) := by decide +kernel
theorem d_Mo_keep_38 : decode prog_11_method_24_code 38 = .ok (.getfield 122, 3) := by decide +kernel
theorem d_Mo_keep_41 : decode prog_11_method_24_code 41 = .ok (.imul, 1) := by decide +kernel
theorem d_Mo_keep_42 : decode prog_11_method_24_code 42 = .ok (.iload_n 2, 1) := by decide +kernel
theorem d_Mo_keep_43 : decode prog_11_method_24_code 43 = .ok (.iadd, 1) := by decide +kernel
theorem d_Mo_keep_44 : decode prog_11_method_24_code 44 = .ok (.aload_n 0, 1) := by decide +kernel
theorem d_Mo_keep_45 : decode prog_11_method_24_code 45 = .ok (.getfield 27, 3) := by decide +kernel
theorem d_Mo_keep_48 : decode prog_11_method_24_code 48 = .ok (.iload_n 2, 1) := by decide +kernel
theorem d_Mo_keep_49 : decode prog_11_method_24_code 49 = .ok (.iaload, 1) := by decide +kernel
theorem d_Mo_keep_50 : decode prog_11_method_24_code 50 = .ok (.iastore, 1) := by decide +kernel
theorem d_Mo_keep_51 : decode prog_11_method_24_code 51 = .ok (.iconst 0, 1) := by decide +kernel
theorem d_Mo_keep_52 : decode prog_11_method_24_code 52 = .ok (.istore_n 3, 1) := by decide +kernel
theorem d_Mo_keep_53 : decode prog_11_method_24_code 53 = .ok (.iload_n 3, 1) := by decide +kernel
theorem d_Mo_keep_54 : decode prog_11_method_24_code 54 = .ok (.aload_n 0, 1) := by decide +kernel
theorem d_Mo_keep_55 : decode prog_11_method_24_code 55 = .ok (.getfield 27, 3) := by decide +kernel
theorem d_Mo_keep_58 : decode prog_11_method_24_code 58 = .ok (.iload_n 2, 1) := by decide +kernel
theorem d_Mo_keep_59 : decode prog_11_method_24_code 59 = .ok (.iaload, 1) := by decide +kernel
theorem d_Mo_keep_60 : decode prog_11_method_24_code 60 = .ok (.if_icmp .ge 39, 3) := by decide +kernel
theorem d_Mo_keep_63 : decode prog_11_method_24_code 63 = .ok (.aload_n 0, 1) := by decide +kernel
theorem d_Mo_keep_64 : decode prog_11_method_24_code 64 = .ok (.getfield 17, 3) := by decide +kernel
theorem d_Mo_keep_67 : decode prog_11_method_24_code 67 = .ok (.bipush 101, 2) := by decide +kernel
theorem d_Mo_keep_69 : decode prog_11_method_24_code 69 = .ok (.iconst 2, 1) := by decide +kernel
theorem d_Mo_keep_70 : decode prog_11_method_24_code 70 = .ok (.aload_n 0, 1) := by decide +kernel
theorem d_Mo_keep_71 : decode prog_11_method_24_code 71 = .ok (.getfield 122, 3) := by decide +kernel
theorem d_Mo_keep_74 : decode prog_11_method_24_code 74 = .ok (.imul, 1) := by decide +kernel
theorem d_Mo_keep_75 : decode prog_11_method_24_code 75 = .ok (.iload_n 2, 1) := by decide +kernel
theorem d_Mo_keep_76 : decode prog_11_method_24_code 76 = .ok (.iadd, 1) := by decide +kernel
theorem d_Mo_keep_77 : decode prog_11_method_24_code 77 = .ok (.imul, 1) := by decide +kernel
theorem d_Mo_keep_78 : decode prog_11_method_24_code 78 = .ok (.iload_n 3, 1) := by decide +kernel
theorem d_Mo_keep_79 : decode prog_11_method_24_code 79 = .ok (.iadd, 1) := by decide +kernel
theorem d_Mo_keep_80 : decode prog_11_method_24_code 80 = .ok (.aload_n 0, 1) := by decide +kernel
theorem d_Mo_keep_81 : decode prog_11_method_24_code 81 = .ok (.getfield 24, 3) := by decide +kernel
theorem d_Mo_keep_84 : decode prog_11_method_24_code 84 = .ok (.sipush 4300, 3) := by decide +kernel
theorem d_Mo_keep_87 : decode prog_11_method_24_code 87 = .ok (.iload_n 2, 1) := by decide +kernel
theorem d_Mo_keep_88 : decode prog_11_method_24_code 88 = .ok (.imul, 1) := by decide +kernel
theorem d_Mo_keep_89 : decode prog_11_method_24_code 89 = .ok (.iload_n 3, 1) := by decide +kernel
theorem d_Mo_keep_90 : decode prog_11_method_24_code 90 = .ok (.iadd, 1) := by decide +kernel
theorem d_Mo_keep_91 : decode prog_11_method_24_code 91 = .ok (.iaload, 1) := by decide +kernel
theorem d_Mo_keep_92 : decode prog_11_method_24_code 92 = .ok (.iastore, 1) := by decide +kernel
theorem d_Mo_keep_93 : decode prog_11_method_24_code 93 = .ok (.iinc 3 1, 3) := by decide +kernel
theorem d_Mo_keep_96 : decode prog_11_method_24_code 96 = .ok (.goto (-43), 3) := by decide +kernel
theorem d_Mo_keep_99 : decode prog_11_method_24_code 99 = .ok (.iinc 2 1, 3) := by decide +kernel
theorem d_Mo_keep_102 : decode prog_11_method_24_code 102 = .ok (.goto (-75), 3) := by decide +kernel
theorem d_Mo_keep_105 : decode prog_11_method_24_code 105 = .ok (.aload_n 0, 1) := by decide +kernel
theorem d_Mo_keep_106 : decode prog_11_method_24_code 106 = .ok (.getfield 7, 3) := by decide +kernel
theorem d_Mo_keep_109 : decode prog_11_method_24_code 109 = .ok (.aload_n 0, 1) := by decide +kernel
theorem d_Mo_keep_110 : decode prog_11_method_24_code 110 = .ok (.getfield 122, 3) := by decide +kernel
theorem d_Mo_keep_113 : decode prog_11_method_24_code 113 = .ok (.aload_n 0, 1) := by decide +kernel
theorem d_Mo_keep_114 : decode prog_11_method_24_code 114 = .ok (.getfield 27, 3) := by decide +kernel
theorem d_Mo_keep_117 : decode prog_11_method_24_code 117 = .ok (.iconst 0, 1) := by decide +kernel
theorem d_Mo_keep_118 : decode prog_11_method_24_code 118 = .ok (.iaload, 1) := by decide +kernel
theorem d_Mo_keep_119 : decode prog_11_method_24_code 119 = .ok (.ifCond .ne 7, 3) := by decide +kernel
theorem d_Mo_keep_122 : decode prog_11_method_24_code 122 = .ok (.iconst 0, 1) := by decide +kernel
theorem d_Mo_keep_123 : decode prog_11_method_24_code 123 = .ok (.goto 7, 3) := by decide +kernel
theorem d_Mo_keep_126 : decode prog_11_method_24_code 126 = .ok (.aload_n 0, 1) := by decide +kernel
theorem d_Mo_keep_127 : decode prog_11_method_24_code 127 = .ok (.getfield 94, 3) := by decide +kernel
theorem d_Mo_keep_130 : decode prog_11_method_24_code 130 = .ok (.iastore, 1) := by decide +kernel
theorem d_Mo_keep_131 : decode prog_11_method_24_code 131 = .ok (.aload_n 0, 1) := by decide +kernel
theorem d_Mo_keep_132 : decode prog_11_method_24_code 132 = .ok (.getfield 13, 3) := by decide +kernel
theorem d_Mo_keep_135 : decode prog_11_method_24_code 135 = .ok (.aload_n 0, 1) := by decide +kernel
theorem d_Mo_keep_136 : decode prog_11_method_24_code 136 = .ok (.getfield 122, 3) := by decide +kernel
theorem d_Mo_keep_139 : decode prog_11_method_24_code 139 = .ok (.iload_n 1, 1) := by decide +kernel
theorem d_Mo_keep_140 : decode prog_11_method_24_code 140 = .ok (.iastore, 1) := by decide +kernel
theorem d_Mo_keep_141 : decode prog_11_method_24_code 141 = .ok (.aload_n 0, 1) := by decide +kernel
theorem d_Mo_keep_142 : decode prog_11_method_24_code 142 = .ok (.dup, 1) := by decide +kernel
theorem d_Mo_keep_143 : decode prog_11_method_24_code 143 = .ok (.getfield 122, 3) := by decide +kernel
theorem d_Mo_keep_146 : decode prog_11_method_24_code 146 = .ok (.iconst 1, 1) := by decide +kernel
theorem d_Mo_keep_147 : decode prog_11_method_24_code 147 = .ok (.iadd, 1) := by decide +kernel
theorem d_Mo_keep_148 : decode prog_11_method_24_code 148 = .ok (.putfield 122, 3) := by decide +kernel
theorem d_Mo_keep_151 : decode prog_11_method_24_code 151 = .ok (.aload_n 0, 1) := by decide +kernel
theorem d_Mo_keep_152 : decode prog_11_method_24_code 152 = .ok (.getfield 122, 3) := by decide +kernel
theorem d_Mo_keep_155 : decode prog_11_method_24_code 155 = .ok (.iconst 1, 1) := by decide +kernel
theorem d_Mo_keep_156 : decode prog_11_method_24_code 156 = .ok (.isub, 1) := by decide +kernel
theorem d_Mo_keep_157 : decode prog_11_method_24_code 157 = .ok (.ireturn, 1) := by decide +kernel
theorem d_Mo_isValue_0 : decode prog_11_method_25_code 0 = .ok (.iload_n 1, 1) := by decide +kernel
theorem d_Mo_isValue_1 : decode prog_11_method_25_code 1 = .ok (.ifCond .lt 15, 3) := by decide +kernel
theorem d_Mo_isValue_4 : decode prog_11_method_25_code 4 = .ok (.iload_n 1, 1) := by decide +kernel
theorem d_Mo_isValue_5 : decode prog_11_method_25_code 5 = .ok (.aload_n 0, 1) := by decide +kernel
theorem d_Mo_isValue_6 : decode prog_11_method_25_code 6 = .ok (.getfield 122, 3) := by decide +kernel
theorem d_Mo_isValue_9 : decode prog_11_method_25_code 9 = .ok (.if_icmp .ge 7, 3) := by decide +kernel
theorem d_Mo_isValue_12 : decode prog_11_method_25_code 12 = .ok (.iconst 1, 1) := by decide +kernel
theorem d_Mo_isValue_13 : decode prog_11_method_25_code 13 = .ok (.goto 4, 3) := by decide +kernel
theorem d_Mo_isValue_16 : decode prog_11_method_25_code 16 = .ok (.iconst 0, 1) := by decide +kernel
theorem d_Mo_isValue_17 : decode prog_11_method_25_code 17 = .ok (.ireturn, 1) := by decide +kernel
theorem d_Mo_isUnit_0 : decode prog_11_method_26_code 0 = .ok (.iload_n 0, 1) := by decide +kernel
theorem d_Mo_isUnit_1 : decode prog_11_method_26_code 1 = .ok (.bipush (-6), 2) := by decide +kernel
theorem d_Mo_isUnit_3 : decode prog_11_method_26_code 3 = .ok (.if_icmp .lt 13, 3) := by decide +kernel
theorem d_Mo_isUnit_6 : decode prog_11_method_26_code 6 = .ok (.iload_n 0, 1) := by decide +kernel
theorem d_Mo_isUnit_7 : decode prog_11_method_26_code 7 = .ok (.bipush 6, 2) := by decide +kernel
theorem d_Mo_isUnit_9 : decode prog_11_method_26_code 9 = .ok (.if_icmp .gt 7, 3) := by decide +kernel
theorem d_Mo_isUnit_12 : decode prog_11_method_26_code 12 = .ok (.iconst 1, 1) := by decide +kernel
theorem d_Mo_isUnit_13 : decode prog_11_method_26_code 13 = .ok (.goto 4, 3) := by decide +kernel
theorem d_Mo_isUnit_16 : decode prog_11_method_26_code 16 = .ok (.iconst 0, 1) := by decide +kernel
theorem d_Mo_isUnit_17 : decode prog_11_method_26_code 17 = .ok (.ireturn, 1) := by decide +kernel
theorem d_Mo_setSize_0 : decode prog_11_method_27_code 0 = .ok (.lload_n 2, 1) := by decide +kernel
theorem d_Mo_setSize_1 : decode prog_11_method_27_code 1 = .ok (.ldc2_w 125, 3) := by decide +kernel
theorem d_Mo_setSize_4 : decode prog_11_method_27_code 4 = .ok (.lcmp, 1) := by decide +kernel
theorem d_Mo_setSize_5 : decode prog_11_method_27_code 5 = .ok (.ifCond .ne 28, 3) := by decide +kernel
theorem d_Mo_setSize_8 : decode prog_11_method_27_code 8 = .ok (.aload_n 0, 1) := by decide +kernel
theorem d_Mo_setSize_9 : decode prog_11_method_27_code 9 = .ok (.iload_n 1, 1) := by decide +kernel
theorem d_Mo_setSize_10 : decode prog_11_method_27_code 10 = .ok (.ldc2_w 127, 3) := by decide +kernel
theorem d_Mo_setSize_13 : decode prog_11_method_27_code 13 = .ok (.invokevirtual 78, 3) := by decide +kernel
theorem d_Mo_setSize_16 : decode prog_11_method_27_code 16 = .ok (.aload_n 0, 1) := by decide +kernel
theorem d_Mo_setSize_17 : decode prog_11_method_27_code 17 = .ok (.getfield 24, 3) := by decide +kernel
theorem d_Mo_setSize_20 : decode prog_11_method_27_code 20 = .ok (.sipush 4300, 3) := by decide +kernel
theorem d_Mo_setSize_23 : decode prog_11_method_27_code 23 = .ok (.iload_n 1, 1) := by decide +kernel
theorem d_Mo_setSize_24 : decode prog_11_method_27_code 24 = .ok (.imul, 1) := by decide +kernel
theorem d_Mo_setSize_25 : decode prog_11_method_27_code 25 = .ok (.dup2, 1) := by decide +kernel
theorem d_Mo_setSize_26 : decode prog_11_method_27_code 26 = .ok (.iaload, 1) := by decide +kernel
theorem d_Mo_setSize_27 : decode prog_11_method_27_code 27 = .ok (.iconst 1, 1) := by decide +kernel
theorem d_Mo_setSize_28 : decode prog_11_method_27_code 28 = .ok (.iadd, 1) := by decide +kernel
theorem d_Mo_setSize_29 : decode prog_11_method_27_code 29 = .ok (.iastore, 1) := by decide +kernel
theorem d_Mo_setSize_30 : decode prog_11_method_27_code 30 = .ok (.goto 20, 3) := by decide +kernel
theorem d_Mo_setSize_33 : decode prog_11_method_27_code 33 = .ok (.aload_n 0, 1) := by decide +kernel
theorem d_Mo_setSize_34 : decode prog_11_method_27_code 34 = .ok (.iload_n 1, 1) := by decide +kernel
theorem d_Mo_setSize_35 : decode prog_11_method_27_code 35 = .ok (.lload_n 2, 1) := by decide +kernel
theorem d_Mo_setSize_36 : decode prog_11_method_27_code 36 = .ok (.lconst 0, 1) := by decide +kernel
theorem d_Mo_setSize_37 : decode prog_11_method_27_code 37 = .ok (.lcmp, 1) := by decide +kernel
theorem d_Mo_setSize_38 : decode prog_11_method_27_code 38 = .ok (.ifCond .ge 8, 3) := by decide +kernel
theorem d_Mo_setSize_41 : decode prog_11_method_27_code 41 = .ok (.lload_n 2, 1) := by decide +kernel
theorem d_Mo_setSize_42 : decode prog_11_method_27_code 42 = .ok (.lneg, 1) := by decide +kernel
theorem d_Mo_setSize_43 : decode prog_11_method_27_code 43 = .ok (.goto 4, 3) := by decide +kernel
theorem d_Mo_setSize_46 : decode prog_11_method_27_code 46 = .ok (.lload_n 2, 1) := by decide +kernel
theorem d_Mo_setSize_47 : decode prog_11_method_27_code 47 = .ok (.invokevirtual 78, 3) := by decide +kernel
theorem d_Mo_setSize_50 : decode prog_11_method_27_code 50 = .ok (.return_, 1) := by decide +kernel
theorem d_Mo_value_0 : decode prog_11_method_28_code 0 = .ok (.aload_n 0, 1) := by decide +kernel
theorem d_Mo_value_1 : decode prog_11_method_28_code 1 = .ok (.lload_n 3, 1) := by decide +kernel
theorem d_Mo_value_2 : decode prog_11_method_28_code 2 = .ok (.lconst 0, 1) := by decide +kernel
theorem d_Mo_value_3 : decode prog_11_method_28_code 3 = .ok (.lcmp, 1) := by decide +kernel
theorem d_Mo_value_4 : decode prog_11_method_28_code 4 = .ok (.ifCond .ne 7, 3) := by decide +kernel
theorem d_Mo_value_7 : decode prog_11_method_28_code 7 = .ok (.iconst 1, 1) := by decide +kernel
theorem d_Mo_value_8 : decode prog_11_method_28_code 8 = .ok (.goto 16, 3) := by decide +kernel
theorem d_Mo_value_11 : decode prog_11_method_28_code 11 = .ok (.iload 5, 2) := by decide +kernel
theorem d_Mo_value_13 : decode prog_11_method_28_code 13 = .ok (.invokestatic 129, 3) := by decide +kernel
theorem d_Mo_value_16 : decode prog_11_method_28_code 16 = .ok (.ifCond .ne 7, 3) := by decide +kernel
theorem d_Mo_value_19 : decode prog_11_method_28_code 19 = .ok (.iconst 2, 1) := by decide +kernel
theorem d_Mo_value_20 : decode prog_11_method_28_code 20 = .ok (.goto 4, 3) := by decide +kernel
theorem d_Mo_value_23 : decode prog_11_method_28_code 23 = .ok (.iconst 0, 1) := by decide +kernel
theorem d_Mo_value_24 : decode prog_11_method_28_code 24 = .ok (.putfield 52, 3) := by decide +kernel
theorem d_Mo_value_27 : decode prog_11_method_28_code 27 = .ok (.aload_n 0, 1) := by decide +kernel
theorem d_Mo_value_28 : decode prog_11_method_28_code 28 = .ok (.getfield 52, 3) := by decide +kernel
theorem d_Mo_value_31 : decode prog_11_method_28_code 31 = .ok (.ifCond .le 5, 3) := by decide +kernel
theorem d_Mo_value_34 : decode prog_11_method_28_code 34 = .ok (.iconst 0, 1) := by decide +kernel
theorem d_Mo_value_35 : decode prog_11_method_28_code 35 = .ok (.ireturn, 1) := by decide +kernel
theorem d_Mo_value_36 : decode prog_11_method_28_code 36 = .ok (.aload_n 0, 1) := by decide +kernel
theorem d_Mo_value_37 : decode prog_11_method_28_code 37 = .ok (.getfield 122, 3) := by decide +kernel
theorem d_Mo_value_40 : decode prog_11_method_28_code 40 = .ok (.sipush 200, 3) := by decide +kernel
theorem d_Mo_value_43 : decode prog_11_method_28_code 43 = .ok (.if_icmp .ne 6, 3) := by decide +kernel
theorem d_Mo_value_46 : decode prog_11_method_28_code 46 = .ok (.bipush (-3), 2) := by decide +kernel
theorem d_Mo_value_48 : decode prog_11_method_28_code 48 = .ok (.ireturn, 1) := by decide +kernel
theorem d_Mo_value_49 : decode prog_11_method_28_code 49 = .ok (.aload_n 0, 1) := by decide +kernel
theorem d_Mo_value_50 : decode prog_11_method_28_code 50 = .ok (.iconst 0, 1) := by decide +kernel
theorem d_Mo_value_51 : decode prog_11_method_28_code 51 = .ok (.lload_n 1, 1) := by decide +kernel
theorem d_Mo_value_52 : decode prog_11_method_28_code 52 = .ok (.invokevirtual 133, 3) := by decide +kernel
theorem d_Mo_value_55 : decode prog_11_method_28_code 55 = .ok (.aload_n 0, 1) := by decide +kernel
theorem d_Mo_value_56 : decode prog_11_method_28_code 56 = .ok (.iconst 1, 1) := by decide +kernel
theorem d_Mo_value_57 : decode prog_11_method_28_code 57 = .ok (.lload_n 3, 1) := by decide +kernel
theorem d_Mo_value_58 : decode prog_11_method_28_code 58 = .ok (.invokevirtual 133, 3) := by decide +kernel
theorem d_Mo_value_61 : decode prog_11_method_28_code 61 = .ok (.aload_n 0, 1) := by decide +kernel
theorem d_Mo_value_62 : decode prog_11_method_28_code 62 = .ok (.lload_n 1, 1) := by decide +kernel
theorem d_Mo_value_63 : decode prog_11_method_28_code 63 = .ok (.lconst 0, 1) := by decide +kernel
theorem d_Mo_value_64 : decode prog_11_method_28_code 64 = .ok (.lcmp, 1) := by decide +kernel
theorem d_Mo_value_65 : decode prog_11_method_28_code 65 = .ok (.ifCond .ne 7, 3) := by decide +kernel
theorem d_Mo_value_68 : decode prog_11_method_28_code 68 = .ok (.iconst 0, 1) := by decide +kernel
theorem d_Mo_value_69 : decode prog_11_method_28_code 69 = .ok (.goto 33, 3) := by decide +kernel
theorem d_Mo_value_72 : decode prog_11_method_28_code 72 = .ok (.lload_n 1, 1) := by decide +kernel
theorem d_Mo_value_73 : decode prog_11_method_28_code 73 = .ok (.lconst 0, 1) := by decide +kernel
theorem d_Mo_value_74 : decode prog_11_method_28_code 74 = .ok (.lcmp, 1) := by decide +kernel
theorem d_Mo_value_75 : decode prog_11_method_28_code 75 = .ok (.ifCond .ge 7, 3) := by decide +kernel
theorem d_Mo_value_78 : decode prog_11_method_28_code 78 = .ok (.iconst 1, 1) := by decide +kernel
theorem d_Mo_value_79 : decode prog_11_method_28_code 79 = .ok (.goto 4, 3) := by decide +kernel
theorem d_Mo_value_82 : decode prog_11_method_28_code 82 = .ok (.iconst 0, 1) := by decide +kernel
theorem d_Mo_value_83 : decode prog_11_method_28_code 83 = .ok (.lload_n 3, 1) := by decide +kernel
theorem d_Mo_value_84 : decode prog_11_method_28_code 84 = .ok (.lconst 0, 1) := by decide +kernel
theorem d_Mo_value_85 : decode prog_11_method_28_code 85 = .ok (.lcmp, 1) := by decide +kernel
theorem d_Mo_value_86 : decode prog_11_method_28_code 86 = .ok (.ifCond .ge 7, 3) := by decide +kernel
theorem d_Mo_value_89 : decode prog_11_method_28_code 89 = .ok (.iconst 1, 1) := by decide +kernel
theorem d_Mo_value_90 : decode prog_11_method_28_code 90 = .ok (.goto 4, 3) := by decide +kernel
theorem d_Mo_value_93 : decode prog_11_method_28_code 93 = .ok (.iconst 0, 1) := by decide +kernel
theorem d_Mo_value_94 : decode prog_11_method_28_code 94 = .ok (.if_icmp .ne 7, 3) := by decide +kernel
theorem d_Mo_value_97 : decode prog_11_method_28_code 97 = .ok (.iconst 1, 1) := by decide +kernel
theorem d_Mo_value_98 : decode prog_11_method_28_code 98 = .ok (.goto 4, 3) := by decide +kernel
theorem d_Mo_value_101 : decode prog_11_method_28_code 101 = .ok (.iconst (-1), 1) := by decide +kernel
theorem d_Mo_value_102 : decode prog_11_method_28_code 102 = .ok (.putfield 94, 3) := by decide +kernel
theorem d_Mo_value_105 : decode prog_11_method_28_code 105 = .ok (.aload_n 0, 1) := by decide +kernel
theorem d_Mo_value_106 : decode prog_11_method_28_code 106 = .ok (.invokevirtual 115, 3) := by decide +kernel
theorem d_Mo_value_109 : decode prog_11_method_28_code 109 = .ok (.aload_n 0, 1) := by decide +kernel
theorem d_Mo_value_110 : decode prog_11_method_28_code 110 = .ok (.iload 5, 2) := by decide +kernel
theorem d_Mo_value_112 : decode prog_11_method_28_code 112 = .ok (.invokevirtual 136, 3) := by decide +kernel
theorem d_Mo_value_115 : decode prog_11_method_28_code 115 = .ok (.ireturn, 1) := by decide +kernel
theorem d_Mo_add_0 : decode prog_11_method_29_code 0 = .ok (.aload_n 0, 1) := by decide +kernel
theorem d_Mo_add_1 : decode prog_11_method_29_code 1 = .ok (.aload_n 0, 1) := by decide +kernel
theorem d_Mo_add_2 : decode prog_11_method_29_code 2 = .ok (.iload_n 1, 1) := by decide +kernel
theorem d_Mo_add_3 : decode prog_11_method_29_code 3 = .ok (.invokevirtual 139, 3) := by decide +kernel
theorem d_Mo_add_6 : decode prog_11_method_29_code 6 = .ok (.ifCond .eq 15, 3) := by decide +kernel
theorem d_Mo_add_9 : decode prog_11_method_29_code 9 = .ok (.aload_n 0, 1) := by decide +kernel
theorem d_Mo_add_10 : decode prog_11_method_29_code 10 = .ok (.iload_n 2, 1) := by decide +kernel
theorem d_Mo_add_11 : decode prog_11_method_29_code 11 = .ok (.invokevirtual 139, 3) := by decide +kernel
theorem d_Mo_add_14 : decode prog_11_method_29_code 14 = .ok (.ifCond .eq 7, 3) := by decide +kernel
theorem d_Mo_add_17 : decode prog_11_method_29_code 17 = .ok (.iconst 0, 1) := by decide +kernel
theorem d_Mo_add_18 : decode prog_11_method_29_code 18 = .ok (.goto 4, 3) := by decide +kernel
theorem d_Mo_add_21 : decode prog_11_method_29_code 21 = .ok (.iconst 1, 1) := by decide +kernel
theorem d_Mo_add_22 : decode prog_11_method_29_code 22 = .ok (.putfield 52, 3) := by decide +kernel
theorem d_Mo_add_25 : decode prog_11_method_29_code 25 = .ok (.aload_n 0, 1) := by decide +kernel
theorem d_Mo_add_26 : decode prog_11_method_29_code 26 = .ok (.getfield 52, 3) := by decide +kernel
theorem d_Mo_add_29 : decode prog_11_method_29_code 29 = .ok (.ifCond .le 5, 3) := by decide +kernel
theorem d_Mo_add_32 : decode prog_11_method_29_code 32 = .ok (.iconst 0, 1) := by decide +kernel
theorem d_Mo_add_33 : decode prog_11_method_29_code 33 = .ok (.ireturn, 1) := by decide +kernel
theorem d_Mo_add_34 : decode prog_11_method_29_code 34 = .ok (.aload_n 0, 1) := by decide +kernel
theorem d_Mo_add_35 : decode prog_11_method_29_code 35 = .ok (.getfield 13, 3) := by decide +kernel
theorem d_Mo_add_38 : decode prog_11_method_29_code 38 = .ok (.iload_n 1, 1) := by decide +kernel
theorem d_Mo_add_39 : decode prog_11_method_29_code 39 = .ok (.iaload, 1) := by decide +kernel
theorem d_Mo_add_40 : decode prog_11_method_29_code 40 = .ok (.aload_n 0, 1) := by decide +kernel
theorem d_Mo_add_41 : decode prog_11_method_29_code 41 = .ok (.getfield 13, 3) := by decide +kernel
theorem d_Mo_add_44 : decode prog_11_method_29_code 44 = .ok (.iload_n 2, 1) := by decide +kernel
theorem d_Mo_add_45 : decode prog_11_method_29_code 45 = .ok (.iaload, 1) := by decide +kernel
theorem d_Mo_add_46 : decode prog_11_method_29_code 46 = .ok (.if_icmp .ne 13, 3) := by decide +kernel
theorem d_Mo_add_49 : decode prog_11_method_29_code 49 = .ok (.aload_n 0, 1) := by decide +kernel
theorem d_Mo_add_50 : decode prog_11_method_29_code 50 = .ok (.getfield 122, 3) := by decide +kernel
theorem d_Mo_add_53 : decode prog_11_method_29_code 53 = .ok (.sipush 200, 3) := by decide +kernel
theorem d_Mo_add_56 : decode prog_11_method_29_code 56 = .ok (.if_icmp .ne 26, 3) := by decide +kernel
theorem d_Mo_add_59 : decode prog_11_method_29_code 59 = .ok (.aload_n 0, 1) := by decide +kernel
theorem d_Mo_add_60 : decode prog_11_method_29_code 60 = .ok (.getfield 13, 3) := by decide +kernel
theorem d_Mo_add_63 : decode prog_11_method_29_code 63 = .ok (.iload_n 1, 1) := by decide +kernel
theorem d_Mo_add_64 : decode prog_11_method_29_code 64 = .ok (.iaload, 1) := by decide +kernel
theorem d_Mo_add_65 : decode prog_11_method_29_code 65 = .ok (.aload_n 0, 1) := by decide +kernel
theorem d_Mo_add_66 : decode prog_11_method_29_code 66 = .ok (.getfield 13, 3) := by decide +kernel
theorem d_Mo_add_69 : decode prog_11_method_29_code 69 = .ok (.iload_n 2, 1) := by decide +kernel
theorem d_Mo_add_70 : decode prog_11_method_29_code 70 = .ok (.iaload, 1) := by decide +kernel
theorem d_Mo_add_71 : decode prog_11_method_29_code 71 = .ok (.if_icmp .eq 8, 3) := by decide +kernel
theorem d_Mo_add_74 : decode prog_11_method_29_code 74 = .ok (.bipush (-2), 2) := by decide +kernel
theorem d_Mo_add_76 : decode prog_11_method_29_code 76 = .ok (.goto 5, 3) := by decide +kernel
theorem d_Mo_add_79 : decode prog_11_method_29_code 79 = .ok (.bipush (-3), 2) := by decide +kernel
theorem d_Mo_add_81 : decode prog_11_method_29_code 81 = .ok (.ireturn, 1) := by decide +kernel
theorem d_Mo_add_82 : decode prog_11_method_29_code 82 = .ok (.aload_n 0, 1) := by decide +kernel
theorem d_Mo_add_83 : decode prog_11_method_29_code 83 = .ok (.iload_n 1, 1) := by decide +kernel
theorem d_Mo_add_84 : decode prog_11_method_29_code 84 = .ok (.invokevirtual 142, 3) := by decide +kernel
theorem d_Mo_add_87 : decode prog_11_method_29_code 87 = .ok (.aload_n 0, 1) := by decide +kernel
theorem d_Mo_add_88 : decode prog_11_method_29_code 88 = .ok (.iload_n 2, 1) := by decide +kernel
theorem d_Mo_add_89 : decode prog_11_method_29_code 89 = .ok (.invokevirtual 145, 3) := by decide +kernel
theorem d_Mo_add_92 : decode prog_11_method_29_code 92 = .ok (.aload_n 0, 1) := by decide +kernel
theorem d_Mo_add_93 : decode prog_11_method_29_code 93 = .ok (.iload_n 3, 1) := by decide +kernel
theorem d_Mo_add_94 : decode prog_11_method_29_code 94 = .ok (.ifCond .eq 7, 3) := by decide +kernel
theorem d_Mo_add_97 : decode prog_11_method_29_code 97 = .ok (.iconst (-1), 1) := by decide +kernel
theorem d_Mo_add_98 : decode prog_11_method_29_code 98 = .ok (.goto 4, 3) := by decide +kernel
theorem d_Mo_add_101 : decode prog_11_method_29_code 101 = .ok (.iconst 1, 1) := by decide +kernel
theorem d_Mo_add_102 : decode prog_11_method_29_code 102 = .ok (.invokevirtual 148, 3) := by decide +kernel
theorem d_Mo_add_105 : decode prog_11_method_29_code 105 = .ok (.aload_n 0, 1) := by decide +kernel
theorem d_Mo_add_106 : decode prog_11_method_29_code 106 = .ok (.aload_n 0, 1) := by decide +kernel
theorem d_Mo_add_107 : decode prog_11_method_29_code 107 = .ok (.getfield 13, 3) := by decide +kernel
theorem d_Mo_add_110 : decode prog_11_method_29_code 110 = .ok (.iload_n 1, 1) := by decide +kernel
theorem d_Mo_add_111 : decode prog_11_method_29_code 111 = .ok (.iaload, 1) := by decide +kernel
theorem d_Mo_add_112 : decode prog_11_method_29_code 112 = .ok (.invokevirtual 136, 3) := by decide +kernel
theorem d_Mo_add_115 : decode prog_11_method_29_code 115 = .ok (.ireturn, 1) := by decide +kernel
theorem d_Mo_times_0 : decode prog_11_method_30_code 0 = .ok (.aload_n 0, 1) := by decide +kernel
theorem d_Mo_times_1 : decode prog_11_method_30_code 1 = .ok (.aload_n 0, 1) := by decide +kernel
theorem d_Mo_times_2 : decode prog_11_method_30_code 2 = .ok (.iload_n 1, 1) := by decide +kernel
theorem d_Mo_times_3 : decode prog_11_method_30_code 3 = .ok (.invokevirtual 139, 3) := by decide +kernel
theorem d_Mo_times_6 : decode prog_11_method_30_code 6 = .ok (.ifCond .eq 15, 3) := by decide +kernel
theorem d_Mo_times_9 : decode prog_11_method_30_code 9 = .ok (.aload_n 0, 1) := by decide +kernel
theorem d_Mo_times_10 : decode prog_11_method_30_code 10 = .ok (.iload_n 2, 1) := by decide +kernel
theorem d_Mo_times_11 : decode prog_11_method_30_code 11 = .ok (.invokevirtual 139, 3) := by decide +kernel
theorem d_Mo_times_14 : decode prog_11_method_30_code 14 = .ok (.ifCond .eq 7, 3) := by decide +kernel
theorem d_Mo_times_17 : decode prog_11_method_30_code 17 = .ok (.iconst 0, 1) := by decide +kernel
theorem d_Mo_times_18 : decode prog_11_method_30_code 18 = .ok (.goto 4, 3) := by decide +kernel
theorem d_Mo_times_21 : decode prog_11_method_30_code 21 = .ok (.iconst 1, 1) := by decide +kernel
theorem d_Mo_times_22 : decode prog_11_method_30_code 22 = .ok (.putfield 52, 3) := by decide +kernel
theorem d_Mo_times_25 : decode prog_11_method_30_code 25 = .ok (.aload_n 0, 1) := by decide +kernel
theorem d_Mo_times_26 : decode prog_11_method_30_code 26 = .ok (.getfield 52, 3) := by decide +kernel
theorem d_Mo_times_29 : decode prog_11_method_30_code 29 = .ok (.ifCond .le 5, 3) := by decide +kernel
theorem d_Mo_times_32 : decode prog_11_method_30_code 32 = .ok (.iconst 0, 1) := by decide +kernel
theorem d_Mo_times_33 : decode prog_11_method_30_code 33 = .ok (.ireturn, 1) := by decide +kernel
theorem d_Mo_times_34 : decode prog_11_method_30_code 34 = .ok (.aload_n 0, 1) := by decide +kernel
theorem d_Mo_times_35 : decode prog_11_method_30_code 35 = .ok (.getfield 13, 3) := by decide +kernel
theorem d_Mo_times_38 : decode prog_11_method_30_code 38 = .ok (.iload_n 1, 1) := by decide +kernel
theorem d_Mo_times_39 : decode prog_11_method_30_code 39 = .ok (.iaload, 1) := by decide +kernel
theorem d_Mo_times_40 : decode prog_11_method_30_code 40 = .ok (.aload_n 0, 1) := by decide +kernel
theorem d_Mo_times_41 : decode prog_11_method_30_code 41 = .ok (.getfield 13, 3) := by decide +kernel
theorem d_Mo_times_44 : decode prog_11_method_30_code 44 = .ok (.iload_n 2, 1) := by decide +kernel
theorem d_Mo_times_45 : decode prog_11_method_30_code 45 = .ok (.iaload, 1) := by decide +kernel
theorem d_Mo_times_46 : decode prog_11_method_30_code 46 = .ok (.iadd, 1) := by decide +kernel
theorem d_Mo_times_47 : decode prog_11_method_30_code 47 = .ok (.istore_n 3, 1) := by decide +kernel
theorem d_Mo_times_48 : decode prog_11_method_30_code 48 = .ok (.iload_n 3, 1) := by decide +kernel
theorem d_Mo_times_49 : decode prog_11_method_30_code 49 = .ok (.invokestatic 129, 3) := by decide +kernel
theorem d_Mo_times_52 : decode prog_11_method_30_code 52 = .ok (.ifCond .eq 13, 3) := by decide +kernel
theorem d_Mo_times_55 : decode prog_11_method_30_code 55 = .ok (.aload_n 0, 1) := by decide +kernel
theorem d_Mo_times_56 : decode prog_11_method_30_code 56 = .ok (.getfield 122, 3) := by decide +kernel
theorem d_Mo_times_59 : decode prog_11_method_30_code 59 = .ok (.sipush 200, 3) := by decide +kernel
theorem d_Mo_times_62 : decode prog_11_method_30_code 62 = .ok (.if_icmp .ne 18, 3) := by decide +kernel
theorem d_Mo_times_65 : decode prog_11_method_30_code 65 = .ok (.iload_n 3, 1) := by decide +kernel
theorem d_Mo_times_66 : decode prog_11_method_30_code 66 = .ok (.invokestatic 129, 3) := by decide +kernel
theorem d_Mo_times_69 : decode prog_11_method_30_code 69 = .ok (.ifCond .ne 8, 3) := by decide +kernel
theorem d_Mo_times_72 : decode prog_11_method_30_code 72 = .ok (.bipush (-2), 2) := by decide +kernel
theorem d_Mo_times_74 : decode prog_11_method_30_code 74 = .ok (.goto 5, 3) := by decide +kernel
theorem d_Mo_times_77 : decode prog_11_method_30_code 77 = .ok (.bipush (-3), 2) := by decide +kernel
theorem d_Mo_times_79 : decode prog_11_method_30_code 79 = .ok (.ireturn, 1) := by decide +kernel
theorem d_Mo_times_80 : decode prog_11_method_30_code 80 = .ok (.aload_n 0, 1) := by decide +kernel
theorem d_Mo_times_81 : decode prog_11_method_30_code 81 = .ok (.iload_n 1, 1) := by decide +kernel
theorem d_Mo_times_82 : decode prog_11_method_30_code 82 = .ok (.invokevirtual 142, 3) := by decide +kernel
theorem d_Mo_times_85 : decode prog_11_method_30_code 85 = .ok (.aload_n 0, 1) := by decide +kernel
theorem d_Mo_times_86 : decode prog_11_method_30_code 86 = .ok (.iload_n 2, 1) := by decide +kernel
theorem d_Mo_times_87 : decode prog_11_method_30_code 87 = .ok (.invokevirtual 145, 3) := by decide +kernel
theorem d_Mo_times_90 : decode prog_11_method_30_code 90 = .ok (.aload_n 0, 1) := by decide +kernel
theorem d_Mo_times_91 : decode prog_11_method_30_code 91 = .ok (.invokevirtual 151, 3) := by decide +kernel
theorem d_Mo_times_94 : decode prog_11_method_30_code 94 = .ok (.aload_n 0, 1) := by decide +kernel
theorem d_Mo_times_95 : decode prog_11_method_30_code 95 = .ok (.iload_n 3, 1) := by decide +kernel
theorem d_Mo_times_96 : decode prog_11_method_30_code 96 = .ok (.invokevirtual 136, 3) := by decide +kernel
theorem d_Mo_times_99 : decode prog_11_method_30_code 99 = .ok (.ireturn, 1) := by decide +kernel
theorem d_Mo_over_0 : decode prog_11_method_31_code 0 = .ok (.aload_n 0, 1) := by decide +kernel
theorem d_Mo_over_1 : decode prog_11_method_31_code 1 = .ok (.aload_n 0, 1) := by decide +kernel
theorem d_Mo_over_2 : decode prog_11_method_31_code 2 = .ok (.iload_n 1, 1) := by decide +kernel
theorem d_Mo_over_3 : decode prog_11_method_31_code 3 = .ok (.invokevirtual 139, 3) := by decide +kernel
theorem d_Mo_over_6 : decode prog_11_method_31_code 6 = .ok (.ifCond .eq 11, 3) := by decide +kernel
theorem d_Mo_over_9 : decode prog_11_method_31_code 9 = .ok (.aload_n 0, 1) := by decide +kernel
theorem d_Mo_over_10 : decode prog_11_method_31_code 10 = .ok (.iload_n 2, 1) := by decide +kernel
theorem d_Mo_over_11 : decode prog_11_method_31_code 11 = .ok (.invokevirtual 139, 3) := by decide +kernel
theorem d_Mo_over_14 : decode prog_11_method_31_code 14 = .ok (.ifCond .ne 7, 3) := by decide +kernel
theorem d_Mo_over_17 : decode prog_11_method_31_code 17 = .ok (.iconst 1, 1) := by decide +kernel
theorem d_Mo_over_18 : decode prog_11_method_31_code 18 = .ok (.goto 17, 3) := by decide +kernel
theorem d_Mo_over_21 : decode prog_11_method_31_code 21 = .ok (.aload_n 0, 1) := by decide +kernel
theorem d_Mo_over_22 : decode prog_11_method_31_code 22 = .ok (.getfield 7, 3) := by decide +kernel
theorem d_Mo_over_25 : decode prog_11_method_31_code 25 = .ok (.iload_n 2, 1) := by decide +kernel
theorem d_Mo_over_26 : decode prog_11_method_31_code 26 = .ok (.iaload, 1) := by decide +kernel
theorem d_Mo_over_27 : decode prog_11_method_31_code 27 = .ok (.ifCond .ne 7, 3) := by decide +kernel
theorem d_Mo_over_30 : decode prog_11_method_31_code 30 = .ok (.iconst 2, 1) := by decide +kernel
theorem d_Mo_over_31 : decode prog_11_method_31_code 31 = .ok (.goto 4, 3) := by decide +kernel
theorem d_Mo_over_34 : decode prog_11_method_31_code 34 = .ok (.iconst 0, 1) := by decide +kernel
theorem d_Mo_over_35 : decode prog_11_method_31_code 35 = .ok (.putfield 52, 3) := by decide +kernel
theorem d_Mo_over_38 : decode prog_11_method_31_code 38 = .ok (.aload_n 0, 1) := by decide +kernel
theorem d_Mo_over_39 : decode prog_11_method_31_code 39 = .ok (.getfield 52, 3) := by decide +kernel
theorem d_Mo_over_42 : decode prog_11_method_31_code 42 = .ok (.ifCond .le 5, 3) := by decide +kernel
theorem d_Mo_over_45 : decode prog_11_method_31_code 45 = .ok (.iconst 0, 1) := by decide +kernel
theorem d_Mo_over_46 : decode prog_11_method_31_code 46 = .ok (.ireturn, 1) := by decide +kernel
theorem d_Mo_over_47 : decode prog_11_method_31_code 47 = .ok (.aload_n 0, 1) := by decide +kernel
theorem d_Mo_over_48 : decode prog_11_method_31_code 48 = .ok (.getfield 13, 3) := by decide +kernel
theorem d_Mo_over_51 : decode prog_11_method_31_code 51 = .ok (.iload_n 1, 1) := by decide +kernel
theorem d_Mo_over_52 : decode prog_11_method_31_code 52 = .ok (.iaload, 1) := by decide +kernel
theorem d_Mo_over_53 : decode prog_11_method_31_code 53 = .ok (.aload_n 0, 1) := by decide +kernel
theorem d_Mo_over_54 : decode prog_11_method_31_code 54 = .ok (.getfield 13, 3) := by decide +kernel
theorem d_Mo_over_57 : decode prog_11_method_31_code 57 = .ok (.iload_n 2, 1) := by decide +kernel
theorem d_Mo_over_58 : decode prog_11_method_31_code 58 = .ok (.iaload, 1) := by decide +kernel
theorem d_Mo_over_59 : decode prog_11_method_31_code 59 = .ok (.isub, 1) := by decide +kernel
theorem d_Mo_over_60 : decode prog_11_method_31_code 60 = .ok (.istore_n 3, 1) := by decide +kernel
theorem d_Mo_over_61 : decode prog_11_method_31_code 61 = .ok (.iload_n 3, 1) := by decide +kernel
theorem d_Mo_over_62 : decode prog_11_method_31_code 62 = .ok (.invokestatic 129, 3) := by decide +kernel
theorem d_Mo_over_65 : decode prog_11_method_31_code 65 = .ok (.ifCond .eq 13, 3) := by decide +kernel
theorem d_Mo_over_68 : decode prog_11_method_31_code 68 = .ok (.aload_n 0, 1) := by decide +kernel
theorem d_Mo_over_69 : decode prog_11_method_31_code 69 = .ok (.getfield 122, 3) := by decide +kernel
theorem d_Mo_over_72 : decode prog_11_method_31_code 72 = .ok (.sipush 200, 3) := by decide +kernel
theorem d_Mo_over_75 : decode prog_11_method_31_code 75 = .ok (.if_icmp .ne 18, 3) := by decide +kernel
theorem d_Mo_over_78 : decode prog_11_method_31_code 78 = .ok (.iload_n 3, 1) := by decide +kernel
theorem d_Mo_over_79 : decode prog_11_method_31_code 79 = .ok (.invokestatic 129, 3) := by decide +kernel
theorem d_Mo_over_82 : decode prog_11_method_31_code 82 = .ok (.ifCond .ne 8, 3) := by decide +kernel
theorem d_Mo_over_85 : decode prog_11_method_31_code 85 = .ok (.bipush (-2), 2) := by decide +kernel
theorem d_Mo_over_87 : decode prog_11_method_31_code 87 = .ok (.goto 5, 3) := by decide +kernel
theorem d_Mo_over_90 : decode prog_11_method_31_code 90 = .ok (.bipush (-3), 2) := by decide +kernel
theorem d_Mo_over_92 : decode prog_11_method_31_code 92 = .ok (.ireturn, 1) := by decide +kernel
theorem d_Mo_over_93 : decode prog_11_method_31_code 93 = .ok (.aload_n 0, 1) := by decide +kernel
theorem d_Mo_over_94 : decode prog_11_method_31_code 94 = .ok (.iload_n 1, 1) := by decide +kernel
theorem d_Mo_over_95 : decode prog_11_method_31_code 95 = .ok (.invokevirtual 142, 3) := by decide +kernel
theorem d_Mo_over_98 : decode prog_11_method_31_code 98 = .ok (.aload_n 0, 1) := by decide +kernel
theorem d_Mo_over_99 : decode prog_11_method_31_code 99 = .ok (.iload_n 2, 1) := by decide +kernel
theorem d_Mo_over_100 : decode prog_11_method_31_code 100 = .ok (.invokevirtual 145, 3) := by decide +kernel
theorem d_Mo_over_103 : decode prog_11_method_31_code 103 = .ok (.aload_n 0, 1) := by decide +kernel
theorem d_Mo_over_104 : decode prog_11_method_31_code 104 = .ok (.invokevirtual 154, 3) := by decide +kernel
theorem d_Mo_over_107 : decode prog_11_method_31_code 107 = .ok (.aload_n 0, 1) := by decide +kernel
theorem d_Mo_over_108 : decode prog_11_method_31_code 108 = .ok (.iload_n 3, 1) := by decide +kernel
theorem d_Mo_over_109 : decode prog_11_method_31_code 109 = .ok (.invokevirtual 136, 3) := by decide +kernel
theorem d_Mo_over_112 : decode prog_11_method_31_code 112 = .ok (.ireturn, 1) := by decide +kernel
theorem d_Mo_compareValues_0 : decode prog_11_method_32_code 0 = .ok (.aload_n 0, 1) := by decide +kernel
theorem d_Mo_compareValues_1 : decode prog_11_method_32_code 1 = .ok (.iload_n 1, 1) := by decide +kernel
theorem d_Mo_compareValues_2 : decode prog_11_method_32_code 2 = .ok (.invokevirtual 142, 3) := by decide +kernel
theorem d_Mo_compareValues_5 : decode prog_11_method_32_code 5 = .ok (.aload_n 0, 1) := by decide +kernel
theorem d_Mo_compareValues_6 : decode prog_11_method_32_code 6 = .ok (.iload_n 2, 1) := by decide +kernel
theorem d_Mo_compareValues_7 : decode prog_11_method_32_code 7 = .ok (.invokevirtual 145, 3) := by decide +kernel
theorem d_Mo_compareValues_10 : decode prog_11_method_32_code 10 = .ok (.aload_n 0, 1) := by decide +kernel
theorem d_Mo_compareValues_11 : decode prog_11_method_32_code 11 = .ok (.getfield 94, 3) := by decide +kernel
theorem d_Mo_compareValues_14 : decode prog_11_method_32_code 14 = .ok (.aload_n 0, 1) := by decide +kernel
theorem d_Mo_compareValues_15 : decode prog_11_method_32_code 15 = .ok (.getfield 103, 3) := by decide +kernel
theorem d_Mo_compareValues_18 : decode prog_11_method_32_code 18 = .ok (.if_icmp .eq 20, 3) := by decide +kernel
theorem d_Mo_compareValues_21 : decode prog_11_method_32_code 21 = .ok (.aload_n 0, 1) := by decide +kernel
theorem d_Mo_compareValues_22 : decode prog_11_method_32_code 22 = .ok (.getfield 94, 3) := by decide +kernel
theorem d_Mo_compareValues_25 : decode prog_11_method_32_code 25 = .ok (.aload_n 0, 1) := by decide +kernel
theorem d_Mo_compareValues_26 : decode prog_11_method_32_code 26 = .ok (.getfield 103, 3) := by decide +kernel
theorem d_Mo_compareValues_29 : decode prog_11_method_32_code 29 = .ok (.if_icmp .ge 7, 3) := by decide +kernel
theorem d_Mo_compareValues_32 : decode prog_11_method_32_code 32 = .ok (.iconst (-1), 1) := by decide +kernel
theorem d_Mo_compareValues_33 : decode prog_11_method_32_code 33 = .ok (.goto 4, 3) := by decide +kernel
theorem d_Mo_compareValues_36 : decode prog_11_method_32_code 36 = .ok (.iconst 1, 1) := by decide +kernel
theorem d_Mo_compareValues_37 : decode prog_11_method_32_code 37 = .ok (.ireturn, 1) := by decide +kernel
theorem d_Mo_compareValues_38 : decode prog_11_method_32_code 38 = .ok (.aload_n 0, 1) := by decide +kernel
theorem d_Mo_compareValues_39 : decode prog_11_method_32_code 39 = .ok (.iconst 4, 1) := by decide +kernel
theorem d_Mo_compareValues_40 : decode prog_11_method_32_code 40 = .ok (.iconst 0, 1) := by decide +kernel
theorem d_Mo_compareValues_41 : decode prog_11_method_32_code 41 = .ok (.iconst 3, 1) := by decide +kernel
theorem d_Mo_compareValues_42 : decode prog_11_method_32_code 42 = .ok (.invokevirtual 106, 3) := by decide +kernel
theorem d_Mo_compareValues_45 : decode prog_11_method_32_code 45 = .ok (.aload_n 0, 1) := by decide +kernel
theorem d_Mo_compareValues_46 : decode prog_11_method_32_code 46 = .ok (.iconst 5, 1) := by decide +kernel
theorem d_Mo_compareValues_47 : decode prog_11_method_32_code 47 = .ok (.iconst 2, 1) := by decide +kernel
theorem d_Mo_compareValues_48 : decode prog_11_method_32_code 48 = .ok (.iconst 1, 1) := by decide +kernel
theorem d_Mo_compareValues_49 : decode prog_11_method_32_code 49 = .ok (.invokevirtual 106, 3) := by decide +kernel
theorem d_Mo_compareValues_52 : decode prog_11_method_32_code 52 = .ok (.aload_n 0, 1) := by decide +kernel
theorem d_Mo_compareValues_53 : decode prog_11_method_32_code 53 = .ok (.getfield 94, 3) := by decide +kernel
theorem d_Mo_compareValues_56 : decode prog_11_method_32_code 56 = .ok (.aload_n 0, 1) := by decide +kernel
theorem d_Mo_compareValues_57 : decode prog_11_method_32_code 57 = .ok (.iconst 4, 1) := by decide +kernel
theorem d_Mo_compareValues_58 : decode prog_11_method_32_code 58 = .ok (.iconst 5, 1) := by decide +kernel
theorem d_Mo_compareValues_59 : decode prog_11_method_32_code 59 = .ok (.invokevirtual 67, 3) := by decide +kernel
theorem d_Mo_compareValues_62 : decode prog_11_method_32_code 62 = .ok (.imul, 1) := by decide +kernel
theorem d_Mo_compareValues_63 : decode prog_11_method_32_code 63 = .ok (.ireturn, 1) := by decide +kernel
theorem d_Mo_order_0 : decode prog_11_method_33_code 0 = .ok (.aload_n 0, 1) := by decide +kernel
theorem d_Mo_order_1 : decode prog_11_method_33_code 1 = .ok (.aload_n 0, 1) := by decide +kernel
theorem d_Mo_order_2 : decode prog_11_method_33_code 2 = .ok (.iload_n 1, 1) := by decide +kernel
theorem d_Mo_order_3 : decode prog_11_method_33_code 3 = .ok (.invokevirtual 139, 3) := by decide +kernel
theorem d_Mo_order_6 : decode prog_11_method_33_code 6 = .ok (.ifCond .eq 15, 3) := by decide +kernel
theorem d_Mo_order_9 : decode prog_11_method_33_code 9 = .ok (.aload_n 0, 1) := by decide +kernel
theorem d_Mo_order_10 : decode prog_11_method_33_code 10 = .ok (.iload_n 2, 1) := by decide +kernel
theorem d_Mo_order_11 : decode prog_11_method_33_code 11 = .ok (.invokevirtual 139, 3) := by decide +kernel
theorem d_Mo_order_14 : decode prog_11_method_33_code 14 = .ok (.ifCond .eq 7, 3) := by decide +kernel
theorem d_Mo_order_17 : decode prog_11_method_33_code 17 = .ok (.iconst 0, 1) := by decide +kernel
theorem d_Mo_order_18 : decode prog_11_method_33_code 18 = .ok (.goto 4, 3) := by decide +kernel
theorem d_Mo_order_21 : decode prog_11_method_33_code 21 = .ok (.iconst 1, 1) := by decide +kernel
theorem d_Mo_order_22 : decode prog_11_method_33_code 22 = .ok (.putfield 52, 3) := by decide +kernel
theorem d_Mo_order_25 : decode prog_11_method_33_code 25 = .ok (.aload_n 0, 1) := by decide +kernel
theorem d_Mo_order_26 : decode prog_11_method_33_code 26 = .ok (.getfield 52, 3) := by decide +kernel
theorem d_Mo_order_29 : decode prog_11_method_33_code 29 = .ok (.ifCond .le 5, 3) := by decide +kernel
theorem d_Mo_order_32 : decode prog_11_method_33_code 32 = .ok (.iconst 0, 1) := by decide +kernel
theorem d_Mo_order_33 : decode prog_11_method_33_code 33 = .ok (.ireturn, 1) := by decide +kernel
theorem d_Mo_order_34 : decode prog_11_method_33_code 34 = .ok (.aload_n 0, 1) := by decide +kernel
theorem d_Mo_order_35 : decode prog_11_method_33_code 35 = .ok (.getfield 13, 3) := by decide +kernel
theorem d_Mo_order_38 : decode prog_11_method_33_code 38 = .ok (.iload_n 1, 1) := by decide +kernel
theorem d_Mo_order_39 : decode prog_11_method_33_code 39 = .ok (.iaload, 1) := by decide +kernel
theorem d_Mo_order_40 : decode prog_11_method_33_code 40 = .ok (.aload_n 0, 1) := by decide +kernel
theorem d_Mo_order_41 : decode prog_11_method_33_code 41 = .ok (.getfield 13, 3) := by decide +kernel
theorem d_Mo_order_44 : decode prog_11_method_33_code 44 = .ok (.iload_n 2, 1) := by decide +kernel
theorem d_Mo_order_45 : decode prog_11_method_33_code 45 = .ok (.iaload, 1) := by decide +kernel
theorem d_Mo_order_46 : decode prog_11_method_33_code 46 = .ok (.if_icmp .eq 8, 3) := by decide +kernel
theorem d_Mo_order_49 : decode prog_11_method_33_code 49 = .ok (.bipush (-2), 2) := by decide +kernel
theorem d_Mo_order_51 : decode prog_11_method_33_code 51 = .ok (.goto 9, 3) := by decide +kernel
theorem d_Mo_order_54 : decode prog_11_method_33_code 54 = .ok (.aload_n 0, 1) := by decide +kernel
theorem d_Mo_order_55 : decode prog_11_method_33_code 55 = .ok (.iload_n 1, 1) := by decide +kernel
theorem d_Mo_order_56 : decode prog_11_method_33_code 56 = .ok (.iload_n 2, 1) := by decide +kernel
theorem d_Mo_order_57 : decode prog_11_method_33_code 57 = .ok (.invokevirtual 157, 3) := by decide +kernel
theorem d_Mo_order_60 : decode prog_11_method_33_code 60 = .ok (.ireturn, 1) := by decide +kernel
theorem d_Mo_round_0 : decode prog_11_method_34_code 0 = .ok (.aload_n 0, 1) := by decide +kernel
theorem d_Mo_round_1 : decode prog_11_method_34_code 1 = .ok (.aload_n 0, 1) := by decide +kernel
theorem d_Mo_round_2 : decode prog_11_method_34_code 2 = .ok (.iload_n 1, 1) := by decide +kernel
theorem d_Mo_round_3 : decode prog_11_method_34_code 3 = .ok (.invokevirtual 139, 3) := by decide +kernel
theorem d_Mo_round_6 : decode prog_11_method_34_code 6 = .ok (.ifCond .ne 7, 3) := by decide +kernel
theorem d_Mo_round_9 : decode prog_11_method_34_code 9 = .ok (.iconst 1, 1) := by decide +kernel
theorem d_Mo_round_10 : decode prog_11_method_34_code 10 = .ok (.goto 28, 3) := by decide +kernel
theorem d_Mo_round_13 : decode prog_11_method_34_code 13 = .ok (.iload_n 2, 1) := by decide +kernel
theorem d_Mo_round_14 : decode prog_11_method_34_code 14 = .ok (.ifCond .lt 19, 3) := by decide +kernel
theorem d_Mo_round_17 : decode prog_11_method_34_code 17 = .ok (.iload_n 2, 1) := by decide +kernel
theorem d_Mo_round_18 : decode prog_11_method_34_code 18 = .ok (.iconst 3, 1) := by decide +kernel
theorem d_Mo_round_19 : decode prog_11_method_34_code 19 = .ok (.if_icmp .gt 14, 3) := by decide +kernel
theorem d_Mo_round_22 : decode prog_11_method_34_code 22 = .ok (.iload_n 3, 1) := by decide +kernel
theorem d_Mo_round_23 : decode prog_11_method_34_code 23 = .ok (.iconst 1, 1) := by decide +kernel
theorem d_Mo_round_24 : decode prog_11_method_34_code 24 = .ok (.if_icmp .lt 9, 3) := by decide +kernel
theorem d_Mo_round_27 : decode prog_11_method_34_code 27 = .ok (.iload_n 3, 1) := by decide +kernel
theorem d_Mo_round_28 : decode prog_11_method_34_code 28 = .ok (.ldc 62, 2) := by decide +kernel
theorem d_Mo_round_30 : decode prog_11_method_34_code 30 = .ok (.if_icmp .le 7, 3) := by decide +kernel
theorem d_Mo_round_33 : decode prog_11_method_34_code 33 = .ok (.iconst 2, 1) := by decide +kernel
theorem d_Mo_round_34 : decode prog_11_method_34_code 34 = .ok (.goto 4, 3) := by decide +kernel
theorem d_Mo_round_37 : decode prog_11_method_34_code 37 = .ok (.iconst 0, 1) := by decide +kernel
theorem d_Mo_round_38 : decode prog_11_method_34_code 38 = .ok (.putfield 52, 3) := by decide +kernel
theorem d_Mo_round_41 : decode prog_11_method_34_code 41 = .ok (.aload_n 0, 1) := by decide +kernel
theorem d_Mo_round_42 : decode prog_11_method_34_code 42 = .ok (.getfield 52, 3) := by decide +kernel
theorem d_Mo_round_45 : decode prog_11_method_34_code 45 = .ok (.ifCond .le 5, 3) := by decide +kernel
theorem d_Mo_round_48 : decode prog_11_method_34_code 48 = .ok (.iconst 0, 1) := by decide +kernel
theorem d_Mo_round_49 : decode prog_11_method_34_code 49 = .ok (.ireturn, 1) := by decide +kernel
theorem d_Mo_round_50 : decode prog_11_method_34_code 50 = .ok (.aload_n 0, 1) := by decide +kernel
theorem d_Mo_round_51 : decode prog_11_method_34_code 51 = .ok (.getfield 122, 3) := by decide +kernel
theorem d_Mo_round_54 : decode prog_11_method_34_code 54 = .ok (.sipush 200, 3) := by decide +kernel
theorem d_Mo_round_57 : decode prog_11_method_34_code 57 = .ok (.if_icmp .ne 6, 3) := by decide +kernel
theorem d_Mo_round_60 : decode prog_11_method_34_code 60 = .ok (.bipush (-3), 2) := by decide +kernel
theorem d_Mo_round_62 : decode prog_11_method_34_code 62 = .ok (.ireturn, 1) := by decide +kernel
theorem d_Mo_round_63 : decode prog_11_method_34_code 63 = .ok (.aload_n 0, 1) := by decide +kernel
theorem d_Mo_round_64 : decode prog_11_method_34_code 64 = .ok (.iload_n 1, 1) := by decide +kernel
theorem d_Mo_round_65 : decode prog_11_method_34_code 65 = .ok (.invokevirtual 142, 3) := by decide +kernel
theorem d_Mo_round_68 : decode prog_11_method_34_code 68 = .ok (.aload_n 0, 1) := by decide +kernel
theorem d_Mo_round_69 : decode prog_11_method_34_code 69 = .ok (.iconst 0, 1) := by decide +kernel
theorem d_Mo_round_70 : decode prog_11_method_34_code 70 = .ok (.iload_n 3, 1) := by decide +kernel
theorem d_Mo_round_71 : decode prog_11_method_34_code 71 = .ok (.i2l, 1) := by decide +kernel
theorem d_Mo_round_72 : decode prog_11_method_34_code 72 = .ok (.invokevirtual 82, 3) := by decide +kernel
theorem d_Mo_round_75 : decode prog_11_method_34_code 75 = .ok (.aload_n 0, 1) := by decide +kernel
theorem d_Mo_round_76 : decode prog_11_method_34_code 76 = .ok (.iconst 0, 1) := by decide +kernel
theorem d_Mo_round_77 : decode prog_11_method_34_code 77 = .ok (.iconst 1, 1) := by decide +kernel
theorem d_Mo_round_78 : decode prog_11_method_34_code 78 = .ok (.invokevirtual 97, 3) := by decide +kernel
theorem d_Mo_round_81 : decode prog_11_method_34_code 81 = .ok (.aload_n 0, 1) := by decide +kernel
theorem d_Mo_round_82 : decode prog_11_method_34_code 82 = .ok (.getfield 27, 3) := by decide +kernel
theorem d_Mo_round_85 : decode prog_11_method_34_code 85 = .ok (.iconst 0, 1) := by decide +kernel
theorem d_Mo_round_86 : decode prog_11_method_34_code 86 = .ok (.iaload, 1) := by decide +kernel
theorem d_Mo_round_87 : decode prog_11_method_34_code 87 = .ok (.ifCond .ne 7, 3) := by decide +kernel
theorem d_Mo_round_90 : decode prog_11_method_34_code 90 = .ok (.iconst 1, 1) := by decide +kernel
theorem d_Mo_round_91 : decode prog_11_method_34_code 91 = .ok (.goto 4, 3) := by decide +kernel
theorem d_Mo_round_94 : decode prog_11_method_34_code 94 = .ok (.iconst 0, 1) := by decide +kernel
theorem d_Mo_round_95 : decode prog_11_method_34_code 95 = .ok (.istore 4, 2) := by decide +kernel
theorem d_Mo_round_97 : decode prog_11_method_34_code 97 = .ok (.aload_n 0, 1) := by decide +kernel
theorem d_Mo_round_98 : decode prog_11_method_34_code 98 = .ok (.iconst 0, 1) := by decide +kernel
theorem d_Mo_round_99 : decode prog_11_method_34_code 99 = .ok (.ldc2_w 160, 3) := by decide +kernel
theorem d_Mo_round_102 : decode prog_11_method_34_code 102 = .ok (.invokevirtual 82, 3) := by decide +kernel
theorem d_Mo_round_105 : decode prog_11_method_34_code 105 = .ok (.aload_n 0, 1) := by decide +kernel
theorem d_Mo_round_106 : decode prog_11_method_34_code 106 = .ok (.iconst 0, 1) := by decide +kernel
theorem d_Mo_round_107 : decode prog_11_method_34_code 107 = .ok (.iconst 1, 1) := by decide +kernel
theorem d_Mo_round_108 : decode prog_11_method_34_code 108 = .ok (.invokevirtual 67, 3) := by decide +kernel
theorem d_Mo_round_111 : decode prog_11_method_34_code 111 = .ok (.istore 5, 2) := by decide +kernel
theorem d_Mo_round_113 : decode prog_11_method_34_code 113 = .ok (.aload_n 0, 1) := by decide +kernel
theorem d_Mo_round_114 : decode prog_11_method_34_code 114 = .ok (.getfield 27, 3) := by decide +kernel
theorem d_Mo_round_117 : decode prog_11_method_34_code 117 = .ok (.bipush 8, 2) := by decide +kernel
theorem d_Mo_round_119 : decode prog_11_method_34_code 119 = .ok (.iaload, 1) := by decide +kernel
theorem d_Mo_round_120 : decode prog_11_method_34_code 120 = .ok (.ifCond .le 20, 3) := by decide +kernel
theorem d_Mo_round_123 : decode prog_11_method_34_code 123 = .ok (.aload_n 0, 1) := by decide +kernel
theorem d_Mo_round_124 : decode prog_11_method_34_code 124 = .ok (.getfield 24, 3) := by decide +kernel
theorem d_Mo_round_127 : decode prog_11_method_34_code 127 = .ok (.ldc 93, 2) := by decide +kernel
theorem d_Mo_round_129 : decode prog_11_method_34_code 129 = .ok (.iaload, 1) := by decide +kernel
theorem d_Mo_round_130 : decode prog_11_method_34_code 130 = .ok (.iconst 2, 1) := by decide +kernel
theorem d_Mo_round_131 : decode prog_11_method_34_code 131 = .ok (.irem, 1) := by decide +kernel
theorem d_Mo_round_132 : decode prog_11_method_34_code 132 = .ok (.iconst 1, 1) := by decide +kernel
theorem d_Mo_round_133 : decode prog_11_method_34_code 133 = .ok (.if_icmp .ne 7, 3) := by decide +kernel
theorem d_Mo_round_136 : decode prog_11_method_34_code 136 = .ok (.iconst 1, 1) := by decide +kernel
theorem d_Mo_round_137 : decode prog_11_method_34_code 137 = .ok (.goto 4, 3) := by decide +kernel
theorem d_Mo_round_140 : decode prog_11_method_34_code 140 = .ok (.iconst 0, 1) := by decide +kernel
theorem d_Mo_round_141 : decode prog_11_method_34_code 141 = .ok (.istore 6, 2) := by decide +kernel
theorem d_Mo_round_143 : decode prog_11_method_34_code 143 = .ok (.iload_n 2, 1) := by decide +kernel
theorem d_Mo_round_144 : decode prog_11_method_34_code 144 = .ok (.ifCond .ne 18, 3) := by decide +kernel
theorem d_Mo_round_147 : decode prog_11_method_34_code 147 = .ok (.aload_n 0, 1) := by decide +kernel
theorem d_Mo_round_148 : decode prog_11_method_34_code 148 = .ok (.getfield 94, 3) := by decide +kernel
theorem d_Mo_round_151 : decode prog_11_method_34_code 151 = .ok (.ifCond .ge 7, 3) := by decide +kernel
theorem d_Mo_round_154 : decode prog_11_method_34_code 154 = .ok (.iconst 1, 1) := by decide +kernel
theorem d_Mo_round_155 : decode prog_11_method_34_code 155 = .ok (.goto 77, 3) := by decide +kernel
theorem d_Mo_round_158 : decode prog_11_method_34_code 158 = .ok (.iconst 0, 1) := by decide +kernel
theorem d_Mo_round_159 : decode prog_11_method_34_code 159 = .ok (.goto 73, 3) := by decide +kernel
theorem d_Mo_round_162 : decode prog_11_method_34_code 162 = .ok (.iload_n 2, 1) := by decide +kernel
theorem d_Mo_round_163 : decode prog_11_method_34_code 163 = .ok (.iconst 1, 1) := by decide +kernel
theorem d_Mo_round_164 : decode prog_11_method_34_code 164 = .ok (.if_icmp .ne 18, 3) := by decide +kernel
theorem d_Mo_round_167 : decode prog_11_method_34_code 167 = .ok (.aload_n 0, 1) := by decide +kernel
theorem d_Mo_round_168 : decode prog_11_method_34_code 168 = .ok (.getfield 94, 3) := by decide +kernel
theorem d_Mo_round_171 : decode prog_11_method_34_code 171 = .ok (.ifCond .le 7, 3) := by decide +kernel
theorem d_Mo_round_174 : decode prog_11_method_34_code 174 = .ok (.iconst 1, 1) := by decide +kernel
theorem d_Mo_round_175 : decode prog_11_method_34_code 175 = .ok (.goto 57, 3) := by decide +kernel
theorem d_Mo_round_178 : decode prog_11_method_34_code 178 = .ok (.iconst 0, 1) := by decide +kernel
theorem d_Mo_round_179 : decode prog_11_method_34_code 179 = .ok (.goto 53, 3) := by decide +kernel
theorem d_Mo_round_182 : decode prog_11_method_34_code 182 = .ok (.iload_n 2, 1) := by decide +kernel
theorem d_Mo_round_183 : decode prog_11_method_34_code 183 = .ok (.iconst 2, 1) := by decide +kernel
theorem d_Mo_round_184 : decode prog_11_method_34_code 184 = .ok (.if_icmp .ne 28, 3) := by decide +kernel
theorem d_Mo_round_187 : decode prog_11_method_34_code 187 = .ok (.iload 5, 2) := by decide +kernel
theorem d_Mo_round_189 : decode prog_11_method_34_code 189 = .ok (.ifCond .gt 15, 3) := by decide +kernel
theorem d_Mo_round_192 : decode prog_11_method_34_code 192 = .ok (.iload 5, 2) := by decide +kernel
theorem d_Mo_round_194 : decode prog_11_method_34_code 194 = .ok (.ifCond .ne 14, 3) := by decide +kernel
theorem d_Mo_round_197 : decode prog_11_method_34_code 197 = .ok (.aload_n 0, 1) := by decide +kernel
theorem d_Mo_round_198 : decode prog_11_method_34_code 198 = .ok (.getfield 94, 3) := by decide +kernel
theorem d_Mo_round_201 : decode prog_11_method_34_code 201 = .ok (.ifCond .le 7, 3) := by decide +kernel
theorem d_Mo_round_204 : decode prog_11_method_34_code 204 = .ok (.iconst 1, 1) := by decide +kernel
theorem d_Mo_round_205 : decode prog_11_method_34_code 205 = .ok (.goto 27, 3) := by decide +kernel
theorem d_Mo_round_208 : decode prog_11_method_34_code 208 = .ok (.iconst 0, 1) := by decide +kernel
theorem d_Mo_round_209 : decode prog_11_method_34_code 209 = .ok (.goto 23, 3) := by decide +kernel
theorem d_Mo_round_212 : decode prog_11_method_34_code 212 = .ok (.iload 5, 2) := by decide +kernel
theorem d_Mo_round_214 : decode prog_11_method_34_code 214 = .ok (.ifCond .gt 13, 3) := by decide +kernel
theorem d_Mo_round_217 : decode prog_11_method_34_code 217 = .ok (.iload 5, 2) := by decide +kernel
theorem d_Mo_round_219 : decode prog_11_method_34_code 219 = .ok (.ifCond .ne 12, 3) := by decide +kernel
theorem d_Mo_round_222 : decode prog_11_method_34_code 222 = .ok (.iload 6, 2) := by decide +kernel
theorem d_Mo_round_224 : decode prog_11_method_34_code 224 = .ok (.ifCond .eq 7, 3) := by decide +kernel
theorem d_Mo_round_227 : decode prog_11_method_34_code 227 = .ok (.iconst 1, 1) := by decide +kernel
theorem d_Mo_round_228 : decode prog_11_method_34_code 228 = .ok (.goto 4, 3) := by decide +kernel
theorem d_Mo_round_231 : decode prog_11_method_34_code 231 = .ok (.iconst 0, 1) := by decide +kernel
theorem d_Mo_round_232 : decode prog_11_method_34_code 232 = .ok (.istore 7, 2) := by decide +kernel
theorem d_Mo_round_234 : decode prog_11_method_34_code 234 = .ok (.aload_n 0, 1) := by decide +kernel
theorem d_Mo_round_235 : decode prog_11_method_34_code 235 = .ok (.iconst 0, 1) := by decide +kernel
theorem d_Mo_round_236 : decode prog_11_method_34_code 236 = .ok (.bipush 8, 2) := by decide +kernel
theorem d_Mo_round_238 : decode prog_11_method_34_code 238 = .ok (.invokevirtual 70, 3) := by decide +kernel
theorem d_Mo_round_241 : decode prog_11_method_34_code 241 = .ok (.iload 7, 2) := by decide +kernel
theorem d_Mo_round_243 : decode prog_11_method_34_code 243 = .ok (.ifCond .eq 20, 3) := by decide +kernel
theorem d_Mo_round_246 : decode prog_11_method_34_code 246 = .ok (.iload 4, 2) := by decide +kernel
theorem d_Mo_round_248 : decode prog_11_method_34_code 248 = .ok (.ifCond .ne 15, 3) := by decide +kernel
theorem d_Mo_round_251 : decode prog_11_method_34_code 251 = .ok (.aload_n 0, 1) := by decide +kernel
theorem d_Mo_round_252 : decode prog_11_method_34_code 252 = .ok (.iconst 4, 1) := by decide +kernel
theorem d_Mo_round_253 : decode prog_11_method_34_code 253 = .ok (.lconst 1, 1) := by decide +kernel
theorem d_Mo_round_254 : decode prog_11_method_34_code 254 = .ok (.invokevirtual 78, 3) := by decide +kernel
theorem d_Mo_round_257 : decode prog_11_method_34_code 257 = .ok (.aload_n 0, 1) := by decide +kernel
theorem d_Mo_round_258 : decode prog_11_method_34_code 258 = .ok (.iconst 0, 1) := by decide +kernel
theorem d_Mo_round_259 : decode prog_11_method_34_code 259 = .ok (.iconst 4, 1) := by decide +kernel
theorem d_Mo_round_260 : decode prog_11_method_34_code 260 = .ok (.invokevirtual 109, 3) := by decide +kernel
theorem d_Mo_round_263 : decode prog_11_method_34_code 263 = .ok (.aload_n 0, 1) := by decide +kernel
theorem d_Mo_round_264 : decode prog_11_method_34_code 264 = .ok (.iconst 1, 1) := by decide +kernel
theorem d_Mo_round_265 : decode prog_11_method_34_code 265 = .ok (.iload_n 3, 1) := by decide +kernel
theorem d_Mo_round_266 : decode prog_11_method_34_code 266 = .ok (.i2l, 1) := by decide +kernel
theorem d_Mo_round_267 : decode prog_11_method_34_code 267 = .ok (.invokevirtual 78, 3) := by decide +kernel
theorem d_Mo_round_270 : decode prog_11_method_34_code 270 = .ok (.aload_n 0, 1) := by decide +kernel
theorem d_Mo_round_271 : decode prog_11_method_34_code 271 = .ok (.invokevirtual 115, 3) := by decide +kernel
theorem d_Mo_round_274 : decode prog_11_method_34_code 274 = .ok (.aload_n 0, 1) := by decide +kernel
theorem d_Mo_round_275 : decode prog_11_method_34_code 275 = .ok (.aload_n 0, 1) := by decide +kernel
theorem d_Mo_round_276 : decode prog_11_method_34_code 276 = .ok (.getfield 13, 3) := by decide +kernel
theorem d_Mo_round_279 : decode prog_11_method_34_code 279 = .ok (.iload_n 1, 1) := by decide +kernel
theorem d_Mo_round_280 : decode prog_11_method_34_code 280 = .ok (.iaload, 1) := by decide +kernel
theorem d_Mo_round_281 : decode prog_11_method_34_code 281 = .ok (.invokevirtual 136, 3) := by decide +kernel
theorem d_Mo_round_284 : decode prog_11_method_34_code 284 = .ok (.ireturn, 1) := by decide +kernel
theorem d_Mo_prism_0 : decode prog_11_method_35_code 0 = .ok (.aload_n 0, 1) := by decide +kernel
theorem d_Mo_prism_1 : decode prog_11_method_35_code 1 = .ok (.aload_n 0, 1) := by decide +kernel
theorem d_Mo_prism_2 : decode prog_11_method_35_code 2 = .ok (.iload_n 1, 1) := by decide +kernel
theorem d_Mo_prism_3 : decode prog_11_method_35_code 3 = .ok (.invokevirtual 139, 3) := by decide +kernel
theorem d_Mo_prism_6 : decode prog_11_method_35_code 6 = .ok (.ifCond .eq 32, 3) := by decide +kernel
theorem d_Mo_prism_9 : decode prog_11_method_35_code 9 = .ok (.aload_n 0, 1) := by decide +kernel
theorem d_Mo_prism_10 : decode prog_11_method_35_code 10 = .ok (.iload_n 2, 1) := by decide +kernel
theorem d_Mo_prism_11 : decode prog_11_method_35_code 11 = .ok (.invokevirtual 139, 3) := by decide +kernel
theorem d_Mo_prism_14 : decode prog_11_method_35_code 14 = .ok (.ifCond .eq 24, 3) := by decide +kernel
theorem d_Mo_prism_17 : decode prog_11_method_35_code 17 = .ok (.aload_n 0, 1) := by decide +kernel
theorem d_Mo_prism_18 : decode prog_11_method_35_code 18 = .ok (.iload_n 3, 1) := by decide +kernel
theorem d_Mo_prism_19 : decode prog_11_method_35_code 19 = .ok (.invokevirtual 139, 3) := by decide +kernel
theorem d_Mo_prism_22 : decode prog_11_method_35_code 22 = .ok (.ifCond .eq 16, 3) := by decide +kernel
theorem d_Mo_prism_25 : decode prog_11_method_35_code 25 = .ok (.aload_n 0, 1) := by decide +kernel
theorem d_Mo_prism_26 : decode prog_11_method_35_code 26 = .ok (.iload 4, 2) := by decide +kernel
theorem d_Mo_prism_28 : decode prog_11_method_35_code 28 = .ok (.invokevirtual 139, 3) := by decide +kernel
theorem d_Mo_prism_31 : decode prog_11_method_35_code 31 = .ok (.ifCond .eq 7, 3) := by decide +kernel
theorem d_Mo_prism_34 : decode prog_11_method_35_code 34 = .ok (.iconst 0, 1) := by decide +kernel
theorem d_Mo_prism_35 : decode prog_11_method_35_code 35 = .ok (.goto 4, 3) := by decide +kernel
theorem d_Mo_prism_38 : decode prog_11_method_35_code 38 = .ok (.iconst 1, 1) := by decide +kernel
theorem d_Mo_prism_39 : decode prog_11_method_35_code 39 = .ok (.putfield 52, 3) := by decide +kernel
theorem d_Mo_prism_42 : decode prog_11_method_35_code 42 = .ok (.aload_n 0, 1) := by decide +kernel
theorem d_Mo_prism_43 : decode prog_11_method_35_code 43 = .ok (.getfield 52, 3) := by decide +kernel
theorem d_Mo_prism_46 : decode prog_11_method_35_code 46 = .ok (.ifCond .le 5, 3) := by decide +kernel
theorem d_Mo_prism_49 : decode prog_11_method_35_code 49 = .ok (.iconst 0, 1) := by decide +kernel
theorem d_Mo_prism_50 : decode prog_11_method_35_code 50 = .ok (.ireturn, 1) := by decide +kernel
theorem d_Mo_prism_51 : decode prog_11_method_35_code 51 = .ok (.aload_n 0, 1) := by decide +kernel
theorem d_Mo_prism_52 : decode prog_11_method_35_code 52 = .ok (.getfield 13, 3) := by decide +kernel
theorem d_Mo_prism_55 : decode prog_11_method_35_code 55 = .ok (.iload_n 1, 1) := by decide +kernel
theorem d_Mo_prism_56 : decode prog_11_method_35_code 56 = .ok (.iaload, 1) := by decide +kernel
theorem d_Mo_prism_57 : decode prog_11_method_35_code 57 = .ok (.aload_n 0, 1) := by decide +kernel
theorem d_Mo_prism_58 : decode prog_11_method_35_code 58 = .ok (.getfield 13, 3) := by decide +kernel
theorem d_Mo_prism_61 : decode prog_11_method_35_code 61 = .ok (.iload_n 2, 1) := by decide +kernel
theorem d_Mo_prism_62 : decode prog_11_method_35_code 62 = .ok (.iaload, 1) := by decide +kernel
theorem d_Mo_prism_63 : decode prog_11_method_35_code 63 = .ok (.if_icmp .ne 22, 3) := by decide +kernel
theorem d_Mo_prism_66 : decode prog_11_method_35_code 66 = .ok (.aload_n 0, 1) := by decide +kernel
theorem d_Mo_prism_67 : decode prog_11_method_35_code 67 = .ok (.getfield 13, 3) := by decide +kernel
theorem d_Mo_prism_70 : decode prog_11_method_35_code 70 = .ok (.iload_n 1, 1) := by decide +kernel
theorem d_Mo_prism_71 : decode prog_11_method_35_code 71 = .ok (.iaload, 1) := by decide +kernel
theorem d_Mo_prism_72 : decode prog_11_method_35_code 72 = .ok (.aload_n 0, 1) := by decide +kernel
theorem d_Mo_prism_73 : decode prog_11_method_35_code 73 = .ok (.getfield 13, 3) := by decide +kernel
theorem d_Mo_prism_76 : decode prog_11_method_35_code 76 = .ok (.iload_n 3, 1) := by decide +kernel
theorem d_Mo_prism_77 : decode prog_11_method_35_code 77 = .ok (.iaload, 1) := by decide +kernel
theorem d_Mo_prism_78 : decode prog_11_method_35_code 78 = .ok (.if_icmp .ne 7, 3) := by decide +kernel
theorem d_Mo_prism_81 : decode prog_11_method_35_code 81 = .ok (.iconst 1, 1) := by decide +kernel
theorem d_Mo_prism_82 : decode prog_11_method_35_code 82 = .ok (.goto 4, 3) := by decide +kernel
theorem d_Mo_prism_85 : decode prog_11_method_35_code 85 = .ok (.iconst 0, 1) := by decide +kernel
theorem d_Mo_prism_86 : decode prog_11_method_35_code 86 = .ok (.istore 5, 2) := by decide +kernel
theorem d_Mo_prism_88 : decode prog_11_method_35_code 88 = .ok (.iload 5, 2) := by decide +kernel
theorem d_Mo_prism_90 : decode prog_11_method_35_code 90 = .ok (.ifCond .eq 33, 3) := by decide +kernel
theorem d_Mo_prism_93 : decode prog_11_method_35_code 93 = .ok (.aload_n 0, 1) := by decide +kernel
theorem d_Mo_prism_94 : decode prog_11_method_35_code 94 = .ok (.getfield 13, 3) := by decide +kernel
theorem d_Mo_prism_97 : decode prog_11_method_35_code 97 = .ok (.iload_n 1, 1) := by decide +kernel
theorem d_Mo_prism_98 : decode prog_11_method_35_code 98 = .ok (.iaload, 1) := by decide +kernel
theorem d_Mo_prism_99 : decode prog_11_method_35_code 99 = .ok (.aload_n 0, 1) := by decide +kernel
theorem d_Mo_prism_100 : decode prog_11_method_35_code 100 = .ok (.getfield 13, 3) := by decide +kernel
theorem d_Mo_prism_103 : decode prog_11_method_35_code 103 = .ok (.iload 4, 2) := by decide +kernel
theorem d_Mo_prism_105 : decode prog_11_method_35_code 105 = .ok (.iaload, 1) := by decide +kernel
theorem d_Mo_prism_106 : decode prog_11_method_35_code 106 = .ok (.iadd, 1) := by decide +kernel
theorem d_Mo_prism_107 : decode prog_11_method_35_code 107 = .ok (.invokestatic 129, 3) := by decide +kernel
theorem d_Mo_prism_110 : decode prog_11_method_35_code 110 = .ok (.ifCond .eq 13, 3) := by decide +kernel
theorem d_Mo_prism_113 : decode prog_11_method_35_code 113 = .ok (.aload_n 0, 1) := by decide +kernel
theorem d_Mo_prism_114 : decode prog_11_method_35_code 114 = .ok (.getfield 122, 3) := by decide +kernel
theorem d_Mo_prism_117 : decode prog_11_method_35_code 117 = .ok (.sipush 200, 3) := by decide +kernel
theorem d_Mo_prism_120 : decode prog_11_method_35_code 120 = .ok (.if_icmp .ne 36, 3) := by decide +kernel
theorem d_Mo_prism_123 : decode prog_11_method_35_code 123 = .ok (.iload 5, 2) := by decide +kernel
theorem d_Mo_prism_125 : decode prog_11_method_35_code 125 = .ok (.ifCond .eq 23, 3) := by decide +kernel
theorem d_Mo_prism_128 : decode prog_11_method_35_code 128 = .ok (.aload_n 0, 1) := by decide +kernel
theorem d_Mo_prism_129 : decode prog_11_method_35_code 129 = .ok (.getfield 13, 3) := by decide +kernel
theorem d_Mo_prism_132 : decode prog_11_method_35_code 132 = .ok (.iload_n 1, 1) := by decide +kernel
theorem d_Mo_prism_133 : decode prog_11_method_35_code 133 = .ok (.iaload, 1) := by decide +kernel
theorem d_Mo_prism_134 : decode prog_11_method_35_code 134 = .ok (.aload_n 0, 1) := by decide +kernel
theorem d_Mo_prism_135 : decode prog_11_method_35_code 135 = .ok (.getfield 13, 3) := by decide +kernel
theorem d_Mo_prism_138 : decode prog_11_method_35_code 138 = .ok (.iload 4, 2) := by decide +kernel
theorem d_Mo_prism_140 : decode prog_11_method_35_code 140 = .ok (.iaload, 1) := by decide +kernel
theorem d_Mo_prism_141 : decode prog_11_method_35_code 141 = .ok (.iadd, 1) := by decide +kernel
theorem d_Mo_prism_142 : decode prog_11_method_35_code 142 = .ok (.invokestatic 129, 3) := by decide +kernel
theorem d_Mo_prism_145 : decode prog_11_method_35_code 145 = .ok (.ifCond .ne 8, 3) := by decide +kernel
theorem d_Mo_prism_148 : decode prog_11_method_35_code 148 = .ok (.bipush (-2), 2) := by decide +kernel
theorem d_Mo_prism_150 : decode prog_11_method_35_code 150 = .ok (.goto 5, 3) := by decide +kernel
theorem d_Mo_prism_153 : decode prog_11_method_35_code 153 = .ok (.bipush (-3), 2) := by decide +kernel
theorem d_Mo_prism_155 : decode prog_11_method_35_code 155 = .ok (.ireturn, 1) := by decide +kernel
theorem d_Mo_prism_156 : decode prog_11_method_35_code 156 = .ok (.aload_n 0, 1) := by decide +kernel
theorem d_Mo_prism_157 : decode prog_11_method_35_code 157 = .ok (.iload_n 2, 1) := by decide +kernel
theorem d_Mo_prism_158 : decode prog_11_method_35_code 158 = .ok (.invokevirtual 142, 3) := by decide +kernel
theorem d_Mo_prism_161 : decode prog_11_method_35_code 161 = .ok (.aload_n 0, 1) := by decide +kernel
theorem d_Mo_prism_162 : decode prog_11_method_35_code 162 = .ok (.iconst 0, 1) := by decide +kernel
theorem d_Mo_prism_163 : decode prog_11_method_35_code 163 = .ok (.ldc2_w 162, 3) := by decide +kernel
theorem d_Mo_prism_166 : decode prog_11_method_35_code 166 = .ok (.invokevirtual 82, 3) := by decide +kernel
theorem d_Mo_prism_169 : decode prog_11_method_35_code 169 = .ok (.aload_n 0, 1) := by decide +kernel
theorem d_Mo_prism_170 : decode prog_11_method_35_code 170 = .ok (.invokevirtual 115, 3) := by decide +kernel
theorem d_Mo_prism_173 : decode prog_11_method_35_code 173 = .ok (.aload_n 0, 1) := by decide +kernel
theorem d_Mo_prism_174 : decode prog_11_method_35_code 174 = .ok (.iload_n 1, 1) := by decide +kernel
theorem d_Mo_prism_175 : decode prog_11_method_35_code 175 = .ok (.invokevirtual 145, 3) := by decide +kernel
theorem d_Mo_prism_178 : decode prog_11_method_35_code 178 = .ok (.aload_n 0, 1) := by decide +kernel
theorem d_Mo_prism_179 : decode prog_11_method_35_code 179 = .ok (.iconst 1, 1) := by decide +kernel
theorem d_Mo_prism_180 : decode prog_11_method_35_code 180 = .ok (.invokevirtual 148, 3) := by decide +kernel
theorem d_Mo_prism_183 : decode prog_11_method_35_code 183 = .ok (.aload_n 0, 1) := by decide +kernel
theorem d_Mo_prism_184 : decode prog_11_method_35_code 184 = .ok (.iload_n 3, 1) := by decide +kernel
theorem d_Mo_prism_185 : decode prog_11_method_35_code 185 = .ok (.invokevirtual 145, 3) := by decide +kernel
theorem d_Mo_prism_188 : decode prog_11_method_35_code 188 = .ok (.aload_n 0, 1) := by decide +kernel
theorem d_Mo_prism_189 : decode prog_11_method_35_code 189 = .ok (.iconst 1, 1) := by decide +kernel
theorem d_Mo_prism_190 : decode prog_11_method_35_code 190 = .ok (.invokevirtual 148, 3) := by decide +kernel
theorem d_Mo_prism_193 : decode prog_11_method_35_code 193 = .ok (.aload_n 0, 1) := by decide +kernel
theorem d_Mo_prism_194 : decode prog_11_method_35_code 194 = .ok (.iload 4, 2) := by decide +kernel
theorem d_Mo_prism_196 : decode prog_11_method_35_code 196 = .ok (.invokevirtual 145, 3) := by decide +kernel
theorem d_Mo_prism_199 : decode prog_11_method_35_code 199 = .ok (.aload_n 0, 1) := by decide +kernel
theorem d_Mo_prism_200 : decode prog_11_method_35_code 200 = .ok (.invokevirtual 151, 3) := by decide +kernel
theorem d_Mo_prism_203 : decode prog_11_method_35_code 203 = .ok (.aload_n 0, 1) := by decide +kernel
theorem d_Mo_prism_204 : decode prog_11_method_35_code 204 = .ok (.iconst 1, 1) := by decide +kernel
theorem d_Mo_prism_205 : decode prog_11_method_35_code 205 = .ok (.ldc2_w 164, 3) := by decide +kernel
theorem d_Mo_prism_208 : decode prog_11_method_35_code 208 = .ok (.invokevirtual 82, 3) := by decide +kernel
theorem d_Mo_prism_211 : decode prog_11_method_35_code 211 = .ok (.aload_n 0, 1) := by decide +kernel
theorem d_Mo_prism_212 : decode prog_11_method_35_code 212 = .ok (.invokevirtual 115, 3) := by decide +kernel
theorem d_Mo_prism_215 : decode prog_11_method_35_code 215 = .ok (.aload_n 0, 1) := by decide +kernel
theorem d_Mo_prism_216 : decode prog_11_method_35_code 216 = .ok (.aload_n 0, 1) := by decide +kernel
theorem d_Mo_prism_217 : decode prog_11_method_35_code 217 = .ok (.getfield 13, 3) := by decide +kernel
theorem d_Mo_prism_220 : decode prog_11_method_35_code 220 = .ok (.iload_n 1, 1) := by decide +kernel
theorem d_Mo_prism_221 : decode prog_11_method_35_code 221 = .ok (.iaload, 1) := by decide +kernel
theorem d_Mo_prism_222 : decode prog_11_method_35_code 222 = .ok (.aload_n 0, 1) := by decide +kernel
theorem d_Mo_prism_223 : decode prog_11_method_35_code 223 = .ok (.getfield 13, 3) := by decide +kernel
theorem d_Mo_prism_226 : decode prog_11_method_35_code 226 = .ok (.iload 4, 2) := by decide +kernel
theorem d_Mo_prism_228 : decode prog_11_method_35_code 228 = .ok (.iaload, 1) := by decide +kernel
theorem d_Mo_prism_229 : decode prog_11_method_35_code 229 = .ok (.iadd, 1) := by decide +kernel
theorem d_Mo_prism_230 : decode prog_11_method_35_code 230 = .ok (.invokevirtual 136, 3) := by decide +kernel
theorem d_Mo_prism_233 : decode prog_11_method_35_code 233 = .ok (.ireturn, 1) := by decide +kernel
theorem d_Mo_told_0 : decode prog_11_method_36_code 0 = .ok (.aload_n 0, 1) := by decide +kernel
theorem d_Mo_told_1 : decode prog_11_method_36_code 1 = .ok (.aload_n 0, 1) := by decide +kernel
theorem d_Mo_told_2 : decode prog_11_method_36_code 2 = .ok (.iload_n 1, 1) := by decide +kernel
theorem d_Mo_told_3 : decode prog_11_method_36_code 3 = .ok (.invokevirtual 139, 3) := by decide +kernel
theorem d_Mo_told_6 : decode prog_11_method_36_code 6 = .ok (.ifCond .ne 7, 3) := by decide +kernel
theorem d_Mo_told_9 : decode prog_11_method_36_code 9 = .ok (.iconst 1, 1) := by decide +kernel
theorem d_Mo_told_10 : decode prog_11_method_36_code 10 = .ok (.goto 17, 3) := by decide +kernel
theorem d_Mo_told_13 : decode prog_11_method_36_code 13 = .ok (.iload_n 2, 1) := by decide +kernel
theorem d_Mo_told_14 : decode prog_11_method_36_code 14 = .ok (.ifCond .lt 8, 3) := by decide +kernel
theorem d_Mo_told_17 : decode prog_11_method_36_code 17 = .ok (.iload_n 2, 1) := by decide +kernel
theorem d_Mo_told_18 : decode prog_11_method_36_code 18 = .ok (.iconst 3, 1) := by decide +kernel
theorem d_Mo_told_19 : decode prog_11_method_36_code 19 = .ok (.if_icmp .le 7, 3) := by decide +kernel
theorem d_Mo_told_22 : decode prog_11_method_36_code 22 = .ok (.iconst 2, 1) := by decide +kernel
theorem d_Mo_told_23 : decode prog_11_method_36_code 23 = .ok (.goto 4, 3) := by decide +kernel
theorem d_Mo_told_26 : decode prog_11_method_36_code 26 = .ok (.iconst 0, 1) := by decide +kernel
theorem d_Mo_told_27 : decode prog_11_method_36_code 27 = .ok (.putfield 52, 3) := by decide +kernel
theorem d_Mo_told_30 : decode prog_11_method_36_code 30 = .ok (.aload_n 0, 1) := by decide +kernel
theorem d_Mo_told_31 : decode prog_11_method_36_code 31 = .ok (.getfield 52, 3) := by decide +kernel
theorem d_Mo_told_34 : decode prog_11_method_36_code 34 = .ok (.ifCond .le 5, 3) := by decide +kernel
theorem d_Mo_told_37 : decode prog_11_method_36_code 37 = .ok (.iconst 0, 1) := by decide +kernel
theorem d_Mo_told_38 : decode prog_11_method_36_code 38 = .ok (.ireturn, 1) := by decide +kernel
theorem d_Mo_told_39 : decode prog_11_method_36_code 39 = .ok (.aload_n 0, 1) := by decide +kernel
theorem d_Mo_told_40 : decode prog_11_method_36_code 40 = .ok (.iload_n 1, 1) := by decide +kernel
theorem d_Mo_told_41 : decode prog_11_method_36_code 41 = .ok (.invokevirtual 142, 3) := by decide +kernel
theorem d_Mo_told_44 : decode prog_11_method_36_code 44 = .ok (.iload_n 2, 1) := by decide +kernel
theorem d_Mo_told_45 : decode prog_11_method_36_code 45 = .ok (.ifCond .ne 10, 3) := by decide +kernel
theorem d_Mo_told_48 : decode prog_11_method_36_code 48 = .ok (.aload_n 0, 1) := by decide +kernel
theorem d_Mo_told_49 : decode prog_11_method_36_code 49 = .ok (.getfield 94, 3) := by decide +kernel
theorem d_Mo_told_52 : decode prog_11_method_36_code 52 = .ok (.goto 35, 3) := by decide +kernel
theorem d_Mo_told_55 : decode prog_11_method_36_code 55 = .ok (.iload_n 2, 1) := by decide +kernel
theorem d_Mo_told_56 : decode prog_11_method_36_code 56 = .ok (.iconst 1, 1) := by decide +kernel
theorem d_Mo_told_57 : decode prog_11_method_36_code 57 = .ok (.if_icmp .ne 11, 3) := by decide +kernel
theorem d_Mo_told_60 : decode prog_11_method_36_code 60 = .ok (.aload_n 0, 1) := by decide +kernel
theorem d_Mo_told_61 : decode prog_11_method_36_code 61 = .ok (.iconst 0, 1) := by decide +kernel
theorem d_Mo_told_62 : decode prog_11_method_36_code 62 = .ok (.invokevirtual 118, 3) := by decide +kernel
theorem d_Mo_told_65 : decode prog_11_method_36_code 65 = .ok (.goto 22, 3) := by decide +kernel
theorem d_Mo_told_68 : decode prog_11_method_36_code 68 = .ok (.iload_n 2, 1) := by decide +kernel
theorem d_Mo_told_69 : decode prog_11_method_36_code 69 = .ok (.iconst 2, 1) := by decide +kernel
theorem d_Mo_told_70 : decode prog_11_method_36_code 70 = .ok (.if_icmp .ne 11, 3) := by decide +kernel
theorem d_Mo_told_73 : decode prog_11_method_36_code 73 = .ok (.aload_n 0, 1) := by decide +kernel
theorem d_Mo_told_74 : decode prog_11_method_36_code 74 = .ok (.iconst 1, 1) := by decide +kernel
theorem d_Mo_told_75 : decode prog_11_method_36_code 75 = .ok (.invokevirtual 118, 3) := by decide +kernel
theorem d_Mo_told_78 : decode prog_11_method_36_code 78 = .ok (.goto 9, 3) := by decide +kernel
theorem d_Mo_told_81 : decode prog_11_method_36_code 81 = .ok (.aload_n 0, 1) := by decide +kernel
theorem d_Mo_told_82 : decode prog_11_method_36_code 82 = .ok (.getfield 13, 3) := by decide +kernel
theorem d_Mo_told_85 : decode prog_11_method_36_code 85 = .ok (.iload_n 1, 1) := by decide +kernel
theorem d_Mo_told_86 : decode prog_11_method_36_code 86 = .ok (.iaload, 1) := by decide +kernel
theorem d_Mo_told_87 : decode prog_11_method_36_code 87 = .ok (.ireturn, 1) := by decide +kernel
theorem d_Mo_digit_0 : decode prog_11_method_37_code 0 = .ok (.iload_n 2, 1) := by decide +kernel
theorem d_Mo_digit_1 : decode prog_11_method_37_code 1 = .ok (.ifCond .lt 8, 3) := by decide +kernel
theorem d_Mo_digit_4 : decode prog_11_method_37_code 4 = .ok (.iload_n 2, 1) := by decide +kernel
theorem d_Mo_digit_5 : decode prog_11_method_37_code 5 = .ok (.iconst 1, 1) := by decide +kernel
theorem d_Mo_digit_6 : decode prog_11_method_37_code 6 = .ok (.if_icmp .le 7, 3) := by decide +kernel
theorem d_Mo_digit_9 : decode prog_11_method_37_code 9 = .ok (.iconst 1, 1) := by decide +kernel
theorem d_Mo_digit_10 : decode prog_11_method_37_code 10 = .ok (.goto 4, 3) := by decide +kernel
theorem d_Mo_digit_13 : decode prog_11_method_37_code 13 = .ok (.iconst 0, 1) := by decide +kernel
theorem d_Mo_digit_14 : decode prog_11_method_37_code 14 = .ok (.istore 4, 2) := by decide +kernel
theorem d_Mo_digit_16 : decode prog_11_method_37_code 16 = .ok (.aload_n 0, 1) := by decide +kernel
theorem d_Mo_digit_17 : decode prog_11_method_37_code 17 = .ok (.iload_n 1, 1) := by decide +kernel
theorem d_Mo_digit_18 : decode prog_11_method_37_code 18 = .ok (.invokevirtual 139, 3) := by decide +kernel
theorem d_Mo_digit_21 : decode prog_11_method_37_code 21 = .ok (.ifCond .eq 7, 3) := by decide +kernel
theorem d_Mo_digit_24 : decode prog_11_method_37_code 24 = .ok (.iload_n 3, 1) := by decide +kernel
theorem d_Mo_digit_25 : decode prog_11_method_37_code 25 = .ok (.ifCond .ge 10, 3) := by decide +kernel
theorem d_Mo_digit_28 : decode prog_11_method_37_code 28 = .ok (.aload_n 0, 1) := by decide +kernel
theorem d_Mo_digit_29 : decode prog_11_method_37_code 29 = .ok (.iconst 1, 1) := by decide +kernel
theorem d_Mo_digit_30 : decode prog_11_method_37_code 30 = .ok (.putfield 52, 3) := by decide +kernel
theorem d_Mo_digit_33 : decode prog_11_method_37_code 33 = .ok (.iconst 0, 1) := by decide +kernel
theorem d_Mo_digit_34 : decode prog_11_method_37_code 34 = .ok (.ireturn, 1) := by decide +kernel
theorem d_Mo_digit_35 : decode prog_11_method_37_code 35 = .ok (.aload_n 0, 1) := by decide +kernel
theorem d_Mo_digit_36 : decode prog_11_method_37_code 36 = .ok (.iload_n 1, 1) := by decide +kernel
theorem d_Mo_digit_37 : decode prog_11_method_37_code 37 = .ok (.invokevirtual 142, 3) := by decide +kernel
theorem d_Mo_digit_40 : decode prog_11_method_37_code 40 = .ok (.iload_n 2, 1) := by decide +kernel
theorem d_Mo_digit_41 : decode prog_11_method_37_code 41 = .ok (.ifCond .ne 7, 3) := by decide +kernel
theorem d_Mo_digit_44 : decode prog_11_method_37_code 44 = .ok (.iconst 0, 1) := by decide +kernel
theorem d_Mo_digit_45 : decode prog_11_method_37_code 45 = .ok (.goto 4, 3) := by decide +kernel
theorem d_Mo_digit_48 : decode prog_11_method_37_code 48 = .ok (.iconst 1, 1) := by decide +kernel
theorem d_Mo_digit_49 : decode prog_11_method_37_code 49 = .ok (.istore 5, 2) := by decide +kernel
theorem d_Mo_digit_51 : decode prog_11_method_37_code 51 = .ok (.aload_n 0, 1) := by decide +kernel
theorem d_Mo_digit_52 : decode prog_11_method_37_code 52 = .ok (.iload 4, 2) := by decide +kernel
theorem d_Mo_digit_54 : decode prog_11_method_37_code 54 = .ok (.ifCond .eq 7, 3) := by decide +kernel
theorem d_Mo_digit_57 : decode prog_11_method_37_code 57 = .ok (.iconst 2, 1) := by decide +kernel
theorem d_Mo_digit_58 : decode prog_11_method_37_code 58 = .ok (.goto 18, 3) := by decide +kernel
theorem d_Mo_digit_61 : decode prog_11_method_37_code 61 = .ok (.iload_n 3, 1) := by decide +kernel
theorem d_Mo_digit_62 : decode prog_11_method_37_code 62 = .ok (.aload_n 0, 1) := by decide +kernel
theorem d_Mo_digit_63 : decode prog_11_method_37_code 63 = .ok (.iload 5, 2) := by decide +kernel
theorem d_Mo_digit_65 : decode prog_11_method_37_code 65 = .ok (.invokevirtual 118, 3) := by decide +kernel
theorem d_Mo_digit_68 : decode prog_11_method_37_code 68 = .ok (.if_icmp .lt 7, 3) := by decide +kernel
theorem d_Mo_digit_71 : decode prog_11_method_37_code 71 = .ok (.iconst 1, 1) := by decide +kernel
theorem d_Mo_digit_72 : decode prog_11_method_37_code 72 = .ok (.goto 4, 3) := by decide +kernel
theorem d_Mo_digit_75 : decode prog_11_method_37_code 75 = .ok (.iconst 0, 1) := by decide +kernel
theorem d_Mo_digit_76 : decode prog_11_method_37_code 76 = .ok (.putfield 52, 3) := by decide +kernel
theorem d_Mo_digit_79 : decode prog_11_method_37_code 79 = .ok (.aload_n 0, 1) := by decide +kernel
theorem d_Mo_digit_80 : decode prog_11_method_37_code 80 = .ok (.getfield 52, 3) := by decide +kernel
theorem d_Mo_digit_83 : decode prog_11_method_37_code 83 = .ok (.ifCond .le 5, 3) := by decide +kernel
theorem d_Mo_digit_86 : decode prog_11_method_37_code 86 = .ok (.iconst 0, 1) := by decide +kernel
theorem d_Mo_digit_87 : decode prog_11_method_37_code 87 = .ok (.ireturn, 1) := by decide +kernel
theorem d_Mo_digit_88 : decode prog_11_method_37_code 88 = .ok (.aload_n 0, 1) := by decide +kernel
theorem d_Mo_digit_89 : decode prog_11_method_37_code 89 = .ok (.iload 5, 2) := by decide +kernel
theorem d_Mo_digit_91 : decode prog_11_method_37_code 91 = .ok (.iload_n 3, 1) := by decide +kernel
theorem d_Mo_digit_92 : decode prog_11_method_37_code 92 = .ok (.bipush 9, 2) := by decide +kernel
theorem d_Mo_digit_94 : decode prog_11_method_37_code 94 = .ok (.idiv, 1) := by decide +kernel
theorem d_Mo_digit_95 : decode prog_11_method_37_code 95 = .ok (.invokevirtual 58, 3) := by decide +kernel
theorem d_Mo_digit_98 : decode prog_11_method_37_code 98 = .ok (.istore 6, 2) := by decide +kernel
theorem d_Mo_digit_100 : decode prog_11_method_37_code 100 = .ok (.iconst 0, 1) := by decide +kernel
theorem d_Mo_digit_101 : decode prog_11_method_37_code 101 = .ok (.istore 7, 2) := by decide +kernel
theorem d_Mo_digit_103 : decode prog_11_method_37_code 103 = .ok (.iload 7, 2) := by decide +kernel
theorem d_Mo_digit_105 : decode prog_11_method_37_code 105 = .ok (.iload_n 3, 1) := by decide +kernel
theorem d_Mo_digit_106 : decode prog_11_method_37_code 106 = .ok (.bipush 9, 2) := by decide +kernel
theorem d_Mo_digit_108 : decode prog_11_method_37_code 108 = .ok (.irem, 1) := by decide +kernel
theorem d_Mo_digit_109 : decode prog_11_method_37_code 109 = .ok (.if_icmp .ge 16, 3) := by decide +kernel
theorem d_Mo_digit_112 : decode prog_11_method_37_code 112 = .ok (.iload 6, 2) := by decide +kernel
theorem d_Mo_digit_114 : decode prog_11_method_37_code 114 = .ok (.bipush 10, 2) := by decide +kernel
theorem d_Mo_digit_116 : decode prog_11_method_37_code 116 = .ok (.idiv, 1) := by decide +kernel
theorem d_Mo_digit_117 : decode prog_11_method_37_code 117 = .ok (.istore 6, 2) := by decide +kernel
theorem d_Mo_digit_119 : decode prog_11_method_37_code 119 = .ok (.iinc 7 1, 3) := by decide +kernel
theorem d_Mo_digit_122 : decode prog_11_method_37_code 122 = .ok (.goto (-19), 3) := by decide +kernel
theorem d_Mo_digit_125 : decode prog_11_method_37_code 125 = .ok (.iload 6, 2) := by decide +kernel
theorem d_Mo_digit_127 : decode prog_11_method_37_code 127 = .ok (.bipush 10, 2) := by decide +kernel
theorem d_Mo_digit_129 : decode prog_11_method_37_code 129 = .ok (.irem, 1) := by decide +kernel
theorem d_Mo_digit_130 : decode prog_11_method_37_code 130 = .ok (.ireturn, 1) := by decide +kernel
theorem d_Mo_clear_0 : decode prog_11_method_38_code 0 = .ok (.aload_n 0, 1) := by decide +kernel
theorem d_Mo_clear_1 : decode prog_11_method_38_code 1 = .ok (.iconst 0, 1) := by decide +kernel
theorem d_Mo_clear_2 : decode prog_11_method_38_code 2 = .ok (.putfield 52, 3) := by decide +kernel
theorem d_Mo_clear_5 : decode prog_11_method_38_code 5 = .ok (.aload_n 0, 1) := by decide +kernel
theorem d_Mo_clear_6 : decode prog_11_method_38_code 6 = .ok (.getfield 122, 3) := by decide +kernel
theorem d_Mo_clear_9 : decode prog_11_method_38_code 9 = .ok (.istore_n 1, 1) := by decide +kernel
theorem d_Mo_clear_10 : decode prog_11_method_38_code 10 = .ok (.aload_n 0, 1) := by decide +kernel
theorem d_Mo_clear_11 : decode prog_11_method_38_code 11 = .ok (.iconst 0, 1) := by decide +kernel
theorem d_Mo_clear_12 : decode prog_11_method_38_code 12 = .ok (.putfield 122, 3) := by decide +kernel
theorem d_Mo_clear_15 : decode prog_11_method_38_code 15 = .ok (.aload_n 0, 1) := by decide +kernel
theorem d_Mo_clear_16 : decode prog_11_method_38_code 16 = .ok (.iconst 0, 1) := by decide +kernel
theorem d_Mo_clear_17 : decode prog_11_method_38_code 17 = .ok (.putfield 166, 3) := by decide +kernel
theorem d_Mo_clear_20 : decode prog_11_method_38_code 20 = .ok (.iload_n 1, 1) := by decide +kernel
theorem d_Mo_clear_21 : decode prog_11_method_38_code 21 = .ok (.ireturn, 1) := by decide +kernel
theorem d_Mo_row_0 : decode prog_11_method_39_code 0 = .ok (.aload_n 0, 1) := by decide +kernel
theorem d_Mo_row_1 : decode prog_11_method_39_code 1 = .ok (.iconst 0, 1) := by decide +kernel
theorem d_Mo_row_2 : decode prog_11_method_39_code 2 = .ok (.putfield 52, 3) := by decide +kernel
theorem d_Mo_row_5 : decode prog_11_method_39_code 5 = .ok (.aload_n 0, 1) := by decide +kernel
theorem d_Mo_row_6 : decode prog_11_method_39_code 6 = .ok (.getfield 166, 3) := by decide +kernel
theorem d_Mo_row_9 : decode prog_11_method_39_code 9 = .ok (.bipush 8, 2) := by decide +kernel
theorem d_Mo_row_11 : decode prog_11_method_39_code 11 = .ok (.if_icmp .ne 6, 3) := by decide +kernel
theorem d_Mo_row_14 : decode prog_11_method_39_code 14 = .ok (.bipush (-3), 2) := by decide +kernel
theorem d_Mo_row_16 : decode prog_11_method_39_code 16 = .ok (.ireturn, 1) := by decide +kernel
theorem d_Mo_row_17 : decode prog_11_method_39_code 17 = .ok (.aload_n 0, 1) := by decide +kernel
theorem d_Mo_row_18 : decode prog_11_method_39_code 18 = .ok (.getfield 30, 3) := by decide +kernel
theorem d_Mo_row_21 : decode prog_11_method_39_code 21 = .ok (.aload_n 0, 1) := by decide +kernel
theorem d_Mo_row_22 : decode prog_11_method_39_code 22 = .ok (.getfield 166, 3) := by decide +kernel
theorem d_Mo_row_25 : decode prog_11_method_39_code 25 = .ok (.iconst 0, 1) := by decide +kernel
theorem d_Mo_row_26 : decode prog_11_method_39_code 26 = .ok (.iastore, 1) := by decide +kernel
theorem d_Mo_row_27 : decode prog_11_method_39_code 27 = .ok (.aload_n 0, 1) := by decide +kernel
theorem d_Mo_row_28 : decode prog_11_method_39_code 28 = .ok (.dup, 1) := by decide +kernel
theorem d_Mo_row_29 : decode prog_11_method_39_code 29 = .ok (.getfield 166, 3) := by decide +kernel
theorem d_Mo_row_32 : decode prog_11_method_39_code 32 = .ok (.iconst 1, 1) := by decide +kernel
theorem d_Mo_row_33 : decode prog_11_method_39_code 33 = .ok (.iadd, 1) := by decide +kernel
theorem d_Mo_row_34 : decode prog_11_method_39_code 34 = .ok (.putfield 166, 3) := by decide +kernel
theorem d_Mo_row_37 : decode prog_11_method_39_code 37 = .ok (.aload_n 0, 1) := by decide +kernel
theorem d_Mo_row_38 : decode prog_11_method_39_code 38 = .ok (.getfield 166, 3) := by decide +kernel
theorem d_Mo_row_41 : decode prog_11_method_39_code 41 = .ok (.iconst 1, 1) := by decide +kernel
theorem d_Mo_row_42 : decode prog_11_method_39_code 42 = .ok (.isub, 1) := by decide +kernel
theorem d_Mo_row_43 : decode prog_11_method_39_code 43 = .ok (.ireturn, 1) := by decide +kernel
theorem d_Mo_isRow_0 : decode prog_11_method_40_code 0 = .ok (.iload_n 1, 1) := by decide +kernel
theorem d_Mo_isRow_1 : decode prog_11_method_40_code 1 = .ok (.ifCond .lt 15, 3) := by decide +kernel
theorem d_Mo_isRow_4 : decode prog_11_method_40_code 4 = .ok (.iload_n 1, 1) := by decide +kernel
theorem d_Mo_isRow_5 : decode prog_11_method_40_code 5 = .ok (.aload_n 0, 1) := by decide +kernel
theorem d_Mo_isRow_6 : decode prog_11_method_40_code 6 = .ok (.getfield 166, 3) := by decide +kernel
theorem d_Mo_isRow_9 : decode prog_11_method_40_code 9 = .ok (.if_icmp .ge 7, 3) := by decide +kernel
theorem d_Mo_isRow_12 : decode prog_11_method_40_code 12 = .ok (.iconst 1, 1) := by decide +kernel
theorem d_Mo_isRow_13 : decode prog_11_method_40_code 13 = .ok (.goto 4, 3) := by decide +kernel
theorem d_Mo_isRow_16 : decode prog_11_method_40_code 16 = .ok (.iconst 0, 1) := by decide +kernel
theorem d_Mo_isRow_17 : decode prog_11_method_40_code 17 = .ok (.ireturn, 1) := by decide +kernel
theorem d_Mo_corner_0 : decode prog_11_method_41_code 0 = .ok (.aload_n 0, 1) := by decide +kernel
theorem d_Mo_corner_1 : decode prog_11_method_41_code 1 = .ok (.aload_n 0, 1) := by decide +kernel
theorem d_Mo_corner_2 : decode prog_11_method_41_code 2 = .ok (.iload_n 1, 1) := by decide +kernel
theorem d_Mo_corner_3 : decode prog_11_method_41_code 3 = .ok (.invokevirtual 169, 3) := by decide +kernel
theorem d_Mo_corner_6 : decode prog_11_method_41_code 6 = .ok (.ifCond .eq 23, 3) := by decide +kernel
theorem d_Mo_corner_9 : decode prog_11_method_41_code 9 = .ok (.aload_n 0, 1) := by decide +kernel
theorem d_Mo_corner_10 : decode prog_11_method_41_code 10 = .ok (.iload_n 2, 1) := by decide +kernel
theorem d_Mo_corner_11 : decode prog_11_method_41_code 11 = .ok (.invokevirtual 139, 3) := by decide +kernel
theorem d_Mo_corner_14 : decode prog_11_method_41_code 14 = .ok (.ifCond .eq 15, 3) := by decide +kernel
theorem d_Mo_corner_17 : decode prog_11_method_41_code 17 = .ok (.aload_n 0, 1) := by decide +kernel
theorem d_Mo_corner_18 : decode prog_11_method_41_code 18 = .ok (.iload_n 3, 1) := by decide +kernel
theorem d_Mo_corner_19 : decode prog_11_method_41_code 19 = .ok (.invokevirtual 139, 3) := by decide +kernel
theorem d_Mo_corner_22 : decode prog_11_method_41_code 22 = .ok (.ifCond .eq 7, 3) := by decide +kernel
theorem d_Mo_corner_25 : decode prog_11_method_41_code 25 = .ok (.iconst 0, 1) := by decide +kernel
theorem d_Mo_corner_26 : decode prog_11_method_41_code 26 = .ok (.goto 4, 3) := by decide +kernel
theorem d_Mo_corner_29 : decode prog_11_method_41_code 29 = .ok (.iconst 1, 1) := by decide +kernel
theorem d_Mo_corner_30 : decode prog_11_method_41_code 30 = .ok (.putfield 52, 3) := by decide +kernel
theorem d_Mo_corner_33 : decode prog_11_method_41_code 33 = .ok (.aload_n 0, 1) := by decide +kernel
theorem d_Mo_corner_34 : decode prog_11_method_41_code 34 = .ok (.getfield 52, 3) := by decide +kernel
theorem d_Mo_corner_37 : decode prog_11_method_41_code 37 = .ok (.ifCond .le 5, 3) := by decide +kernel
theorem d_Mo_corner_40 : decode prog_11_method_41_code 40 = .ok (.iconst 0, 1) := by decide +kernel
theorem d_Mo_corner_41 : decode prog_11_method_41_code 41 = .ok (.ireturn, 1) := by decide +kernel
theorem d_Mo_corner_42 : decode prog_11_method_41_code 42 = .ok (.aload_n 0, 1) := by decide +kernel
theorem d_Mo_corner_43 : decode prog_11_method_41_code 43 = .ok (.getfield 30, 3) := by decide +kernel
theorem d_Mo_corner_46 : decode prog_11_method_41_code 46 = .ok (.iload_n 1, 1) := by decide +kernel
theorem d_Mo_corner_47 : decode prog_11_method_41_code 47 = .ok (.iaload, 1) := by decide +kernel
theorem d_Mo_corner_48 : decode prog_11_method_41_code 48 = .ok (.istore 4, 2) := by decide +kernel
theorem d_Mo_corner_50 : decode prog_11_method_41_code 50 = .ok (.iload 4, 2) := by decide +kernel
theorem d_Mo_corner_52 : decode prog_11_method_41_code 52 = .ok (.ifCond .le 52, 3) := by decide +kernel
theorem d_Mo_corner_55 : decode prog_11_method_41_code 55 = .ok (.aload_n 0, 1) := by decide +kernel
theorem d_Mo_corner_56 : decode prog_11_method_41_code 56 = .ok (.getfield 13, 3) := by decide +kernel
theorem d_Mo_corner_59 : decode prog_11_method_41_code 59 = .ok (.iload_n 2, 1) := by decide +kernel
theorem d_Mo_corner_60 : decode prog_11_method_41_code 60 = .ok (.iaload, 1) := by decide +kernel
theorem d_Mo_corner_61 : decode prog_11_method_41_code 61 = .ok (.aload_n 0, 1) := by decide +kernel
theorem d_Mo_corner_62 : decode prog_11_method_41_code 62 = .ok (.getfield 13, 3) := by decide +kernel
theorem d_Mo_corner_65 : decode prog_11_method_41_code 65 = .ok (.aload_n 0, 1) := by decide +kernel
theorem d_Mo_corner_66 : decode prog_11_method_41_code 66 = .ok (.getfield 33, 3) := by decide +kernel
theorem d_Mo_corner_69 : decode prog_11_method_41_code 69 = .ok (.bipush 16, 2) := by decide +kernel
theorem d_Mo_corner_71 : decode prog_11_method_41_code 71 = .ok (.iload_n 1, 1) := by decide +kernel
theorem d_Mo_corner_72 : decode prog_11_method_41_code 72 = .ok (.imul, 1) := by decide +kernel
theorem d_Mo_corner_73 : decode prog_11_method_41_code 73 = .ok (.iaload, 1) := by decide +kernel
theorem d_Mo_corner_74 : decode prog_11_method_41_code 74 = .ok (.iaload, 1) := by decide +kernel
theorem d_Mo_corner_75 : decode prog_11_method_41_code 75 = .ok (.if_icmp .ne 26, 3) := by decide +kernel
theorem d_Mo_corner_78 : decode prog_11_method_41_code 78 = .ok (.aload_n 0, 1) := by decide +kernel
theorem d_Mo_corner_79 : decode prog_11_method_41_code 79 = .ok (.getfield 13, 3) := by decide +kernel
theorem d_Mo_corner_82 : decode prog_11_method_41_code 82 = .ok (.iload_n 3, 1) := by decide +kernel
theorem d_Mo_corner_83 : decode prog_11_method_41_code 83 = .ok (.iaload, 1) := by decide +kernel
theorem d_Mo_corner_84 : decode prog_11_method_41_code 84 = .ok (.aload_n 0, 1) := by decide +kernel
theorem d_Mo_corner_85 : decode prog_11_method_41_code 85 = .ok (.getfield 13, 3) := by decide +kernel
theorem d_Mo_corner_88 : decode prog_11_method_41_code 88 = .ok (.aload_n 0, 1) := by decide +kernel
theorem d_Mo_corner_89 : decode prog_11_method_41_code 89 = .ok (.getfield 36, 3) := by decide +kernel
theorem d_Mo_corner_92 : decode prog_11_method_41_code 92 = .ok (.bipush 16, 2) := by decide +kernel
theorem d_Mo_corner_94 : decode prog_11_method_41_code 94 = .ok (.iload_n 1, 1) := by decide +kernel
theorem d_Mo_corner_95 : decode prog_11_method_41_code 95 = .ok (.imul, 1) := by decide +kernel
theorem d_Mo_corner_96 : decode prog_11_method_41_code 96 = .ok (.iaload, 1) := by decide +kernel
theorem d_Mo_corner_97 : decode prog_11_method_41_code 97 = .ok (.iaload, 1) := by decide +kernel
theorem d_Mo_corner_98 : decode prog_11_method_41_code 98 = .ok (.if_icmp .eq 6, 3) := by decide +kernel
theorem d_Mo_corner_101 : decode prog_11_method_41_code 101 = .ok (.bipush (-2), 2) := by decide +kernel
theorem d_Mo_corner_103 : decode prog_11_method_41_code 103 = .ok (.ireturn, 1) := by decide +kernel
theorem d_Mo_corner_104 : decode prog_11_method_41_code 104 = .ok (.iload 4, 2) := by decide +kernel
theorem d_Mo_corner_106 : decode prog_11_method_41_code 106 = .ok (.bipush 16, 2) := by decide +kernel
theorem d_Mo_corner_108 : decode prog_11_method_41_code 108 = .ok (.if_icmp .ne 6, 3) := by decide +kernel
theorem d_Mo_corner_111 : decode prog_11_method_41_code 111 = .ok (.bipush (-3), 2) := by decide +kernel
theorem d_Mo_corner_113 : decode prog_11_method_41_code 113 = .ok (.ireturn, 1) := by decide +kernel
theorem d_Mo_corner_114 : decode prog_11_method_41_code 114 = .ok (.iload 4, 2) := by decide +kernel
theorem d_Mo_corner_116 : decode prog_11_method_41_code 116 = .ok (.ifCond .le 28, 3) := by decide +kernel
theorem d_Mo_corner_119 : decode prog_11_method_41_code 119 = .ok (.aload_n 0, 1) := by decide +kernel
theorem d_Mo_corner_120 : decode prog_11_method_41_code 120 = .ok (.iload_n 2, 1) := by decide +kernel
theorem d_Mo_corner_121 : decode prog_11_method_41_code 121 = .ok (.aload_n 0, 1) := by decide +kernel
theorem d_Mo_corner_122 : decode prog_11_method_41_code 122 = .ok (.getfield 33, 3) := by decide +kernel
theorem d_Mo_corner_125 : decode prog_11_method_41_code 125 = .ok (.bipush 16, 2) := by decide +kernel
theorem d_Mo_corner_127 : decode prog_11_method_41_code 127 = .ok (.iload_n 1, 1) := by decide +kernel
theorem d_Mo_corner_128 : decode prog_11_method_41_code 128 = .ok (.imul, 1) := by decide +kernel
theorem d_Mo_corner_129 : decode prog_11_method_41_code 129 = .ok (.iload 4, 2) := by decide +kernel
theorem d_Mo_corner_131 : decode prog_11_method_41_code 131 = .ok (.iadd, 1) := by decide +kernel
theorem d_Mo_corner_132 : decode prog_11_method_41_code 132 = .ok (.iconst 1, 1) := by decide +kernel
theorem d_Mo_corner_133 : decode prog_11_method_41_code 133 = .ok (.isub, 1) := by decide +kernel
theorem d_Mo_corner_134 : decode prog_11_method_41_code 134 = .ok (.iaload, 1) := by decide +kernel
theorem d_Mo_corner_135 : decode prog_11_method_41_code 135 = .ok (.invokevirtual 157, 3) := by decide +kernel
theorem d_Mo_corner_138 : decode prog_11_method_41_code 138 = .ok (.ifCond .gt 6, 3) := by decide +kernel
theorem d_Mo_corner_141 : decode prog_11_method_41_code 141 = .ok (.bipush (-5), 2) := by decide +kernel
theorem d_Mo_corner_143 : decode prog_11_method_41_code 143 = .ok (.ireturn, 1) := by decide +kernel
theorem d_Mo_corner_144 : decode prog_11_method_41_code 144 = .ok (.aload_n 0, 1) := by decide +kernel
theorem d_Mo_corner_145 : decode prog_11_method_41_code 145 = .ok (.getfield 33, 3) := by decide +kernel
theorem d_Mo_corner_148 : decode prog_11_method_41_code 148 = .ok (.bipush 16, 2) := by decide +kernel
theorem d_Mo_corner_150 : decode prog_11_method_41_code 150 = .ok (.iload_n 1, 1) := by decide +kernel
theorem d_Mo_corner_151 : decode prog_11_method_41_code 151 = .ok (.imul, 1) := by decide +kernel
theorem d_Mo_corner_152 : decode prog_11_method_41_code 152 = .ok (.iload 4, 2) := by decide +kernel
theorem d_Mo_corner_154 : decode prog_11_method_41_code 154 = .ok (.iadd, 1) := by decide +kernel
theorem d_Mo_corner_155 : decode prog_11_method_41_code 155 = .ok (.iload_n 2, 1) := by decide +kernel
theorem d_Mo_corner_156 : decode prog_11_method_41_code 156 = .ok (.iastore, 1) := by decide +kernel
theorem d_Mo_corner_157 : decode prog_11_method_41_code 157 = .ok (.aload_n 0, 1) := by decide +kernel
theorem d_Mo_corner_158 : decode prog_11_method_41_code 158 = .ok (.getfield 36, 3) := by decide +kernel
theorem d_Mo_corner_161 : decode prog_11_method_41_code 161 = .ok (.bipush 16, 2) := by decide +kernel
theorem d_Mo_corner_163 : decode prog_11_method_41_code 163 = .ok (.iload_n 1, 1) := by decide +kernel
theorem d_Mo_corner_164 : decode prog_11_method_41_code 164 = .ok (.imul, 1) := by decide +kernel
theorem d_Mo_corner_165 : decode prog_11_method_41_code 165 = .ok (.iload 4, 2) := by decide +kernel
theorem d_Mo_corner_167 : decode prog_11_method_41_code 167 = .ok (.iadd, 1) := by decide +kernel
theorem d_Mo_corner_168 : decode prog_11_method_41_code 168 = .ok (.iload_n 3, 1) := by decide +kernel
theorem d_Mo_corner_169 : decode prog_11_method_41_code 169 = .ok (.iastore, 1) := by decide +kernel
theorem d_Mo_corner_170 : decode prog_11_method_41_code 170 = .ok (.aload_n 0, 1) := by decide +kernel
theorem d_Mo_corner_171 : decode prog_11_method_41_code 171 = .ok (.getfield 30, 3) := by decide +kernel
theorem d_Mo_corner_174 : decode prog_11_method_41_code 174 = .ok (.iload_n 1, 1) := by decide +kernel
theorem d_Mo_corner_175 : decode prog_11_method_41_code 175 = .ok (.dup2, 1) := by decide +kernel
theorem d_Mo_corner_176 : decode prog_11_method_41_code 176 = .ok (.iaload, 1) := by decide +kernel
theorem d_Mo_corner_177 : decode prog_11_method_41_code 177 = .ok (.iconst 1, 1) := by decide +kernel
theorem d_Mo_corner_178 : decode prog_11_method_41_code 178 = .ok (.iadd, 1) := by decide +kernel
theorem d_Mo_corner_179 : decode prog_11_method_41_code 179 = .ok (.iastore, 1) := by decide +kernel
theorem d_Mo_corner_180 : decode prog_11_method_41_code 180 = .ok (.iload 4, 2) := by decide +kernel
theorem d_Mo_corner_182 : decode prog_11_method_41_code 182 = .ok (.iconst 1, 1) := by decide +kernel
theorem d_Mo_corner_183 : decode prog_11_method_41_code 183 = .ok (.iadd, 1) := by decide +kernel
theorem d_Mo_corner_184 : decode prog_11_method_41_code 184 = .ok (.ireturn, 1) := by decide +kernel
theorem d_Mo_at_0 : decode prog_11_method_42_code 0 = .ok (.aload_n 0, 1) := by decide +kernel
theorem d_Mo_at_1 : decode prog_11_method_42_code 1 = .ok (.aload_n 0, 1) := by decide +kernel
theorem d_Mo_at_2 : decode prog_11_method_42_code 2 = .ok (.iload_n 1, 1) := by decide +kernel
theorem d_Mo_at_3 : decode prog_11_method_42_code 3 = .ok (.invokevirtual 169, 3) := by decide +kernel
theorem d_Mo_at_6 : decode prog_11_method_42_code 6 = .ok (.ifCond .eq 15, 3) := by decide +kernel
theorem d_Mo_at_9 : decode prog_11_method_42_code 9 = .ok (.aload_n 0, 1) := by decide +kernel
theorem d_Mo_at_10 : decode prog_11_method_42_code 10 = .ok (.iload_n 2, 1) := by decide +kernel
theorem d_Mo_at_11 : decode prog_11_method_42_code 11 = .ok (.invokevirtual 139, 3) := by decide +kernel
theorem d_Mo_at_14 : decode prog_11_method_42_code 14 = .ok (.ifCond .eq 7, 3) := by decide +kernel
theorem d_Mo_at_17 : decode prog_11_method_42_code 17 = .ok (.iconst 0, 1) := by decide +kernel
theorem d_Mo_at_18 : decode prog_11_method_42_code 18 = .ok (.goto 4, 3) := by decide +kernel
theorem d_Mo_at_21 : decode prog_11_method_42_code 21 = .ok (.iconst 1, 1) := by decide +kernel
theorem d_Mo_at_22 : decode prog_11_method_42_code 22 = .ok (.putfield 52, 3) := by decide +kernel
theorem d_Mo_at_25 : decode prog_11_method_42_code 25 = .ok (.aload_n 0, 1) := by decide +kernel
theorem d_Mo_at_26 : decode prog_11_method_42_code 26 = .ok (.getfield 52, 3) := by decide +kernel
theorem d_Mo_at_29 : decode prog_11_method_42_code 29 = .ok (.ifCond .le 5, 3) := by decide +kernel
theorem d_Mo_at_32 : decode prog_11_method_42_code 32 = .ok (.iconst 0, 1) := by decide +kernel
theorem d_Mo_at_33 : decode prog_11_method_42_code 33 = .ok (.ireturn, 1) := by decide +kernel
theorem d_Mo_at_34 : decode prog_11_method_42_code 34 = .ok (.bipush 16, 2) := by decide +kernel
theorem d_Mo_at_36 : decode prog_11_method_42_code 36 = .ok (.iload_n 1, 1) := by decide +kernel
theorem d_Mo_at_37 : decode prog_11_method_42_code 37 = .ok (.imul, 1) := by decide +kernel
theorem d_Mo_at_38 : decode prog_11_method_42_code 38 = .ok (.istore_n 3, 1) := by decide +kernel
theorem d_Mo_at_39 : decode prog_11_method_42_code 39 = .ok (.aload_n 0, 1) := by decide +kernel
theorem d_Mo_at_40 : decode prog_11_method_42_code 40 = .ok (.getfield 30, 3) := by decide +kernel
theorem d_Mo_at_43 : decode prog_11_method_42_code 43 = .ok (.iload_n 1, 1) := by decide +kernel
theorem d_Mo_at_44 : decode prog_11_method_42_code 44 = .ok (.iaload, 1) := by decide +kernel
theorem d_Mo_at_45 : decode prog_11_method_42_code 45 = .ok (.istore 4, 2) := by decide +kernel
theorem d_Mo_at_47 : decode prog_11_method_42_code 47 = .ok (.iload 4, 2) := by decide +kernel
theorem d_Mo_at_49 : decode prog_11_method_42_code 49 = .ok (.ifCond .le 26, 3) := by decide +kernel
theorem d_Mo_at_52 : decode prog_11_method_42_code 52 = .ok (.aload_n 0, 1) := by decide +kernel
theorem d_Mo_at_53 : decode prog_11_method_42_code 53 = .ok (.getfield 13, 3) := by decide +kernel
theorem d_Mo_at_56 : decode prog_11_method_42_code 56 = .ok (.iload_n 2, 1) := by decide +kernel
theorem d_Mo_at_57 : decode prog_11_method_42_code 57 = .ok (.iaload, 1) := by decide +kernel
theorem d_Mo_at_58 : decode prog_11_method_42_code 58 = .ok (.aload_n 0, 1) := by decide +kernel
theorem d_Mo_at_59 : decode prog_11_method_42_code 59 = .ok (.getfield 13, 3) := by decide +kernel
theorem d_Mo_at_62 : decode prog_11_method_42_code 62 = .ok (.aload_n 0, 1) := by decide +kernel
theorem d_Mo_at_63 : decode prog_11_method_42_code 63 = .ok (.getfield 33, 3) := by decide +kernel
theorem d_Mo_at_66 : decode prog_11_method_42_code 66 = .ok (.iload_n 3, 1) := by decide +kernel
theorem d_Mo_at_67 : decode prog_11_method_42_code 67 = .ok (.iaload, 1) := by decide +kernel
theorem d_Mo_at_68 : decode prog_11_method_42_code 68 = .ok (.iaload, 1) := by decide +kernel
theorem d_Mo_at_69 : decode prog_11_method_42_code 69 = .ok (.if_icmp .eq 6, 3) := by decide +kernel
theorem d_Mo_at_72 : decode prog_11_method_42_code 72 = .ok (.bipush (-2), 2) := by decide +kernel
theorem d_Mo_at_74 : decode prog_11_method_42_code 74 = .ok (.ireturn, 1) := by decide +kernel
theorem d_Mo_at_75 : decode prog_11_method_42_code 75 = .ok (.iload 4, 2) := by decide +kernel
theorem d_Mo_at_77 : decode prog_11_method_42_code 77 = .ok (.ifCond .eq 36, 3) := by decide +kernel
theorem d_Mo_at_80 : decode prog_11_method_42_code 80 = .ok (.aload_n 0, 1) := by decide +kernel
theorem d_Mo_at_81 : decode prog_11_method_42_code 81 = .ok (.iload_n 2, 1) := by decide +kernel
theorem d_Mo_at_82 : decode prog_11_method_42_code 82 = .ok (.aload_n 0, 1) := by decide +kernel
theorem d_Mo_at_83 : decode prog_11_method_42_code 83 = .ok (.getfield 33, 3) := by decide +kernel
theorem d_Mo_at_86 : decode prog_11_method_42_code 86 = .ok (.iload_n 3, 1) := by decide +kernel
theorem d_Mo_at_87 : decode prog_11_method_42_code 87 = .ok (.iaload, 1) := by decide +kernel
theorem d_Mo_at_88 : decode prog_11_method_42_code 88 = .ok (.invokevirtual 157, 3) := by decide +kernel
theorem d_Mo_at_91 : decode prog_11_method_42_code 91 = .ok (.ifCond .lt 22, 3) := by decide +kernel
theorem d_Mo_at_94 : decode prog_11_method_42_code 94 = .ok (.aload_n 0, 1) := by decide +kernel
theorem d_Mo_at_95 : decode prog_11_method_42_code 95 = .ok (.iload_n 2, 1) := by decide +kernel
theorem d_Mo_at_96 : decode prog_11_method_42_code 96 = .ok (.aload_n 0, 1) := by decide +kernel
theorem d_Mo_at_97 : decode prog_11_method_42_code 97 = .ok (.getfield 33, 3) := by decide +kernel
theorem d_Mo_at_100 : decode prog_11_method_42_code 100 = .ok (.iload_n 3, 1) := by decide +kernel
theorem d_Mo_at_101 : decode prog_11_method_42_code 101 = .ok (.iload 4, 2) := by decide +kernel
theorem d_Mo_at_103 : decode prog_11_method_42_code 103 = .ok (.iadd, 1) := by decide +kernel
theorem d_Mo_at_104 : decode prog_11_method_42_code 104 = .ok (.iconst 1, 1) := by decide +kernel
theorem d_Mo_at_105 : decode prog_11_method_42_code 105 = .ok (.isub, 1) := by decide +kernel
theorem d_Mo_at_106 : decode prog_11_method_42_code 106 = .ok (.iaload, 1) := by decide +kernel
theorem d_Mo_at_107 : decode prog_11_method_42_code 107 = .ok (.invokevirtual 157, 3) := by decide +kernel
theorem d_Mo_at_110 : decode prog_11_method_42_code 110 = .ok (.ifCond .le 6, 3) := by decide +kernel
theorem d_Mo_at_113 : decode prog_11_method_42_code 113 = .ok (.bipush (-5), 2) := by decide +kernel
theorem d_Mo_at_115 : decode prog_11_method_42_code 115 = .ok (.ireturn, 1) := by decide +kernel
theorem d_Mo_at_116 : decode prog_11_method_42_code 116 = .ok (.aload_n 0, 1) := by decide +kernel
theorem d_Mo_at_117 : decode prog_11_method_42_code 117 = .ok (.getfield 122, 3) := by decide +kernel
theorem d_Mo_at_120 : decode prog_11_method_42_code 120 = .ok (.sipush 200, 3) := by decide +kernel
theorem d_Mo_at_123 : decode prog_11_method_42_code 123 = .ok (.if_icmp .ne 6, 3) := by decide +kernel
theorem d_Mo_at_126 : decode prog_11_method_42_code 126 = .ok (.bipush (-3), 2) := by decide +kernel
theorem d_Mo_at_128 : decode prog_11_method_42_code 128 = .ok (.ireturn, 1) := by decide +kernel
theorem d_Mo_at_129 : decode prog_11_method_42_code 129 = .ok (.iload_n 3, 1) := by decide +kernel
theorem d_Mo_at_130 : decode prog_11_method_42_code 130 = .ok (.iload 4, 2) := by decide +kernel
theorem d_Mo_at_132 : decode prog_11_method_42_code 132 = .ok (.iadd, 1) := by decide +kernel
theorem d_Mo_at_133 : decode prog_11_method_42_code 133 = .ok (.iconst 1, 1) := by decide +kernel
theorem d_Mo_at_134 : decode prog_11_method_42_code 134 = .ok (.isub, 1) := by decide +kernel
theorem d_Mo_at_135 : decode prog_11_method_42_code 135 = .ok (.istore 5, 2) := by decide +kernel
theorem d_Mo_at_137 : decode prog_11_method_42_code 137 = .ok (.aload_n 0, 1) := by decide +kernel
theorem d_Mo_at_138 : decode prog_11_method_42_code 138 = .ok (.iload_n 2, 1) := by decide +kernel
theorem d_Mo_at_139 : decode prog_11_method_42_code 139 = .ok (.aload_n 0, 1) := by decide +kernel
theorem d_Mo_at_140 : decode prog_11_method_42_code 140 = .ok (.getfield 33, 3) := by decide +kernel
theorem d_Mo_at_143 : decode prog_11_method_42_code 143 = .ok (.iload 5, 2) := by decide +kernel
theorem d_Mo_at_145 : decode prog_11_method_42_code 145 = .ok (.iaload, 1) := by decide +kernel
theorem d_Mo_at_146 : decode prog_11_method_42_code 146 = .ok (.invokevirtual 157, 3) := by decide +kernel
theorem d_Mo_at_149 : decode prog_11_method_42_code 149 = .ok (.ifCond .ge 9, 3) := by decide +kernel
theorem d_Mo_at_152 : decode prog_11_method_42_code 152 = .ok (.iinc 5 (-1), 3) := by decide +kernel
theorem d_Mo_at_155 : decode prog_11_method_42_code 155 = .ok (.goto (-18), 3) := by decide +kernel
theorem d_Mo_at_158 : decode prog_11_method_42_code 158 = .ok (.aload_n 0, 1) := by decide +kernel
theorem d_Mo_at_159 : decode prog_11_method_42_code 159 = .ok (.iload_n 2, 1) := by decide +kernel
theorem d_Mo_at_160 : decode prog_11_method_42_code 160 = .ok (.aload_n 0, 1) := by decide +kernel
theorem d_Mo_at_161 : decode prog_11_method_42_code 161 = .ok (.getfield 33, 3) := by decide +kernel
theorem d_Mo_at_164 : decode prog_11_method_42_code 164 = .ok (.iload 5, 2) := by decide +kernel
theorem d_Mo_at_166 : decode prog_11_method_42_code 166 = .ok (.iaload, 1) := by decide +kernel
theorem d_Mo_at_167 : decode prog_11_method_42_code 167 = .ok (.invokevirtual 157, 3) := by decide +kernel
theorem d_Mo_at_170 : decode prog_11_method_42_code 170 = .ok (.ifCond .ne 31, 3) := by decide +kernel
theorem d_Mo_at_173 : decode prog_11_method_42_code 173 = .ok (.aload_n 0, 1) := by decide +kernel
theorem d_Mo_at_174 : decode prog_11_method_42_code 174 = .ok (.aload_n 0, 1) := by decide +kernel
theorem d_Mo_at_175 : decode prog_11_method_42_code 175 = .ok (.getfield 36, 3) := by decide +kernel
theorem d_Mo_at_178 : decode prog_11_method_42_code 178 = .ok (.iload 5, 2) := by decide +kernel
theorem d_Mo_at_180 : decode prog_11_method_42_code 180 = .ok (.iaload, 1) := by decide +kernel
theorem d_Mo_at_181 : decode prog_11_method_42_code 181 = .ok (.invokevirtual 142, 3) := by decide +kernel
theorem d_Mo_at_184 : decode prog_11_method_42_code 184 = .ok (.aload_n 0, 1) := by decide +kernel
theorem d_Mo_at_185 : decode prog_11_method_42_code 185 = .ok (.aload_n 0, 1) := by decide +kernel
theorem d_Mo_at_186 : decode prog_11_method_42_code 186 = .ok (.getfield 13, 3) := by decide +kernel
theorem d_Mo_at_189 : decode prog_11_method_42_code 189 = .ok (.aload_n 0, 1) := by decide +kernel
theorem d_Mo_at_190 : decode prog_11_method_42_code 190 = .ok (.getfield 36, 3) := by decide +kernel
theorem d_Mo_at_193 : decode prog_11_method_42_code 193 = .ok (.iload 5, 2) := by decide +kernel
theorem d_Mo_at_195 : decode prog_11_method_42_code 195 = .ok (.iaload, 1) := by decide +kernel
theorem d_Mo_at_196 : decode prog_11_method_42_code 196 = .ok (.iaload, 1) := by decide +kernel
theorem d_Mo_at_197 : decode prog_11_method_42_code 197 = .ok (.invokevirtual 136, 3) := by decide +kernel
theorem d_Mo_at_200 : decode prog_11_method_42_code 200 = .ok (.ireturn, 1) := by decide +kernel
theorem d_Mo_at_201 : decode prog_11_method_42_code 201 = .ok (.aload_n 0, 1) := by decide +kernel
theorem d_Mo_at_202 : decode prog_11_method_42_code 202 = .ok (.getfield 13, 3) := by decide +kernel
theorem d_Mo_at_205 : decode prog_11_method_42_code 205 = .ok (.aload_n 0, 1) := by decide +kernel
theorem d_Mo_at_206 : decode prog_11_method_42_code 206 = .ok (.getfield 36, 3) := by decide +kernel
theorem d_Mo_at_209 : decode prog_11_method_42_code 209 = .ok (.iload_n 3, 1) := by decide +kernel
theorem d_Mo_at_210 : decode prog_11_method_42_code 210 = .ok (.iaload, 1) := by decide +kernel
theorem d_Mo_at_211 : decode prog_11_method_42_code 211 = .ok (.iaload, 1) := by decide +kernel
theorem d_Mo_at_212 : decode prog_11_method_42_code 212 = .ok (.istore 6, 2) := by decide +kernel
theorem d_Mo_at_214 : decode prog_11_method_42_code 214 = .ok (.aload_n 0, 1) := by decide +kernel
theorem d_Mo_at_215 : decode prog_11_method_42_code 215 = .ok (.aload_n 0, 1) := by decide +kernel
theorem d_Mo_at_216 : decode prog_11_method_42_code 216 = .ok (.getfield 36, 3) := by decide +kernel
theorem d_Mo_at_219 : decode prog_11_method_42_code 219 = .ok (.iload 5, 2) := by decide +kernel
theorem d_Mo_at_221 : decode prog_11_method_42_code 221 = .ok (.iconst 1, 1) := by decide +kernel
theorem d_Mo_at_222 : decode prog_11_method_42_code 222 = .ok (.iadd, 1) := by decide +kernel
theorem d_Mo_at_223 : decode prog_11_method_42_code 223 = .ok (.iaload, 1) := by decide +kernel
theorem d_Mo_at_224 : decode prog_11_method_42_code 224 = .ok (.invokevirtual 142, 3) := by decide +kernel
theorem d_Mo_at_227 : decode prog_11_method_42_code 227 = .ok (.aload_n 0, 1) := by decide +kernel
theorem d_Mo_at_228 : decode prog_11_method_42_code 228 = .ok (.aload_n 0, 1) := by decide +kernel
theorem d_Mo_at_229 : decode prog_11_method_42_code 229 = .ok (.getfield 36, 3) := by decide +kernel
theorem d_Mo_at_232 : decode prog_11_method_42_code 232 = .ok (.iload 5, 2) := by decide +kernel
theorem d_Mo_at_234 : decode prog_11_method_42_code 234 = .ok (.iaload, 1) := by decide +kernel
theorem d_Mo_at_235 : decode prog_11_method_42_code 235 = .ok (.invokevirtual 145, 3) := by decide +kernel
theorem d_Mo_at_238 : decode prog_11_method_42_code 238 = .ok (.aload_n 0, 1) := by decide +kernel
theorem d_Mo_at_239 : decode prog_11_method_42_code 239 = .ok (.iconst (-1), 1) := by decide +kernel
theorem d_Mo_at_240 : decode prog_11_method_42_code 240 = .ok (.invokevirtual 148, 3) := by decide +kernel
theorem d_Mo_at_243 : decode prog_11_method_42_code 243 = .ok (.aload_n 0, 1) := by decide +kernel
theorem d_Mo_at_244 : decode prog_11_method_42_code 244 = .ok (.invokevirtual 172, 3) := by decide +kernel
theorem d_Mo_at_247 : decode prog_11_method_42_code 247 = .ok (.aload_n 0, 1) := by decide +kernel
theorem d_Mo_at_248 : decode prog_11_method_42_code 248 = .ok (.iload_n 2, 1) := by decide +kernel
theorem d_Mo_at_249 : decode prog_11_method_42_code 249 = .ok (.invokevirtual 142, 3) := by decide +kernel
theorem d_Mo_at_252 : decode prog_11_method_42_code 252 = .ok (.aload_n 0, 1) := by decide +kernel
theorem d_Mo_at_253 : decode prog_11_method_42_code 253 = .ok (.aload_n 0, 1) := by decide +kernel
theorem d_Mo_at_254 : decode prog_11_method_42_code 254 = .ok (.getfield 33, 3) := by decide +kernel
theorem d_Mo_at_257 : decode prog_11_method_42_code 257 = .ok (.iload 5, 2) := by decide +kernel
theorem d_Mo_at_259 : decode prog_11_method_42_code 259 = .ok (.iaload, 1) := by decide +kernel
theorem d_Mo_at_260 : decode prog_11_method_42_code 260 = .ok (.invokevirtual 145, 3) := by decide +kernel
theorem d_Mo_at_263 : decode prog_11_method_42_code 263 = .ok (.aload_n 0, 1) := by decide +kernel
theorem d_Mo_at_264 : decode prog_11_method_42_code 264 = .ok (.iconst (-1), 1) := by decide +kernel
theorem d_Mo_at_265 : decode prog_11_method_42_code 265 = .ok (.invokevirtual 148, 3) := by decide +kernel
theorem d_Mo_at_268 : decode prog_11_method_42_code 268 = .ok (.aload_n 0, 1) := by decide +kernel
theorem d_Mo_at_269 : decode prog_11_method_42_code 269 = .ok (.invokevirtual 175, 3) := by decide +kernel
theorem d_Mo_at_272 : decode prog_11_method_42_code 272 = .ok (.aload_n 0, 1) := by decide +kernel
theorem d_Mo_at_273 : decode prog_11_method_42_code 273 = .ok (.invokevirtual 151, 3) := by decide +kernel
theorem d_Mo_at_276 : decode prog_11_method_42_code 276 = .ok (.aload_n 0, 1) := by decide +kernel
theorem d_Mo_at_277 : decode prog_11_method_42_code 277 = .ok (.invokevirtual 172, 3) := by decide +kernel
theorem d_Mo_at_280 : decode prog_11_method_42_code 280 = .ok (.aload_n 0, 1) := by decide +kernel
theorem d_Mo_at_281 : decode prog_11_method_42_code 281 = .ok (.aload_n 0, 1) := by decide +kernel
theorem d_Mo_at_282 : decode prog_11_method_42_code 282 = .ok (.getfield 33, 3) := by decide +kernel
theorem d_Mo_at_285 : decode prog_11_method_42_code 285 = .ok (.iload 5, 2) := by decide +kernel
theorem d_Mo_at_287 : decode prog_11_method_42_code 287 = .ok (.iconst 1, 1) := by decide +kernel
theorem d_Mo_at_288 : decode prog_11_method_42_code 288 = .ok (.iadd, 1) := by decide +kernel
theorem d_Mo_at_289 : decode prog_11_method_42_code 289 = .ok (.iaload, 1) := by decide +kernel
theorem d_Mo_at_290 : decode prog_11_method_42_code 290 = .ok (.invokevirtual 142, 3) := by decide +kernel
theorem d_Mo_at_293 : decode prog_11_method_42_code 293 = .ok (.aload_n 0, 1) := by decide +kernel
theorem d_Mo_at_294 : decode prog_11_method_42_code 294 = .ok (.aload_n 0, 1) := by decide +kernel
theorem d_Mo_at_295 : decode prog_11_method_42_code 295 = .ok (.getfield 33, 3) := by decide +kernel
theorem d_Mo_at_298 : decode prog_11_method_42_code 298 = .ok (.iload 5, 2) := by decide +kernel
theorem d_Mo_at_300 : decode prog_11_method_42_code 300 = .ok (.iaload, 1) := by decide +kernel
theorem d_Mo_at_301 : decode prog_11_method_42_code 301 = .ok (.invokevirtual 145, 3) := by decide +kernel
theorem d_Mo_at_304 : decode prog_11_method_42_code 304 = .ok (.aload_n 0, 1) := by decide +kernel
theorem d_Mo_at_305 : decode prog_11_method_42_code 305 = .ok (.iconst (-1), 1) := by decide +kernel
theorem d_Mo_at_306 : decode prog_11_method_42_code 306 = .ok (.invokevirtual 148, 3) := by decide +kernel
theorem d_Mo_at_309 : decode prog_11_method_42_code 309 = .ok (.aload_n 0, 1) := by decide +kernel
theorem d_Mo_at_310 : decode prog_11_method_42_code 310 = .ok (.invokevirtual 175, 3) := by decide +kernel
theorem d_Mo_at_313 : decode prog_11_method_42_code 313 = .ok (.aload_n 0, 1) := by decide +kernel
theorem d_Mo_at_314 : decode prog_11_method_42_code 314 = .ok (.invokevirtual 178, 3) := by decide +kernel
theorem d_Mo_at_317 : decode prog_11_method_42_code 317 = .ok (.aload_n 0, 1) := by decide +kernel
theorem d_Mo_at_318 : decode prog_11_method_42_code 318 = .ok (.invokevirtual 154, 3) := by decide +kernel
theorem d_Mo_at_321 : decode prog_11_method_42_code 321 = .ok (.aload_n 0, 1) := by decide +kernel
theorem d_Mo_at_322 : decode prog_11_method_42_code 322 = .ok (.aload_n 0, 1) := by decide +kernel
theorem d_Mo_at_323 : decode prog_11_method_42_code 323 = .ok (.getfield 36, 3) := by decide +kernel
theorem d_Mo_at_326 : decode prog_11_method_42_code 326 = .ok (.iload 5, 2) := by decide +kernel
theorem d_Mo_at_328 : decode prog_11_method_42_code 328 = .ok (.iaload, 1) := by decide +kernel
theorem d_Mo_at_329 : decode prog_11_method_42_code 329 = .ok (.invokevirtual 145, 3) := by decide +kernel
theorem d_Mo_at_332 : decode prog_11_method_42_code 332 = .ok (.aload_n 0, 1) := by decide +kernel
theorem d_Mo_at_333 : decode prog_11_method_42_code 333 = .ok (.iconst 1, 1) := by decide +kernel
theorem d_Mo_at_334 : decode prog_11_method_42_code 334 = .ok (.invokevirtual 148, 3) := by decide +kernel
theorem d_Mo_at_337 : decode prog_11_method_42_code 337 = .ok (.aload_n 0, 1) := by decide +kernel
theorem d_Mo_at_338 : decode prog_11_method_42_code 338 = .ok (.iload 6, 2) := by decide +kernel
theorem d_Mo_at_340 : decode prog_11_method_42_code 340 = .ok (.invokevirtual 136, 3) := by decide +kernel
theorem d_Mo_at_343 : decode prog_11_method_42_code 343 = .ok (.ireturn, 1) := by decide +kernel
theorem d_Mo_stash_0 : decode prog_11_method_43_code 0 = .ok (.iconst 0, 1) := by decide +kernel
theorem d_Mo_stash_1 : decode prog_11_method_43_code 1 = .ok (.istore_n 1, 1) := by decide +kernel
theorem d_Mo_stash_2 : decode prog_11_method_43_code 2 = .ok (.iload_n 1, 1) := by decide +kernel
theorem d_Mo_stash_3 : decode prog_11_method_43_code 3 = .ok (.aload_n 0, 1) := by decide +kernel
theorem d_Mo_stash_4 : decode prog_11_method_43_code 4 = .ok (.getfield 27, 3) := by decide +kernel
theorem d_Mo_stash_7 : decode prog_11_method_43_code 7 = .ok (.iconst 0, 1) := by decide +kernel
theorem d_Mo_stash_8 : decode prog_11_method_43_code 8 = .ok (.iaload, 1) := by decide +kernel
theorem d_Mo_stash_9 : decode prog_11_method_43_code 9 = .ok (.if_icmp .ge 21, 3) := by decide +kernel
theorem d_Mo_stash_12 : decode prog_11_method_43_code 12 = .ok (.aload_n 0, 1) := by decide +kernel
theorem d_Mo_stash_13 : decode prog_11_method_43_code 13 = .ok (.getfield 49, 3) := by decide +kernel
theorem d_Mo_stash_16 : decode prog_11_method_43_code 16 = .ok (.iload_n 1, 1) := by decide +kernel
theorem d_Mo_stash_17 : decode prog_11_method_43_code 17 = .ok (.aload_n 0, 1) := by decide +kernel
theorem d_Mo_stash_18 : decode prog_11_method_43_code 18 = .ok (.getfield 24, 3) := by decide +kernel
theorem d_Mo_stash_21 : decode prog_11_method_43_code 21 = .ok (.iload_n 1, 1) := by decide +kernel
theorem d_Mo_stash_22 : decode prog_11_method_43_code 22 = .ok (.iaload, 1) := by decide +kernel
theorem d_Mo_stash_23 : decode prog_11_method_43_code 23 = .ok (.iastore, 1) := by decide +kernel
theorem d_Mo_stash_24 : decode prog_11_method_43_code 24 = .ok (.iinc 1 1, 3) := by decide +kernel
theorem d_Mo_stash_27 : decode prog_11_method_43_code 27 = .ok (.goto (-25), 3) := by decide +kernel
theorem d_Mo_stash_30 : decode prog_11_method_43_code 30 = .ok (.iconst 0, 1) := by decide +kernel
theorem d_Mo_stash_31 : decode prog_11_method_43_code 31 = .ok (.istore_n 1, 1) := by decide +kernel
theorem d_Mo_stash_32 : decode prog_11_method_43_code 32 = .ok (.iload_n 1, 1) := by decide +kernel
theorem d_Mo_stash_33 : decode prog_11_method_43_code 33 = .ok (.aload_n 0, 1) := by decide +kernel
theorem d_Mo_stash_34 : decode prog_11_method_43_code 34 = .ok (.getfield 27, 3) := by decide +kernel
theorem d_Mo_stash_37 : decode prog_11_method_43_code 37 = .ok (.iconst 1, 1) := by decide +kernel
theorem d_Mo_stash_38 : decode prog_11_method_43_code 38 = .ok (.iaload, 1) := by decide +kernel
theorem d_Mo_stash_39 : decode prog_11_method_43_code 39 = .ok (.if_icmp .ge 29, 3) := by decide +kernel
theorem d_Mo_stash_42 : decode prog_11_method_43_code 42 = .ok (.aload_n 0, 1) := by decide +kernel
theorem d_Mo_stash_43 : decode prog_11_method_43_code 43 = .ok (.getfield 49, 3) := by decide +kernel
theorem d_Mo_stash_46 : decode prog_11_method_43_code 46 = .ok (.sipush 4300, 3) := by decide +kernel
theorem d_Mo_stash_49 : decode prog_11_method_43_code 49 = .ok (.iload_n 1, 1) := by decide +kernel
theorem d_Mo_stash_50 : decode prog_11_method_43_code 50 = .ok (.iadd, 1) := by decide +kernel
theorem d_Mo_stash_51 : decode prog_11_method_43_code 51 = .ok (.aload_n 0, 1) := by decide +kernel
theorem d_Mo_stash_52 : decode prog_11_method_43_code 52 = .ok (.getfield 24, 3) := by decide +kernel
theorem d_Mo_stash_55 : decode prog_11_method_43_code 55 = .ok (.sipush 4300, 3) := by decide +kernel
theorem d_Mo_stash_58 : decode prog_11_method_43_code 58 = .ok (.iload_n 1, 1) := by decide +kernel
theorem d_Mo_stash_59 : decode prog_11_method_43_code 59 = .ok (.iadd, 1) := by decide +kernel
theorem d_Mo_stash_60 : decode prog_11_method_43_code 60 = .ok (.iaload, 1) := by decide +kernel
theorem d_Mo_stash_61 : decode prog_11_method_43_code 61 = .ok (.iastore, 1) := by decide +kernel
theorem d_Mo_stash_62 : decode prog_11_method_43_code 62 = .ok (.iinc 1 1, 3) := by decide +kernel
theorem d_Mo_stash_65 : decode prog_11_method_43_code 65 = .ok (.goto (-33), 3) := by decide +kernel
theorem d_Mo_stash_68 : decode prog_11_method_43_code 68 = .ok (.aload_n 0, 1) := by decide +kernel
theorem d_Mo_stash_69 : decode prog_11_method_43_code 69 = .ok (.aload_n 0, 1) := by decide +kernel
theorem d_Mo_stash_70 : decode prog_11_method_43_code 70 = .ok (.getfield 27, 3) := by decide +kernel
theorem d_Mo_stash_73 : decode prog_11_method_43_code 73 = .ok (.iconst 0, 1) := by decide +kernel
theorem d_Mo_stash_74 : decode prog_11_method_43_code 74 = .ok (.iaload, 1) := by decide +kernel
theorem d_Mo_stash_75 : decode prog_11_method_43_code 75 = .ok (.putfield 181, 3) := by decide +kernel
theorem d_Mo_stash_78 : decode prog_11_method_43_code 78 = .ok (.aload_n 0, 1) := by decide +kernel
theorem d_Mo_stash_79 : decode prog_11_method_43_code 79 = .ok (.aload_n 0, 1) := by decide +kernel
theorem d_Mo_stash_80 : decode prog_11_method_43_code 80 = .ok (.getfield 27, 3) := by decide +kernel
theorem d_Mo_stash_83 : decode prog_11_method_43_code 83 = .ok (.iconst 1, 1) := by decide +kernel
theorem d_Mo_stash_84 : decode prog_11_method_43_code 84 = .ok (.iaload, 1) := by decide +kernel
theorem d_Mo_stash_85 : decode prog_11_method_43_code 85 = .ok (.putfield 184, 3) := by decide +kernel
theorem d_Mo_stash_88 : decode prog_11_method_43_code 88 = .ok (.aload_n 0, 1) := by decide +kernel
theorem d_Mo_stash_89 : decode prog_11_method_43_code 89 = .ok (.aload_n 0, 1) := by decide +kernel
theorem d_Mo_stash_90 : decode prog_11_method_43_code 90 = .ok (.getfield 94, 3) := by decide +kernel
theorem d_Mo_stash_93 : decode prog_11_method_43_code 93 = .ok (.putfield 187, 3) := by decide +kernel
theorem d_Mo_stash_96 : decode prog_11_method_43_code 96 = .ok (.return_, 1) := by decide +kernel
theorem d_Mo_unstash_0 : decode prog_11_method_44_code 0 = .ok (.aload_n 0, 1) := by decide +kernel
theorem d_Mo_unstash_1 : decode prog_11_method_44_code 1 = .ok (.getfield 27, 3) := by decide +kernel
theorem d_Mo_unstash_4 : decode prog_11_method_44_code 4 = .ok (.iconst 2, 1) := by decide +kernel
theorem d_Mo_unstash_5 : decode prog_11_method_44_code 5 = .ok (.aload_n 0, 1) := by decide +kernel
theorem d_Mo_unstash_6 : decode prog_11_method_44_code 6 = .ok (.getfield 181, 3) := by decide +kernel
theorem d_Mo_unstash_9 : decode prog_11_method_44_code 9 = .ok (.iastore, 1) := by decide +kernel
theorem d_Mo_unstash_10 : decode prog_11_method_44_code 10 = .ok (.aload_n 0, 1) := by decide +kernel
theorem d_Mo_unstash_11 : decode prog_11_method_44_code 11 = .ok (.getfield 27, 3) := by decide +kernel
theorem d_Mo_unstash_14 : decode prog_11_method_44_code 14 = .ok (.iconst 3, 1) := by decide +kernel
theorem d_Mo_unstash_15 : decode prog_11_method_44_code 15 = .ok (.aload_n 0, 1) := by decide +kernel
theorem d_Mo_unstash_16 : decode prog_11_method_44_code 16 = .ok (.getfield 184, 3) := by decide +kernel
theorem d_Mo_unstash_19 : decode prog_11_method_44_code 19 = .ok (.iastore, 1) := by decide +kernel
theorem d_Mo_unstash_20 : decode prog_11_method_44_code 20 = .ok (.aload_n 0, 1) := by decide +kernel
theorem d_Mo_unstash_21 : decode prog_11_method_44_code 21 = .ok (.aload_n 0, 1) := by decide +kernel
theorem d_Mo_unstash_22 : decode prog_11_method_44_code 22 = .ok (.getfield 187, 3) := by decide +kernel
theorem d_Mo_unstash_25 : decode prog_11_method_44_code 25 = .ok (.putfield 103, 3) := by decide +kernel
theorem d_Mo_unstash_28 : decode prog_11_method_44_code 28 = .ok (.iconst 0, 1) := by decide +kernel
theorem d_Mo_unstash_29 : decode prog_11_method_44_code 29 = .ok (.istore_n 1, 1) := by decide +kernel
theorem d_Mo_unstash_30 : decode prog_11_method_44_code 30 = .ok (.iload_n 1, 1) := by decide +kernel
theorem d_Mo_unstash_31 : decode prog_11_method_44_code 31 = .ok (.aload_n 0, 1) := by decide +kernel
theorem d_Mo_unstash_32 : decode prog_11_method_44_code 32 = .ok (.getfield 181, 3) := by decide +kernel
theorem d_Mo_unstash_35 : decode prog_11_method_44_code 35 = .ok (.if_icmp .ge 25, 3) := by decide +kernel
theorem d_Mo_unstash_38 : decode prog_11_method_44_code 38 = .ok (.aload_n 0, 1) := by decide +kernel
theorem d_Mo_unstash_39 : decode prog_11_method_44_code 39 = .ok (.getfield 24, 3) := by decide +kernel
theorem d_Mo_unstash_42 : decode prog_11_method_44_code 42 = .ok (.sipush 8600, 3) := by decide +kernel
theorem d_Mo_unstash_45 : decode prog_11_method_44_code 45 = .ok (.iload_n 1, 1) := by decide +kernel
theorem d_Mo_unstash_46 : decode prog_11_method_44_code 46 = .ok (.iadd, 1) := by decide +kernel
theorem d_Mo_unstash_47 : decode prog_11_method_44_code 47 = .ok (.aload_n 0, 1) := by decide +kernel
theorem d_Mo_unstash_48 : decode prog_11_method_44_code 48 = .ok (.getfield 49, 3) := by decide +kernel
theorem d_Mo_unstash_51 : decode prog_11_method_44_code 51 = .ok (.iload_n 1, 1) := by decide +kernel
theorem d_Mo_unstash_52 : decode prog_11_method_44_code 52 = .ok (.iaload, 1) := by decide +kernel
theorem d_Mo_unstash_53 : decode prog_11_method_44_code 53 = .ok (.iastore, 1) := by decide +kernel
theorem d_Mo_unstash_54 : decode prog_11_method_44_code 54 = .ok (.iinc 1 1, 3) := by decide +kernel
theorem d_Mo_unstash_57 : decode prog_11_method_44_code 57 = .ok (.goto (-27), 3) := by decide +kernel
theorem d_Mo_unstash_60 : decode prog_11_method_44_code 60 = .ok (.iconst 0, 1) := by decide +kernel
theorem d_Mo_unstash_61 : decode prog_11_method_44_code 61 = .ok (.istore_n 1, 1) := by decide +kernel
theorem d_Mo_unstash_62 : decode prog_11_method_44_code 62 = .ok (.iload_n 1, 1) := by decide +kernel
theorem d_Mo_unstash_63 : decode prog_11_method_44_code 63 = .ok (.aload_n 0, 1) := by decide +kernel
theorem d_Mo_unstash_64 : decode prog_11_method_44_code 64 = .ok (.getfield 184, 3) := by decide +kernel
theorem d_Mo_unstash_67 : decode prog_11_method_44_code 67 = .ok (.if_icmp .ge 29, 3) := by decide +kernel
theorem d_Mo_unstash_70 : decode prog_11_method_44_code 70 = .ok (.aload_n 0, 1) := by decide +kernel
theorem d_Mo_unstash_71 : decode prog_11_method_44_code 71 = .ok (.getfield 24, 3) := by decide +kernel
theorem d_Mo_unstash_74 : decode prog_11_method_44_code 74 = .ok (.sipush 12900, 3) := by decide +kernel
theorem d_Mo_unstash_77 : decode prog_11_method_44_code 77 = .ok (.iload_n 1, 1) := by decide +kernel
theorem d_Mo_unstash_78 : decode prog_11_method_44_code 78 = .ok (.iadd, 1) := by decide +kernel
theorem d_Mo_unstash_79 : decode prog_11_method_44_code 79 = .ok (.aload_n 0, 1) := by decide +kernel
theorem d_Mo_unstash_80 : decode prog_11_method_44_code 80 = .ok (.getfield 49, 3) := by decide +kernel
theorem d_Mo_unstash_83 : decode prog_11_method_44_code 83 = .ok (.sipush 4300, 3) := by decide +kernel
theorem d_Mo_unstash_86 : decode prog_11_method_44_code 86 = .ok (.iload_n 1, 1) := by decide +kernel
theorem d_Mo_unstash_87 : decode prog_11_method_44_code 87 = .ok (.iadd, 1) := by decide +kernel
theorem d_Mo_unstash_88 : decode prog_11_method_44_code 88 = .ok (.iaload, 1) := by decide +kernel
theorem d_Mo_unstash_89 : decode prog_11_method_44_code 89 = .ok (.iastore, 1) := by decide +kernel
theorem d_Mo_unstash_90 : decode prog_11_method_44_code 90 = .ok (.iinc 1 1, 3) := by decide +kernel
theorem d_Mo_unstash_93 : decode prog_11_method_44_code 93 = .ok (.goto (-31), 3) := by decide +kernel
theorem d_Mo_unstash_96 : decode prog_11_method_44_code 96 = .ok (.return_, 1) := by decide +kernel
theorem d_Mo_exchange_0 : decode prog_11_method_45_code 0 = .ok (.aload_n 0, 1) := by decide +kernel
theorem d_Mo_exchange_1 : decode prog_11_method_45_code 1 = .ok (.iconst 4, 1) := by decide +kernel
theorem d_Mo_exchange_2 : decode prog_11_method_45_code 2 = .ok (.iconst 0, 1) := by decide +kernel
theorem d_Mo_exchange_3 : decode prog_11_method_45_code 3 = .ok (.invokevirtual 70, 3) := by decide +kernel
theorem d_Mo_exchange_6 : decode prog_11_method_45_code 6 = .ok (.aload_n 0, 1) := by decide +kernel
theorem d_Mo_exchange_7 : decode prog_11_method_45_code 7 = .ok (.iconst 0, 1) := by decide +kernel
theorem d_Mo_exchange_8 : decode prog_11_method_45_code 8 = .ok (.iconst 2, 1) := by decide +kernel
theorem d_Mo_exchange_9 : decode prog_11_method_45_code 9 = .ok (.invokevirtual 70, 3) := by decide +kernel
theorem d_Mo_exchange_12 : decode prog_11_method_45_code 12 = .ok (.aload_n 0, 1) := by decide +kernel
theorem d_Mo_exchange_13 : decode prog_11_method_45_code 13 = .ok (.iconst 2, 1) := by decide +kernel
theorem d_Mo_exchange_14 : decode prog_11_method_45_code 14 = .ok (.iconst 4, 1) := by decide +kernel
theorem d_Mo_exchange_15 : decode prog_11_method_45_code 15 = .ok (.invokevirtual 70, 3) := by decide +kernel
theorem d_Mo_exchange_18 : decode prog_11_method_45_code 18 = .ok (.aload_n 0, 1) := by decide +kernel
theorem d_Mo_exchange_19 : decode prog_11_method_45_code 19 = .ok (.iconst 4, 1) := by decide +kernel
theorem d_Mo_exchange_20 : decode prog_11_method_45_code 20 = .ok (.iconst 1, 1) := by decide +kernel
theorem d_Mo_exchange_21 : decode prog_11_method_45_code 21 = .ok (.invokevirtual 70, 3) := by decide +kernel
theorem d_Mo_exchange_24 : decode prog_11_method_45_code 24 = .ok (.aload_n 0, 1) := by decide +kernel
theorem d_Mo_exchange_25 : decode prog_11_method_45_code 25 = .ok (.iconst 1, 1) := by decide +kernel
theorem d_Mo_exchange_26 : decode prog_11_method_45_code 26 = .ok (.iconst 3, 1) := by decide +kernel
theorem d_Mo_exchange_27 : decode prog_11_method_45_code 27 = .ok (.invokevirtual 70, 3) := by decide +kernel
theorem d_Mo_exchange_30 : decode prog_11_method_45_code 30 = .ok (.aload_n 0, 1) := by decide +kernel
theorem d_Mo_exchange_31 : decode prog_11_method_45_code 31 = .ok (.iconst 3, 1) := by decide +kernel
theorem d_Mo_exchange_32 : decode prog_11_method_45_code 32 = .ok (.iconst 4, 1) := by decide +kernel
theorem d_Mo_exchange_33 : decode prog_11_method_45_code 33 = .ok (.invokevirtual 70, 3) := by decide +kernel
theorem d_Mo_exchange_36 : decode prog_11_method_45_code 36 = .ok (.aload_n 0, 1) := by decide +kernel
theorem d_Mo_exchange_37 : decode prog_11_method_45_code 37 = .ok (.getfield 94, 3) := by decide +kernel
theorem d_Mo_exchange_40 : decode prog_11_method_45_code 40 = .ok (.istore_n 1, 1) := by decide +kernel
theorem d_Mo_exchange_41 : decode prog_11_method_45_code 41 = .ok (.aload_n 0, 1) := by decide +kernel
theorem d_Mo_exchange_42 : decode prog_11_method_45_code 42 = .ok (.aload_n 0, 1) := by decide +kernel
theorem d_Mo_exchange_43 : decode prog_11_method_45_code 43 = .ok (.getfield 103, 3) := by decide +kernel
theorem d_Mo_exchange_46 : decode prog_11_method_45_code 46 = .ok (.putfield 94, 3) := by decide +kernel
theorem d_Mo_exchange_49 : decode prog_11_method_45_code 49 = .ok (.aload_n 0, 1) := by decide +kernel
theorem d_Mo_exchange_50 : decode prog_11_method_45_code 50 = .ok (.iload_n 1, 1) := by decide +kernel
theorem d_Mo_exchange_51 : decode prog_11_method_45_code 51 = .ok (.putfield 103, 3) := by decide +kernel
theorem d_Mo_exchange_54 : decode prog_11_method_45_code 54 = .ok (.return_, 1) := by decide +kernel
theorem d_Mo_addHalf_0 : decode prog_11_method_46_code 0 = .ok (.aload_n 0, 1) := by decide +kernel
theorem d_Mo_addHalf_1 : decode prog_11_method_46_code 1 = .ok (.aload_n 0, 1) := by decide +kernel
theorem d_Mo_addHalf_2 : decode prog_11_method_46_code 2 = .ok (.getfield 33, 3) := by decide +kernel
theorem d_Mo_addHalf_5 : decode prog_11_method_46_code 5 = .ok (.iload_n 1, 1) := by decide +kernel
theorem d_Mo_addHalf_6 : decode prog_11_method_46_code 6 = .ok (.iconst 1, 1) := by decide +kernel
theorem d_Mo_addHalf_7 : decode prog_11_method_46_code 7 = .ok (.iadd, 1) := by decide +kernel
theorem d_Mo_addHalf_8 : decode prog_11_method_46_code 8 = .ok (.iaload, 1) := by decide +kernel
theorem d_Mo_addHalf_9 : decode prog_11_method_46_code 9 = .ok (.invokevirtual 142, 3) := by decide +kernel
theorem d_Mo_addHalf_12 : decode prog_11_method_46_code 12 = .ok (.aload_n 0, 1) := by decide +kernel
theorem d_Mo_addHalf_13 : decode prog_11_method_46_code 13 = .ok (.aload_n 0, 1) := by decide +kernel
theorem d_Mo_addHalf_14 : decode prog_11_method_46_code 14 = .ok (.getfield 33, 3) := by decide +kernel
theorem d_Mo_addHalf_17 : decode prog_11_method_46_code 17 = .ok (.iload_n 1, 1) := by decide +kernel
theorem d_Mo_addHalf_18 : decode prog_11_method_46_code 18 = .ok (.iaload, 1) := by decide +kernel
theorem d_Mo_addHalf_19 : decode prog_11_method_46_code 19 = .ok (.invokevirtual 145, 3) := by decide +kernel
theorem d_Mo_addHalf_22 : decode prog_11_method_46_code 22 = .ok (.aload_n 0, 1) := by decide +kernel
theorem d_Mo_addHalf_23 : decode prog_11_method_46_code 23 = .ok (.iconst (-1), 1) := by decide +kernel
theorem d_Mo_addHalf_24 : decode prog_11_method_46_code 24 = .ok (.invokevirtual 148, 3) := by decide +kernel
theorem d_Mo_addHalf_27 : decode prog_11_method_46_code 27 = .ok (.aload_n 0, 1) := by decide +kernel
theorem d_Mo_addHalf_28 : decode prog_11_method_46_code 28 = .ok (.aload_n 0, 1) := by decide +kernel
theorem d_Mo_addHalf_29 : decode prog_11_method_46_code 29 = .ok (.getfield 36, 3) := by decide +kernel
theorem d_Mo_addHalf_32 : decode prog_11_method_46_code 32 = .ok (.iload_n 2, 1) := by decide +kernel
theorem d_Mo_addHalf_33 : decode prog_11_method_46_code 33 = .ok (.iaload, 1) := by decide +kernel
theorem d_Mo_addHalf_34 : decode prog_11_method_46_code 34 = .ok (.invokevirtual 145, 3) := by decide +kernel
theorem d_Mo_addHalf_37 : decode prog_11_method_46_code 37 = .ok (.aload_n 0, 1) := by decide +kernel
theorem d_Mo_addHalf_38 : decode prog_11_method_46_code 38 = .ok (.invokevirtual 151, 3) := by decide +kernel
theorem d_Mo_addHalf_41 : decode prog_11_method_46_code 41 = .ok (.aload_n 0, 1) := by decide +kernel
theorem d_Mo_addHalf_42 : decode prog_11_method_46_code 42 = .ok (.iconst 1, 1) := by decide +kernel
theorem d_Mo_addHalf_43 : decode prog_11_method_46_code 43 = .ok (.ldc2_w 160, 3) := by decide +kernel
theorem d_Mo_addHalf_46 : decode prog_11_method_46_code 46 = .ok (.invokevirtual 82, 3) := by decide +kernel
theorem d_Mo_addHalf_49 : decode prog_11_method_46_code 49 = .ok (.aload_n 0, 1) := by decide +kernel
theorem d_Mo_addHalf_50 : decode prog_11_method_46_code 50 = .ok (.invokevirtual 115, 3) := by decide +kernel
theorem d_Mo_addHalf_53 : decode prog_11_method_46_code 53 = .ok (.aload_n 0, 1) := by decide +kernel
theorem d_Mo_addHalf_54 : decode prog_11_method_46_code 54 = .ok (.invokevirtual 175, 3) := by decide +kernel
theorem d_Mo_addHalf_57 : decode prog_11_method_46_code 57 = .ok (.aload_n 0, 1) := by decide +kernel
theorem d_Mo_addHalf_58 : decode prog_11_method_46_code 58 = .ok (.iconst 1, 1) := by decide +kernel
theorem d_Mo_addHalf_59 : decode prog_11_method_46_code 59 = .ok (.invokevirtual 148, 3) := by decide +kernel
theorem d_Mo_addHalf_62 : decode prog_11_method_46_code 62 = .ok (.aload_n 0, 1) := by decide +kernel
theorem d_Mo_addHalf_63 : decode prog_11_method_46_code 63 = .ok (.invokevirtual 172, 3) := by decide +kernel
theorem d_Mo_addHalf_66 : decode prog_11_method_46_code 66 = .ok (.return_, 1) := by decide +kernel
theorem d_Mo_area_0 : decode prog_11_method_47_code 0 = .ok (.aload_n 0, 1) := by decide +kernel
theorem d_Mo_area_1 : decode prog_11_method_47_code 1 = .ok (.aload_n 0, 1) := by decide +kernel
theorem d_Mo_area_2 : decode prog_11_method_47_code 2 = .ok (.iload_n 1, 1) := by decide +kernel
theorem d_Mo_area_3 : decode prog_11_method_47_code 3 = .ok (.invokevirtual 169, 3) := by decide +kernel
theorem d_Mo_area_6 : decode prog_11_method_47_code 6 = .ok (.ifCond .eq 7, 3) := by decide +kernel
theorem d_Mo_area_9 : decode prog_11_method_47_code 9 = .ok (.iconst 0, 1) := by decide +kernel
theorem d_Mo_area_10 : decode prog_11_method_47_code 10 = .ok (.goto 4, 3) := by decide +kernel
theorem d_Mo_area_13 : decode prog_11_method_47_code 13 = .ok (.iconst 1, 1) := by decide +kernel
theorem d_Mo_area_14 : decode prog_11_method_47_code 14 = .ok (.putfield 52, 3) := by decide +kernel
theorem d_Mo_area_17 : decode prog_11_method_47_code 17 = .ok (.aload_n 0, 1) := by decide +kernel
theorem d_Mo_area_18 : decode prog_11_method_47_code 18 = .ok (.getfield 52, 3) := by decide +kernel
theorem d_Mo_area_21 : decode prog_11_method_47_code 21 = .ok (.ifCond .le 5, 3) := by decide +kernel
theorem d_Mo_area_24 : decode prog_11_method_47_code 24 = .ok (.iconst 0, 1) := by decide +kernel
theorem d_Mo_area_25 : decode prog_11_method_47_code 25 = .ok (.ireturn, 1) := by decide +kernel
theorem d_Mo_area_26 : decode prog_11_method_47_code 26 = .ok (.aload_n 0, 1) := by decide +kernel
theorem d_Mo_area_27 : decode prog_11_method_47_code 27 = .ok (.getfield 30, 3) := by decide +kernel
theorem d_Mo_area_30 : decode prog_11_method_47_code 30 = .ok (.iload_n 1, 1) := by decide +kernel
theorem d_Mo_area_31 : decode prog_11_method_47_code 31 = .ok (.iaload, 1) := by decide +kernel
theorem d_Mo_area_32 : decode prog_11_method_47_code 32 = .ok (.iconst 2, 1) := by decide +kernel
theorem d_Mo_area_33 : decode prog_11_method_47_code 33 = .ok (.if_icmp .ge 6, 3) := by decide +kernel
theorem d_Mo_area_36 : decode prog_11_method_47_code 36 = .ok (.bipush (-5), 2) := by decide +kernel
theorem d_Mo_area_38 : decode prog_11_method_47_code 38 = .ok (.ireturn, 1) := by decide +kernel
theorem d_Mo_area_39 : decode prog_11_method_47_code 39 = .ok (.bipush 16, 2) := by decide +kernel
theorem d_Mo_area_41 : decode prog_11_method_47_code 41 = .ok (.iload_n 1, 1) := by decide +kernel
theorem d_Mo_area_42 : decode prog_11_method_47_code 42 = .ok (.imul, 1) := by decide +kernel
theorem d_Mo_area_43 : decode prog_11_method_47_code 43 = .ok (.istore_n 2, 1) := by decide +kernel
theorem d_Mo_area_44 : decode prog_11_method_47_code 44 = .ok (.aload_n 0, 1) := by decide +kernel
theorem d_Mo_area_45 : decode prog_11_method_47_code 45 = .ok (.getfield 13, 3) := by decide +kernel
theorem d_Mo_area_48 : decode prog_11_method_47_code 48 = .ok (.aload_n 0, 1) := by decide +kernel
theorem d_Mo_area_49 : decode prog_11_method_47_code 49 = .ok (.getfield 33, 3) := by decide +kernel
theorem d_Mo_area_52 : decode prog_11_method_47_code 52 = .ok (.iload_n 2, 1) := by decide +kernel
theorem d_Mo_area_53 : decode prog_11_method_47_code 53 = .ok (.iaload, 1) := by decide +kernel
theorem d_Mo_area_54 : decode prog_11_method_47_code 54 = .ok (.iaload, 1) := by decide +kernel
theorem d_Mo_area_55 : decode prog_11_method_47_code 55 = .ok (.aload_n 0, 1) := by decide +kernel
theorem d_Mo_area_56 : decode prog_11_method_47_code 56 = .ok (.getfield 13, 3) := by decide +kernel
theorem d_Mo_area_59 : decode prog_11_method_47_code 59 = .ok (.aload_n 0, 1) := by decide +kernel
theorem d_Mo_area_60 : decode prog_11_method_47_code 60 = .ok (.getfield 36, 3) := by decide +kernel
theorem d_Mo_area_63 : decode prog_11_method_47_code 63 = .ok (.iload_n 2, 1) := by decide +kernel
theorem d_Mo_area_64 : decode prog_11_method_47_code 64 = .ok (.iaload, 1) := by decide +kernel
theorem d_Mo_area_65 : decode prog_11_method_47_code 65 = .ok (.iaload, 1) := by decide +kernel
theorem d_Mo_area_66 : decode prog_11_method_47_code 66 = .ok (.iadd, 1) := by decide +kernel
theorem d_Mo_area_67 : decode prog_11_method_47_code 67 = .ok (.istore_n 3, 1) := by decide +kernel
theorem d_Mo_area_68 : decode prog_11_method_47_code 68 = .ok (.iload_n 3, 1) := by decide +kernel
theorem d_Mo_area_69 : decode prog_11_method_47_code 69 = .ok (.invokestatic 129, 3) := by decide +kernel
theorem d_Mo_area_72 : decode prog_11_method_47_code 72 = .ok (.ifCond .eq 13, 3) := by decide +kernel
theorem d_Mo_area_75 : decode prog_11_method_47_code 75 = .ok (.aload_n 0, 1) := by decide +kernel
theorem d_Mo_area_76 : decode prog_11_method_47_code 76 = .ok (.getfield 122, 3) := by decide +kernel
theorem d_Mo_area_79 : decode prog_11_method_47_code 79 = .ok (.sipush 200, 3) := by decide +kernel
theorem d_Mo_area_82 : decode prog_11_method_47_code 82 = .ok (.if_icmp .ne 18, 3) := by decide +kernel
theorem d_Mo_area_85 : decode prog_11_method_47_code 85 = .ok (.iload_n 3, 1) := by decide +kernel
theorem d_Mo_area_86 : decode prog_11_method_47_code 86 = .ok (.invokestatic 129, 3) := by decide +kernel
theorem d_Mo_area_89 : decode prog_11_method_47_code 89 = .ok (.ifCond .ne 8, 3) := by decide +kernel
theorem d_Mo_area_92 : decode prog_11_method_47_code 92 = .ok (.bipush (-2), 2) := by decide +kernel
theorem d_Mo_area_94 : decode prog_11_method_47_code 94 = .ok (.goto 5, 3) := by decide +kernel
theorem d_Mo_area_97 : decode prog_11_method_47_code 97 = .ok (.bipush (-3), 2) := by decide +kernel
theorem d_Mo_area_99 : decode prog_11_method_47_code 99 = .ok (.ireturn, 1) := by decide +kernel
theorem d_Mo_area_100 : decode prog_11_method_47_code 100 = .ok (.aload_n 0, 1) := by decide +kernel
theorem d_Mo_area_101 : decode prog_11_method_47_code 101 = .ok (.iconst 0, 1) := by decide +kernel
theorem d_Mo_area_102 : decode prog_11_method_47_code 102 = .ok (.lconst 0, 1) := by decide +kernel
theorem d_Mo_area_103 : decode prog_11_method_47_code 103 = .ok (.invokevirtual 78, 3) := by decide +kernel
theorem d_Mo_area_106 : decode prog_11_method_47_code 106 = .ok (.aload_n 0, 1) := by decide +kernel
theorem d_Mo_area_107 : decode prog_11_method_47_code 107 = .ok (.iconst 1, 1) := by decide +kernel
theorem d_Mo_area_108 : decode prog_11_method_47_code 108 = .ok (.lconst 1, 1) := by decide +kernel
theorem d_Mo_area_109 : decode prog_11_method_47_code 109 = .ok (.invokevirtual 78, 3) := by decide +kernel
theorem d_Mo_area_112 : decode prog_11_method_47_code 112 = .ok (.aload_n 0, 1) := by decide +kernel
theorem d_Mo_area_113 : decode prog_11_method_47_code 113 = .ok (.iconst 0, 1) := by decide +kernel
theorem d_Mo_area_114 : decode prog_11_method_47_code 114 = .ok (.putfield 94, 3) := by decide +kernel
theorem d_Mo_area_117 : decode prog_11_method_47_code 117 = .ok (.aload_n 0, 1) := by decide +kernel
theorem d_Mo_area_118 : decode prog_11_method_47_code 118 = .ok (.invokevirtual 172, 3) := by decide +kernel
theorem d_Mo_area_121 : decode prog_11_method_47_code 121 = .ok (.iload_n 2, 1) := by decide +kernel
theorem d_Mo_area_122 : decode prog_11_method_47_code 122 = .ok (.istore 4, 2) := by decide +kernel
theorem d_Mo_area_124 : decode prog_11_method_47_code 124 = .ok (.iload 4, 2) := by decide +kernel
theorem d_Mo_area_126 : decode prog_11_method_47_code 126 = .ok (.iconst 1, 1) := by decide +kernel
theorem d_Mo_area_127 : decode prog_11_method_47_code 127 = .ok (.iadd, 1) := by decide +kernel
theorem d_Mo_area_128 : decode prog_11_method_47_code 128 = .ok (.iload_n 2, 1) := by decide +kernel
theorem d_Mo_area_129 : decode prog_11_method_47_code 129 = .ok (.aload_n 0, 1) := by decide +kernel
theorem d_Mo_area_130 : decode prog_11_method_47_code 130 = .ok (.getfield 30, 3) := by decide +kernel
theorem d_Mo_area_133 : decode prog_11_method_47_code 133 = .ok (.iload_n 1, 1) := by decide +kernel
theorem d_Mo_area_134 : decode prog_11_method_47_code 134 = .ok (.iaload, 1) := by decide +kernel
theorem d_Mo_area_135 : decode prog_11_method_47_code 135 = .ok (.iadd, 1) := by decide +kernel
theorem d_Mo_area_136 : decode prog_11_method_47_code 136 = .ok (.if_icmp .ge 52, 3) := by decide +kernel
theorem d_Mo_area_139 : decode prog_11_method_47_code 139 = .ok (.aload_n 0, 1) := by decide +kernel
theorem d_Mo_area_140 : decode prog_11_method_47_code 140 = .ok (.iload 4, 2) := by decide +kernel
theorem d_Mo_area_142 : decode prog_11_method_47_code 142 = .ok (.iload 4, 2) := by decide +kernel
theorem d_Mo_area_144 : decode prog_11_method_47_code 144 = .ok (.invokevirtual 190, 3) := by decide +kernel
theorem d_Mo_area_147 : decode prog_11_method_47_code 147 = .ok (.aload_n 0, 1) := by decide +kernel
theorem d_Mo_area_148 : decode prog_11_method_47_code 148 = .ok (.iload 4, 2) := by decide +kernel
theorem d_Mo_area_150 : decode prog_11_method_47_code 150 = .ok (.iload 4, 2) := by decide +kernel
theorem d_Mo_area_152 : decode prog_11_method_47_code 152 = .ok (.iconst 1, 1) := by decide +kernel
theorem d_Mo_area_153 : decode prog_11_method_47_code 153 = .ok (.iadd, 1) := by decide +kernel
theorem d_Mo_area_154 : decode prog_11_method_47_code 154 = .ok (.invokevirtual 190, 3) := by decide +kernel
theorem d_Mo_area_157 : decode prog_11_method_47_code 157 = .ok (.aload_n 0, 1) := by decide +kernel
theorem d_Mo_area_158 : decode prog_11_method_47_code 158 = .ok (.iconst 0, 1) := by decide +kernel
theorem d_Mo_area_159 : decode prog_11_method_47_code 159 = .ok (.invokevirtual 118, 3) := by decide +kernel
theorem d_Mo_area_162 : decode prog_11_method_47_code 162 = .ok (.sipush 900, 3) := by decide +kernel
theorem d_Mo_area_165 : decode prog_11_method_47_code 165 = .ok (.if_icmp .gt 14, 3) := by decide +kernel
theorem d_Mo_area_168 : decode prog_11_method_47_code 168 = .ok (.aload_n 0, 1) := by decide +kernel
theorem d_Mo_area_169 : decode prog_11_method_47_code 169 = .ok (.iconst 1, 1) := by decide +kernel
theorem d_Mo_area_170 : decode prog_11_method_47_code 170 = .ok (.invokevirtual 118, 3) := by decide +kernel
theorem d_Mo_area_173 : decode prog_11_method_47_code 173 = .ok (.sipush 900, 3) := by decide +kernel
theorem d_Mo_area_176 : decode prog_11_method_47_code 176 = .ok (.if_icmp .le 6, 3) := by decide +kernel
theorem d_Mo_area_179 : decode prog_11_method_47_code 179 = .ok (.bipush (-4), 2) := by decide +kernel
theorem d_Mo_area_181 : decode prog_11_method_47_code 181 = .ok (.ireturn, 1) := by decide +kernel
theorem d_Mo_area_182 : decode prog_11_method_47_code 182 = .ok (.iinc 4 1, 3) := by decide +kernel
theorem d_Mo_area_185 : decode prog_11_method_47_code 185 = .ok (.goto (-61), 3) := by decide +kernel
theorem d_Mo_area_188 : decode prog_11_method_47_code 188 = .ok (.aload_n 0, 1) := by decide +kernel
theorem d_Mo_area_189 : decode prog_11_method_47_code 189 = .ok (.iload_n 3, 1) := by decide +kernel
theorem d_Mo_area_190 : decode prog_11_method_47_code 190 = .ok (.invokevirtual 136, 3) := by decide +kernel
theorem d_Mo_area_193 : decode prog_11_method_47_code 193 = .ok (.ireturn, 1) := by decide +kernel
theorem d_Mo_weight_0 : decode prog_11_method_48_code 0 = .ok (.aload_n 0, 1) := by decide +kernel
theorem d_Mo_weight_1 : decode prog_11_method_48_code 1 = .ok (.iload_n 1, 1) := by decide +kernel
theorem d_Mo_weight_2 : decode prog_11_method_48_code 2 = .ok (.iconst 1, 1) := by decide +kernel
theorem d_Mo_weight_3 : decode prog_11_method_48_code 3 = .ok (.if_icmp .lt 13, 3) := by decide +kernel
theorem d_Mo_weight_6 : decode prog_11_method_48_code 6 = .ok (.iload_n 1, 1) := by decide +kernel
theorem d_Mo_weight_7 : decode prog_11_method_48_code 7 = .ok (.ldc 62, 2) := by decide +kernel
theorem d_Mo_weight_9 : decode prog_11_method_48_code 9 = .ok (.if_icmp .gt 7, 3) := by decide +kernel
theorem d_Mo_weight_12 : decode prog_11_method_48_code 12 = .ok (.iconst 0, 1) := by decide +kernel
theorem d_Mo_weight_13 : decode prog_11_method_48_code 13 = .ok (.goto 4, 3) := by decide +kernel
theorem d_Mo_weight_16 : decode prog_11_method_48_code 16 = .ok (.iconst 1, 1) := by decide +kernel
theorem d_Mo_weight_17 : decode prog_11_method_48_code 17 = .ok (.putfield 52, 3) := by decide +kernel
theorem d_Mo_weight_20 : decode prog_11_method_48_code 20 = .ok (.aload_n 0, 1) := by decide +kernel
theorem d_Mo_weight_21 : decode prog_11_method_48_code 21 = .ok (.getfield 52, 3) := by decide +kernel
theorem d_Mo_weight_24 : decode prog_11_method_48_code 24 = .ok (.ifCond .le 5, 3) := by decide +kernel
theorem d_Mo_weight_27 : decode prog_11_method_48_code 27 = .ok (.iconst 0, 1) := by decide +kernel
theorem d_Mo_weight_28 : decode prog_11_method_48_code 28 = .ok (.ireturn, 1) := by decide +kernel
theorem d_Mo_weight_29 : decode prog_11_method_48_code 29 = .ok (.aload_n 0, 1) := by decide +kernel
theorem d_Mo_weight_30 : decode prog_11_method_48_code 30 = .ok (.getfield 193, 3) := by decide +kernel
theorem d_Mo_weight_33 : decode prog_11_method_48_code 33 = .ok (.bipush 12, 2) := by decide +kernel
theorem d_Mo_weight_35 : decode prog_11_method_48_code 35 = .ok (.if_icmp .ne 6, 3) := by decide +kernel
theorem d_Mo_weight_38 : decode prog_11_method_48_code 38 = .ok (.bipush (-3), 2) := by decide +kernel
theorem d_Mo_weight_40 : decode prog_11_method_48_code 40 = .ok (.ireturn, 1) := by decide +kernel
theorem d_Mo_weight_41 : decode prog_11_method_48_code 41 = .ok (.aload_n 0, 1) := by decide +kernel
theorem d_Mo_weight_42 : decode prog_11_method_48_code 42 = .ok (.getfield 39, 3) := by decide +kernel
theorem d_Mo_weight_45 : decode prog_11_method_48_code 45 = .ok (.aload_n 0, 1) := by decide +kernel
theorem d_Mo_weight_46 : decode prog_11_method_48_code 46 = .ok (.getfield 193, 3) := by decide +kernel
theorem d_Mo_weight_49 : decode prog_11_method_48_code 49 = .ok (.iload_n 1, 1) := by decide +kernel
theorem d_Mo_weight_50 : decode prog_11_method_48_code 50 = .ok (.i2l, 1) := by decide +kernel
theorem d_Mo_weight_51 : decode prog_11_method_48_code 51 = .ok (.lastore, 1) := by decide +kernel
theorem d_Mo_weight_52 : decode prog_11_method_48_code 52 = .ok (.aload_n 0, 1) := by decide +kernel
theorem d_Mo_weight_53 : decode prog_11_method_48_code 53 = .ok (.dup, 1) := by decide +kernel
theorem d_Mo_weight_54 : decode prog_11_method_48_code 54 = .ok (.getfield 193, 3) := by decide +kernel
theorem d_Mo_weight_57 : decode prog_11_method_48_code 57 = .ok (.iconst 1, 1) := by decide +kernel
theorem d_Mo_weight_58 : decode prog_11_method_48_code 58 = .ok (.iadd, 1) := by decide +kernel
theorem d_Mo_weight_59 : decode prog_11_method_48_code 59 = .ok (.putfield 193, 3) := by decide +kernel
theorem d_Mo_weight_62 : decode prog_11_method_48_code 62 = .ok (.aload_n 0, 1) := by decide +kernel
theorem d_Mo_weight_63 : decode prog_11_method_48_code 63 = .ok (.getfield 193, 3) := by decide +kernel
theorem d_Mo_weight_66 : decode prog_11_method_48_code 66 = .ok (.ireturn, 1) := by decide +kernel
theorem d_Mo_noWeights_0 : decode prog_11_method_49_code 0 = .ok (.aload_n 0, 1) := by decide +kernel
theorem d_Mo_noWeights_1 : decode prog_11_method_49_code 1 = .ok (.iconst 0, 1) := by decide +kernel
theorem d_Mo_noWeights_2 : decode prog_11_method_49_code 2 = .ok (.putfield 52, 3) := by decide +kernel
theorem d_Mo_noWeights_5 : decode prog_11_method_49_code 5 = .ok (.aload_n 0, 1) := by decide +kernel
theorem d_Mo_noWeights_6 : decode prog_11_method_49_code 6 = .ok (.getfield 193, 3) := by decide +kernel
theorem d_Mo_noWeights_9 : decode prog_11_method_49_code 9 = .ok (.istore_n 1, 1) := by decide +kernel
theorem d_Mo_noWeights_10 : decode prog_11_method_49_code 10 = .ok (.aload_n 0, 1) := by decide +kernel
theorem d_Mo_noWeights_11 : decode prog_11_method_49_code 11 = .ok (.iconst 0, 1) := by decide +kernel
theorem d_Mo_noWeights_12 : decode prog_11_method_49_code 12 = .ok (.putfield 193, 3) := by decide +kernel
theorem d_Mo_noWeights_15 : decode prog_11_method_49_code 15 = .ok (.iload_n 1, 1) := by decide +kernel
theorem d_Mo_noWeights_16 : decode prog_11_method_49_code 16 = .ok (.ireturn, 1) := by decide +kernel
theorem d_Mo_share_0 : decode prog_11_method_50_code 0 = .ok (.aload_n 0, 1) := by decide +kernel
theorem d_Mo_share_1 : decode prog_11_method_50_code 1 = .ok (.iload_n 3, 1) := by decide +kernel
theorem d_Mo_share_2 : decode prog_11_method_50_code 2 = .ok (.ifCond .lt 11, 3) := by decide +kernel
theorem d_Mo_share_5 : decode prog_11_method_50_code 5 = .ok (.iload_n 3, 1) := by decide +kernel
theorem d_Mo_share_6 : decode prog_11_method_50_code 6 = .ok (.aload_n 0, 1) := by decide +kernel
theorem d_Mo_share_7 : decode prog_11_method_50_code 7 = .ok (.getfield 193, 3) := by decide +kernel
theorem d_Mo_share_10 : decode prog_11_method_50_code 10 = .ok (.if_icmp .lt 7, 3) := by decide +kernel
theorem d_Mo_share_13 : decode prog_11_method_50_code 13 = .ok (.iconst 1, 1) := by decide +kernel
theorem d_Mo_share_14 : decode prog_11_method_50_code 14 = .ok (.goto 22, 3) := by decide +kernel
theorem d_Mo_share_17 : decode prog_11_method_50_code 17 = .ok (.lload_n 1, 1) := by decide +kernel
theorem d_Mo_share_18 : decode prog_11_method_50_code 18 = .ok (.lconst 0, 1) := by decide +kernel
theorem d_Mo_share_19 : decode prog_11_method_50_code 19 = .ok (.lcmp, 1) := by decide +kernel
theorem d_Mo_share_20 : decode prog_11_method_50_code 20 = .ok (.ifCond .lt 11, 3) := by decide +kernel
theorem d_Mo_share_23 : decode prog_11_method_50_code 23 = .ok (.lload_n 1, 1) := by decide +kernel
theorem d_Mo_share_24 : decode prog_11_method_50_code 24 = .ok (.ldc2_w 196, 3) := by decide +kernel
theorem d_Mo_share_27 : decode prog_11_method_50_code 27 = .ok (.lcmp, 1) := by decide +kernel
theorem d_Mo_share_28 : decode prog_11_method_50_code 28 = .ok (.ifCond .le 7, 3) := by decide +kernel
theorem d_Mo_share_31 : decode prog_11_method_50_code 31 = .ok (.iconst 2, 1) := by decide +kernel
theorem d_Mo_share_32 : decode prog_11_method_50_code 32 = .ok (.goto 4, 3) := by decide +kernel
theorem d_Mo_share_35 : decode prog_11_method_50_code 35 = .ok (.iconst 0, 1) := by decide +kernel
theorem d_Mo_share_36 : decode prog_11_method_50_code 36 = .ok (.putfield 52, 3) := by decide +kernel
theorem d_Mo_share_39 : decode prog_11_method_50_code 39 = .ok (.aload_n 0, 1) := by decide +kernel
theorem d_Mo_share_40 : decode prog_11_method_50_code 40 = .ok (.getfield 52, 3) := by decide +kernel
theorem d_Mo_share_43 : decode prog_11_method_50_code 43 = .ok (.ifCond .le 5, 3) := by decide +kernel
theorem d_Mo_share_46 : decode prog_11_method_50_code 46 = .ok (.lconst 0, 1) := by decide +kernel
theorem d_Mo_share_47 : decode prog_11_method_50_code 47 = .ok (.lreturn, 1) := by decide +kernel
theorem d_Mo_share_48 : decode prog_11_method_50_code 48 = .ok (.lconst 0, 1) := by decide +kernel
theorem d_Mo_share_49 : decode prog_11_method_50_code 49 = .ok (.lstore 4, 2) := by decide +kernel
theorem d_Mo_share_51 : decode prog_11_method_50_code 51 = .ok (.iconst 0, 1) := by decide +kernel
theorem d_Mo_share_52 : decode prog_11_method_50_code 52 = .ok (.istore 6, 2) := by decide +kernel
theorem d_Mo_share_54 : decode prog_11_method_50_code 54 = .ok (.iload 6, 2) := by decide +kernel
theorem d_Mo_share_56 : decode prog_11_method_50_code 56 = .ok (.aload_n 0, 1) := by decide +kernel
theorem d_Mo_share_57 : decode prog_11_method_50_code 57 = .ok (.getfield 193, 3) := by decide +kernel
theorem d_Mo_share_60 : decode prog_11_method_50_code 60 = .ok (.if_icmp .ge 21, 3) := by decide +kernel
theorem d_Mo_share_63 : decode prog_11_method_50_code 63 = .ok (.lload 4, 2) := by decide +kernel
theorem d_Mo_share_65 : decode prog_11_method_50_code 65 = .ok (.aload_n 0, 1) := by decide +kernel
theorem d_Mo_share_66 : decode prog_11_method_50_code 66 = .ok (.getfield 39, 3) := by decide +kernel
theorem d_Mo_share_69 : decode prog_11_method_50_code 69 = .ok (.iload 6, 2) := by decide +kernel
theorem d_Mo_share_71 : decode prog_11_method_50_code 71 = .ok (.laload, 1) := by decide +kernel
theorem d_Mo_share_72 : decode prog_11_method_50_code 72 = .ok (.ladd, 1) := by decide +kernel
theorem d_Mo_share_73 : decode prog_11_method_50_code 73 = .ok (.lstore 4, 2) := by decide +kernel
theorem d_Mo_share_75 : decode prog_11_method_50_code 75 = .ok (.iinc 6 1, 3) := by decide +kernel
theorem d_Mo_share_78 : decode prog_11_method_50_code 78 = .ok (.goto (-24), 3) := by decide +kernel
theorem d_Mo_share_81 : decode prog_11_method_50_code 81 = .ok (.lload_n 1, 1) := by decide +kernel
theorem d_Mo_share_82 : decode prog_11_method_50_code 82 = .ok (.lstore 6, 2) := by decide +kernel
theorem d_Mo_share_84 : decode prog_11_method_50_code 84 = .ok (.iconst 0, 1) := by decide +kernel
theorem d_Mo_share_85 : decode prog_11_method_50_code 85 = .ok (.istore 8, 2) := by decide +kernel
theorem d_Mo_share_87 : decode prog_11_method_50_code 87 = .ok (.iload 8, 2) := by decide +kernel
theorem d_Mo_share_89 : decode prog_11_method_50_code 89 = .ok (.aload_n 0, 1) := by decide +kernel
theorem d_Mo_share_90 : decode prog_11_method_50_code 90 = .ok (.getfield 193, 3) := by decide +kernel
theorem d_Mo_share_93 : decode prog_11_method_50_code 93 = .ok (.if_icmp .ge 116, 3) := by decide +kernel
theorem d_Mo_share_96 : decode prog_11_method_50_code 96 = .ok (.lload_n 1, 1) := by decide +kernel
theorem d_Mo_share_97 : decode prog_11_method_50_code 97 = .ok (.lload 4, 2) := by decide +kernel
theorem d_Mo_share_99 : decode prog_11_method_50_code 99 = .ok (.lrem, 1) := by decide +kernel
theorem d_Mo_share_100 : decode prog_11_method_50_code 100 = .ok (.lstore 9, 2) := by decide +kernel
theorem d_Mo_share_102 : decode prog_11_method_50_code 102 = .ok (.lload 9, 2) := by decide +kernel
theorem d_Mo_share_104 : decode prog_11_method_50_code 104 = .ok (.aload_n 0, 1) := by decide +kernel
theorem d_Mo_share_105 : decode prog_11_method_50_code 105 = .ok (.getfield 39, 3) := by decide +kernel
theorem d_Mo_share_108 : decode prog_11_method_50_code 108 = .ok (.iload 8, 2) := by decide +kernel
theorem d_Mo_share_110 : decode prog_11_method_50_code 110 = .ok (.laload, 1) := by decide +kernel
theorem d_Mo_share_111 : decode prog_11_method_50_code 111 = .ok (.ldc2_w 198, 3) := by decide +kernel
theorem d_Mo_share_114 : decode prog_11_method_50_code 114 = .ok (.ldiv, 1) := by decide +kernel
theorem d_Mo_share_115 : decode prog_11_method_50_code 115 = .ok (.lmul, 1) := by decide +kernel
theorem d_Mo_share_116 : decode prog_11_method_50_code 116 = .ok (.lstore 11, 2) := by decide +kernel
theorem d_Mo_share_118 : decode prog_11_method_50_code 118 = .ok (.lload 11, 2) := by decide +kernel
theorem d_Mo_share_120 : decode prog_11_method_50_code 120 = .ok (.lload 4, 2) := by decide +kernel
theorem d_Mo_share_122 : decode prog_11_method_50_code 122 = .ok (.lrem, 1) := by decide +kernel
theorem d_Mo_share_123 : decode prog_11_method_50_code 123 = .ok (.ldc2_w 198, 3) := by decide +kernel
theorem d_Mo_share_126 : decode prog_11_method_50_code 126 = .ok (.lmul, 1) := by decide +kernel
theorem d_Mo_share_127 : decode prog_11_method_50_code 127 = .ok (.lload 9, 2) := by decide +kernel
theorem d_Mo_share_129 : decode prog_11_method_50_code 129 = .ok (.aload_n 0, 1) := by decide +kernel
theorem d_Mo_share_130 : decode prog_11_method_50_code 130 = .ok (.getfield 39, 3) := by decide +kernel
theorem d_Mo_share_133 : decode prog_11_method_50_code 133 = .ok (.iload 8, 2) := by decide +kernel
theorem d_Mo_share_135 : decode prog_11_method_50_code 135 = .ok (.laload, 1) := by decide +kernel
theorem d_Mo_share_136 : decode prog_11_method_50_code 136 = .ok (.ldc2_w 198, 3) := by decide +kernel
theorem d_Mo_share_139 : decode prog_11_method_50_code 139 = .ok (.lrem, 1) := by decide +kernel
theorem d_Mo_share_140 : decode prog_11_method_50_code 140 = .ok (.lmul, 1) := by decide +kernel
theorem d_Mo_share_141 : decode prog_11_method_50_code 141 = .ok (.ladd, 1) := by decide +kernel
theorem d_Mo_share_142 : decode prog_11_method_50_code 142 = .ok (.lstore 13, 2) := by decide +kernel
theorem d_Mo_share_144 : decode prog_11_method_50_code 144 = .ok (.aload_n 0, 1) := by decide +kernel
theorem d_Mo_share_145 : decode prog_11_method_50_code 145 = .ok (.getfield 43, 3) := by decide +kernel
theorem d_Mo_share_148 : decode prog_11_method_50_code 148 = .ok (.iload 8, 2) := by decide +kernel
theorem d_Mo_share_150 : decode prog_11_method_50_code 150 = .ok (.lload_n 1, 1) := by decide +kernel
theorem d_Mo_share_151 : decode prog_11_method_50_code 151 = .ok (.lload 4, 2) := by decide +kernel
theorem d_Mo_share_153 : decode prog_11_method_50_code 153 = .ok (.ldiv, 1) := by decide +kernel
theorem d_Mo_share_154 : decode prog_11_method_50_code 154 = .ok (.aload_n 0, 1) := by decide +kernel
theorem d_Mo_share_155 : decode prog_11_method_50_code 155 = .ok (.getfield 39, 3) := by decide +kernel
theorem d_Mo_share_158 : decode prog_11_method_50_code 158 = .ok (.iload 8, 2) := by decide +kernel
theorem d_Mo_share_160 : decode prog_11_method_50_code 160 = .ok (.laload, 1) := by decide +kernel
theorem d_Mo_share_161 : decode prog_11_method_50_code 161 = .ok (.lmul, 1) := by decide +kernel
theorem d_Mo_share_162 : decode prog_11_method_50_code 162 = .ok (.lload 11, 2) := by decide +kernel
theorem d_Mo_share_164 : decode prog_11_method_50_code 164 = .ok (.lload 4, 2) := by decide +kernel
theorem d_Mo_share_166 : decode prog_11_method_50_code 166 = .ok (.ldiv, 1) := by decide +kernel
theorem d_Mo_share_167 : decode prog_11_method_50_code 167 = .ok (.ldc2_w 198, 3) := by decide +kernel
theorem d_Mo_share_170 : decode prog_11_method_50_code 170 = .ok (.lmul, 1) := by decide +kernel
theorem d_Mo_share_171 : decode prog_11_method_50_code 171 = .ok (.ladd, 1) := by decide +kernel
theorem d_Mo_share_172 : decode prog_11_method_50_code 172 = .ok (.lload 13, 2) := by decide +kernel
theorem d_Mo_share_174 : decode prog_11_method_50_code 174 = .ok (.lload 4, 2) := by decide +kernel
theorem d_Mo_share_176 : decode prog_11_method_50_code 176 = .ok (.ldiv, 1) := by decide +kernel
theorem d_Mo_share_177 : decode prog_11_method_50_code 177 = .ok (.ladd, 1) := by decide +kernel
theorem d_Mo_share_178 : decode prog_11_method_50_code 178 = .ok (.lastore, 1) := by decide +kernel
theorem d_Mo_share_179 : decode prog_11_method_50_code 179 = .ok (.aload_n 0, 1) := by decide +kernel
theorem d_Mo_share_180 : decode prog_11_method_50_code 180 = .ok (.getfield 46, 3) := by decide +kernel
theorem d_Mo_share_183 : decode prog_11_method_50_code 183 = .ok (.iload 8, 2) := by decide +kernel
theorem d_Mo_share_185 : decode prog_11_method_50_code 185 = .ok (.lload 13, 2) := by decide +kernel
theorem d_Mo_share_187 : decode prog_11_method_50_code 187 = .ok (.lload 4, 2) := by decide +kernel
theorem d_Mo_share_189 : decode prog_11_method_50_code 189 = .ok (.lrem, 1) := by decide +kernel
theorem d_Mo_share_190 : decode prog_11_method_50_code 190 = .ok (.lastore, 1) := by decide +kernel
theorem d_Mo_share_191 : decode prog_11_method_50_code 191 = .ok (.lload 6, 2) := by decide +kernel
theorem d_Mo_share_193 : decode prog_11_method_50_code 193 = .ok (.aload_n 0, 1) := by decide +kernel
theorem d_Mo_share_194 : decode prog_11_method_50_code 194 = .ok (.getfield 43, 3) := by decide +kernel
theorem d_Mo_share_197 : decode prog_11_method_50_code 197 = .ok (.iload 8, 2) := by decide +kernel
theorem d_Mo_share_199 : decode prog_11_method_50_code 199 = .ok (.laload, 1) := by decide +kernel
theorem d_Mo_share_200 : decode prog_11_method_50_code 200 = .ok (.lsub, 1) := by decide +kernel
theorem d_Mo_share_201 : decode prog_11_method_50_code 201 = .ok (.lstore 6, 2) := by decide +kernel
theorem d_Mo_share_203 : decode prog_11_method_50_code 203 = .ok (.iinc 8 1, 3) := by decide +kernel
theorem d_Mo_share_206 : decode prog_11_method_50_code 206 = .ok (.goto (-119), 3) := by decide +kernel
theorem d_Mo_share_209 : decode prog_11_method_50_code 209 = .ok (.lload 6, 2) := by decide +kernel
theorem d_Mo_share_211 : decode prog_11_method_50_code 211 = .ok (.lconst 0, 1) := by decide +kernel
theorem d_Mo_share_212 : decode prog_11_method_50_code 212 = .ok (.lcmp, 1) := by decide +kernel
theorem d_Mo_share_213 : decode prog_11_method_50_code 213 = .ok (.ifCond .le 81, 3) := by decide +kernel
theorem d_Mo_share_216 : decode prog_11_method_50_code 216 = .ok (.iconst 0, 1) := by decide +kernel
theorem d_Mo_share_217 : decode prog_11_method_50_code 217 = .ok (.istore 8, 2) := by decide +kernel
theorem d_Mo_share_219 : decode prog_11_method_50_code 219 = .ok (.iconst 1, 1) := by decide +kernel
theorem d_Mo_share_220 : decode prog_11_method_50_code 220 = .ok (.istore 9, 2) := by decide +kernel
theorem d_Mo_share_222 : decode prog_11_method_50_code 222 = .ok (.iload 9, 2) := by decide +kernel
theorem d_Mo_share_224 : decode prog_11_method_50_code 224 = .ok (.aload_n 0, 1) := by decide +kernel
theorem d_Mo_share_225 : decode prog_11_method_50_code 225 = .ok (.getfield 193, 3) := by decide +kernel
theorem d_Mo_share_228 : decode prog_11_method_50_code 228 = .ok (.if_icmp .ge 36, 3) := by decide +kernel
theorem d_Mo_share_231 : decode prog_11_method_50_code 231 = .ok (.aload_n 0, 1) := by decide +kernel
theorem d_Mo_share_232 : decode prog_11_method_50_code 232 = .ok (.getfield 46, 3) := by decide +kernel
theorem d_Mo_share_235 : decode prog_11_method_50_code 235 = .ok (.iload 9, 2) := by decide +kernel
theorem d_Mo_share_237 : decode prog_11_method_50_code 237 = .ok (.laload, 1) := by decide +kernel
theorem d_Mo_share_238 : decode prog_11_method_50_code 238 = .ok (.aload_n 0, 1) := by decide +kernel
theorem d_Mo_share_239 : decode prog_11_method_50_code 239 = .ok (.getfield 46, 3) := by decide +kernel
theorem d_Mo_share_242 : decode prog_11_method_50_code 242 = .ok (.iload 8, 2) := by decide +kernel
theorem d_Mo_share_244 : decode prog_11_method_50_code 244 = .ok (.laload, 1) := by decide +kernel
theorem d_Mo_share_245 : decode prog_11_method_50_code 245 = .ok (.lcmp, 1) := by decide +kernel
theorem d_Mo_share_246 : decode prog_11_method_50_code 246 = .ok (.ifCond .le 8, 3) := by decide +kernel
theorem d_Mo_share_249 : decode prog_11_method_50_code 249 = .ok (.iload 9, 2) := by decide +kernel
theorem d_Mo_share_251 : decode prog_11_method_50_code 251 = .ok (.goto 5, 3) := by decide +kernel
theorem d_Mo_share_254 : decode prog_11_method_50_code 254 = .ok (.iload 8, 2) := by decide +kernel
theorem d_Mo_share_256 : decode prog_11_method_50_code 256 = .ok (.istore 8, 2) := by decide +kernel
theorem d_Mo_share_258 : decode prog_11_method_50_code 258 = .ok (.iinc 9 1, 3) := by decide +kernel
theorem d_Mo_share_261 : decode prog_11_method_50_code 261 = .ok (.goto (-39), 3) := by decide +kernel
theorem d_Mo_share_264 : decode prog_11_method_50_code 264 = .ok (.aload_n 0, 1) := by decide +kernel
theorem d_Mo_share_265 : decode prog_11_method_50_code 265 = .ok (.getfield 43, 3) := by decide +kernel
theorem d_Mo_share_268 : decode prog_11_method_50_code 268 = .ok (.iload 8, 2) := by decide +kernel
theorem d_Mo_share_270 : decode prog_11_method_50_code 270 = .ok (.dup2, 1) := by decide +kernel
theorem d_Mo_share_271 : decode prog_11_method_50_code 271 = .ok (.laload, 1) := by decide +kernel
theorem d_Mo_share_272 : decode prog_11_method_50_code 272 = .ok (.lconst 1, 1) := by decide +kernel
theorem d_Mo_share_273 : decode prog_11_method_50_code 273 = .ok (.ladd, 1) := by decide +kernel
theorem d_Mo_share_274 : decode prog_11_method_50_code 274 = .ok (.lastore, 1) := by decide +kernel
theorem d_Mo_share_275 : decode prog_11_method_50_code 275 = .ok (.aload_n 0, 1) := by decide +kernel
theorem d_Mo_share_276 : decode prog_11_method_50_code 276 = .ok (.getfield 46, 3) := by decide +kernel
theorem d_Mo_share_279 : decode prog_11_method_50_code 279 = .ok (.iload 8, 2) := by decide +kernel
theorem d_Mo_share_281 : decode prog_11_method_50_code 281 = .ok (.ldc2_w 200, 3) := by decide +kernel
theorem d_Mo_share_284 : decode prog_11_method_50_code 284 = .ok (.lastore, 1) := by decide +kernel
theorem d_Mo_share_285 : decode prog_11_method_50_code 285 = .ok (.lload 6, 2) := by decide +kernel
theorem d_Mo_share_287 : decode prog_11_method_50_code 287 = .ok (.lconst 1, 1) := by decide +kernel
theorem d_Mo_share_288 : decode prog_11_method_50_code 288 = .ok (.lsub, 1) := by decide +kernel
theorem d_Mo_share_289 : decode prog_11_method_50_code 289 = .ok (.lstore 6, 2) := by decide +kernel
theorem d_Mo_share_291 : decode prog_11_method_50_code 291 = .ok (.goto (-82), 3) := by decide +kernel
theorem d_Mo_share_294 : decode prog_11_method_50_code 294 = .ok (.aload_n 0, 1) := by decide +kernel
theorem d_Mo_share_295 : decode prog_11_method_50_code 295 = .ok (.getfield 43, 3) := by decide +kernel
theorem d_Mo_share_298 : decode prog_11_method_50_code 298 = .ok (.iload_n 3, 1) := by decide +kernel
theorem d_Mo_share_299 : decode prog_11_method_50_code 299 = .ok (.laload, 1) := by decide +kernel
theorem d_Mo_share_300 : decode prog_11_method_50_code 300 = .ok (.lreturn, 1) := by decide +kernel
