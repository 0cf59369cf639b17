theorem d_Ro_init_0 : decode prog_7_method_1_code 0 = .ok (.aload_n 0, 1) := by decide +kernel
theorem d_Ro_init_1 : decode prog_7_method_1_code 1 = .ok (.invokespecial 3, 3) := by decide +kernel
theorem d_Ro_init_4 : decode prog_7_method_1_code 4 = .ok (.aload_n 0, 1) := by decide +kernel
theorem d_Ro_init_5 : decode prog_7_method_1_code 5 = .ok (.bipush 16, 2) := by decide +kernel
theorem d_Ro_init_7 : decode prog_7_method_1_code 7 = .ok (.anewarray 9, 3) := by decide +kernel
theorem d_Ro_init_10 : decode prog_7_method_1_code 10 = .ok (.putfield 11, 3) := by decide +kernel
theorem d_Ro_init_13 : decode prog_7_method_1_code 13 = .ok (.aload_n 0, 1) := by decide +kernel
theorem d_Ro_init_14 : decode prog_7_method_1_code 14 = .ok (.bipush 16, 2) := by decide +kernel
theorem d_Ro_init_16 : decode prog_7_method_1_code 16 = .ok (.anewarray 9, 3) := by decide +kernel
theorem d_Ro_init_19 : decode prog_7_method_1_code 19 = .ok (.putfield 17, 3) := by decide +kernel
theorem d_Ro_init_22 : decode prog_7_method_1_code 22 = .ok (.aload_n 0, 1) := by decide +kernel
theorem d_Ro_init_23 : decode prog_7_method_1_code 23 = .ok (.iconst 0, 1) := by decide +kernel
theorem d_Ro_init_24 : decode prog_7_method_1_code 24 = .ok (.putfield 20, 3) := by decide +kernel
theorem d_Ro_init_27 : decode prog_7_method_1_code 27 = .ok (.return_, 1) := by decide +kernel
theorem d_Ro_put_0 : decode prog_7_method_2_code 0 = .ok (.aload_n 0, 1) := by decide +kernel
theorem d_Ro_put_1 : decode prog_7_method_2_code 1 = .ok (.getfield 20, 3) := by decide +kernel
theorem d_Ro_put_4 : decode prog_7_method_2_code 4 = .ok (.bipush 16, 2) := by decide +kernel
theorem d_Ro_put_6 : decode prog_7_method_2_code 6 = .ok (.if_icmp .ge 33, 3) := by decide +kernel
theorem d_Ro_put_9 : decode prog_7_method_2_code 9 = .ok (.aload_n 0, 1) := by decide +kernel
theorem d_Ro_put_10 : decode prog_7_method_2_code 10 = .ok (.getfield 11, 3) := by decide +kernel
theorem d_Ro_put_13 : decode prog_7_method_2_code 13 = .ok (.aload_n 0, 1) := by decide +kernel
theorem d_Ro_put_14 : decode prog_7_method_2_code 14 = .ok (.getfield 20, 3) := by decide +kernel
theorem d_Ro_put_17 : decode prog_7_method_2_code 17 = .ok (.aload_n 1, 1) := by decide +kernel
theorem d_Ro_put_18 : decode prog_7_method_2_code 18 = .ok (.aastore, 1) := by decide +kernel
theorem d_Ro_put_19 : decode prog_7_method_2_code 19 = .ok (.aload_n 0, 1) := by decide +kernel
theorem d_Ro_put_20 : decode prog_7_method_2_code 20 = .ok (.getfield 17, 3) := by decide +kernel
theorem d_Ro_put_23 : decode prog_7_method_2_code 23 = .ok (.aload_n 0, 1) := by decide +kernel
theorem d_Ro_put_24 : decode prog_7_method_2_code 24 = .ok (.getfield 20, 3) := by decide +kernel
theorem d_Ro_put_27 : decode prog_7_method_2_code 27 = .ok (.aload_n 2, 1) := by decide +kernel
theorem d_Ro_put_28 : decode prog_7_method_2_code 28 = .ok (.aastore, 1) := by decide +kernel
theorem d_Ro_put_29 : decode prog_7_method_2_code 29 = .ok (.aload_n 0, 1) := by decide +kernel
theorem d_Ro_put_30 : decode prog_7_method_2_code 30 = .ok (.dup, 1) := by decide +kernel
theorem d_Ro_put_31 : decode prog_7_method_2_code 31 = .ok (.getfield 20, 3) := by decide +kernel
theorem d_Ro_put_34 : decode prog_7_method_2_code 34 = .ok (.iconst 1, 1) := by decide +kernel
theorem d_Ro_put_35 : decode prog_7_method_2_code 35 = .ok (.iadd, 1) := by decide +kernel
theorem d_Ro_put_36 : decode prog_7_method_2_code 36 = .ok (.putfield 20, 3) := by decide +kernel
theorem d_Ro_put_39 : decode prog_7_method_2_code 39 = .ok (.return_, 1) := by decide +kernel
theorem d_We_init_0 : decode prog_9_method_1_code 0 = .ok (.aload_n 0, 1) := by decide +kernel
theorem d_We_init_1 : decode prog_9_method_1_code 1 = .ok (.invokespecial 3, 3) := by decide +kernel
theorem d_We_init_4 : decode prog_9_method_1_code 4 = .ok (.aload_n 0, 1) := by decide +kernel
theorem d_We_init_5 : decode prog_9_method_1_code 5 = .ok (.bipush 12, 2) := by decide +kernel
theorem d_We_init_7 : decode prog_9_method_1_code 7 = .ok (.newarray .int, 2) := by decide +kernel
theorem d_We_init_9 : decode prog_9_method_1_code 9 = .ok (.putfield 9, 3) := by decide +kernel
theorem d_We_init_12 : decode prog_9_method_1_code 12 = .ok (.aload_n 0, 1) := by decide +kernel
theorem d_We_init_13 : decode prog_9_method_1_code 13 = .ok (.bipush 12, 2) := by decide +kernel
theorem d_We_init_15 : decode prog_9_method_1_code 15 = .ok (.newarray .long, 2) := by decide +kernel
theorem d_We_init_17 : decode prog_9_method_1_code 17 = .ok (.putfield 15, 3) := by decide +kernel
theorem d_We_init_20 : decode prog_9_method_1_code 20 = .ok (.aload_n 0, 1) := by decide +kernel
theorem d_We_init_21 : decode prog_9_method_1_code 21 = .ok (.iconst 0, 1) := by decide +kernel
theorem d_We_init_22 : decode prog_9_method_1_code 22 = .ok (.putfield 19, 3) := by decide +kernel
theorem d_We_init_25 : decode prog_9_method_1_code 25 = .ok (.return_, 1) := by decide +kernel
theorem d_We_put_0 : decode prog_9_method_2_code 0 = .ok (.aload_n 0, 1) := by decide +kernel
theorem d_We_put_1 : decode prog_9_method_2_code 1 = .ok (.getfield 19, 3) := by decide +kernel
theorem d_We_put_4 : decode prog_9_method_2_code 4 = .ok (.bipush 12, 2) := by decide +kernel
theorem d_We_put_6 : decode prog_9_method_2_code 6 = .ok (.if_icmp .ge 23, 3) := by decide +kernel
theorem d_We_put_9 : decode prog_9_method_2_code 9 = .ok (.aload_n 0, 1) := by decide +kernel
theorem d_We_put_10 : decode prog_9_method_2_code 10 = .ok (.getfield 9, 3) := by decide +kernel
theorem d_We_put_13 : decode prog_9_method_2_code 13 = .ok (.aload_n 0, 1) := by decide +kernel
theorem d_We_put_14 : decode prog_9_method_2_code 14 = .ok (.getfield 19, 3) := by decide +kernel
theorem d_We_put_17 : decode prog_9_method_2_code 17 = .ok (.iload_n 1, 1) := by decide +kernel
theorem d_We_put_18 : decode prog_9_method_2_code 18 = .ok (.iastore, 1) := by decide +kernel
theorem d_We_put_19 : decode prog_9_method_2_code 19 = .ok (.aload_n 0, 1) := by decide +kernel
theorem d_We_put_20 : decode prog_9_method_2_code 20 = .ok (.dup, 1) := by decide +kernel
theorem d_We_put_21 : decode prog_9_method_2_code 21 = .ok (.getfield 19, 3) := by decide +kernel
theorem d_We_put_24 : decode prog_9_method_2_code 24 = .ok (.iconst 1, 1) := by decide +kernel
theorem d_We_put_25 : decode prog_9_method_2_code 25 = .ok (.iadd, 1) := by decide +kernel
theorem d_We_put_26 : decode prog_9_method_2_code 26 = .ok (.putfield 19, 3) := by decide +kernel
theorem d_We_put_29 : decode prog_9_method_2_code 29 = .ok (.return_, 1) := by decide +kernel
theorem d_We_portion_0 : decode prog_9_method_3_code 0 = .ok (.aload_n 0, 1) := by decide +kernel
theorem d_We_portion_1 : decode prog_9_method_3_code 1 = .ok (.invokevirtual 23, 3) := by decide +kernel
theorem d_We_portion_4 : decode prog_9_method_3_code 4 = .ok (.lstore 4, 2) := by decide +kernel
theorem d_We_portion_6 : decode prog_9_method_3_code 6 = .ok (.lload_n 1, 1) := by decide +kernel
theorem d_We_portion_7 : decode prog_9_method_3_code 7 = .ok (.lstore 6, 2) := by decide +kernel
theorem d_We_portion_9 : decode prog_9_method_3_code 9 = .ok (.lconst 0, 1) := by decide +kernel
theorem d_We_portion_10 : decode prog_9_method_3_code 10 = .ok (.lstore 8, 2) := by decide +kernel
theorem d_We_portion_12 : decode prog_9_method_3_code 12 = .ok (.iconst 0, 1) := by decide +kernel
theorem d_We_portion_13 : decode prog_9_method_3_code 13 = .ok (.istore 10, 2) := by decide +kernel
theorem d_We_portion_15 : decode prog_9_method_3_code 15 = .ok (.iload 10, 2) := by decide +kernel
theorem d_We_portion_17 : decode prog_9_method_3_code 17 = .ok (.aload_n 0, 1) := by decide +kernel
theorem d_We_portion_18 : decode prog_9_method_3_code 18 = .ok (.getfield 19, 3) := by decide +kernel
theorem d_We_portion_21 : decode prog_9_method_3_code 21 = .ok (.if_icmp .ge 65, 3) := by decide +kernel
theorem d_We_portion_24 : decode prog_9_method_3_code 24 = .ok (.lload_n 1, 1) := by decide +kernel
theorem d_We_portion_25 : decode prog_9_method_3_code 25 = .ok (.aload_n 0, 1) := by decide +kernel
theorem d_We_portion_26 : decode prog_9_method_3_code 26 = .ok (.getfield 9, 3) := by decide +kernel
theorem d_We_portion_29 : decode prog_9_method_3_code 29 = .ok (.iload 10, 2) := by decide +kernel
theorem d_We_portion_31 : decode prog_9_method_3_code 31 = .ok (.iaload, 1) := by decide +kernel
theorem d_We_portion_32 : decode prog_9_method_3_code 32 = .ok (.i2l, 1) := by decide +kernel
theorem d_We_portion_33 : decode prog_9_method_3_code 33 = .ok (.lload 4, 2) := by decide +kernel
theorem d_We_portion_35 : decode prog_9_method_3_code 35 = .ok (.invokestatic 27, 3) := by decide +kernel
theorem d_We_portion_38 : decode prog_9_method_3_code 38 = .ok (.lstore 11, 2) := by decide +kernel
theorem d_We_portion_40 : decode prog_9_method_3_code 40 = .ok (.aload_n 0, 1) := by decide +kernel
theorem d_We_portion_41 : decode prog_9_method_3_code 41 = .ok (.getfield 15, 3) := by decide +kernel
theorem d_We_portion_44 : decode prog_9_method_3_code 44 = .ok (.iload 10, 2) := by decide +kernel
theorem d_We_portion_46 : decode prog_9_method_3_code 46 = .ok (.lload_n 1, 1) := by decide +kernel
theorem d_We_portion_47 : decode prog_9_method_3_code 47 = .ok (.aload_n 0, 1) := by decide +kernel
theorem d_We_portion_48 : decode prog_9_method_3_code 48 = .ok (.getfield 9, 3) := by decide +kernel
theorem d_We_portion_51 : decode prog_9_method_3_code 51 = .ok (.iload 10, 2) := by decide +kernel
theorem d_We_portion_53 : decode prog_9_method_3_code 53 = .ok (.iaload, 1) := by decide +kernel
theorem d_We_portion_54 : decode prog_9_method_3_code 54 = .ok (.i2l, 1) := by decide +kernel
theorem d_We_portion_55 : decode prog_9_method_3_code 55 = .ok (.lmul, 1) := by decide +kernel
theorem d_We_portion_56 : decode prog_9_method_3_code 56 = .ok (.lload 11, 2) := by decide +kernel
theorem d_We_portion_58 : decode prog_9_method_3_code 58 = .ok (.lload 4, 2) := by decide +kernel
theorem d_We_portion_60 : decode prog_9_method_3_code 60 = .ok (.lmul, 1) := by decide +kernel
theorem d_We_portion_61 : decode prog_9_method_3_code 61 = .ok (.lsub, 1) := by decide +kernel
theorem d_We_portion_62 : decode prog_9_method_3_code 62 = .ok (.lastore, 1) := by decide +kernel
theorem d_We_portion_63 : decode prog_9_method_3_code 63 = .ok (.lload 6, 2) := by decide +kernel
theorem d_We_portion_65 : decode prog_9_method_3_code 65 = .ok (.lload 11, 2) := by decide +kernel
theorem d_We_portion_67 : decode prog_9_method_3_code 67 = .ok (.lsub, 1) := by decide +kernel
theorem d_We_portion_68 : decode prog_9_method_3_code 68 = .ok (.lstore 6, 2) := by decide +kernel
theorem d_We_portion_70 : decode prog_9_method_3_code 70 = .ok (.iload 10, 2) := by decide +kernel
theorem d_We_portion_72 : decode prog_9_method_3_code 72 = .ok (.iload_n 3, 1) := by decide +kernel
theorem d_We_portion_73 : decode prog_9_method_3_code 73 = .ok (.if_icmp .ne 7, 3) := by decide +kernel
theorem d_We_portion_76 : decode prog_9_method_3_code 76 = .ok (.lload 11, 2) := by decide +kernel
theorem d_We_portion_78 : decode prog_9_method_3_code 78 = .ok (.lstore 8, 2) := by decide +kernel
theorem d_We_portion_80 : decode prog_9_method_3_code 80 = .ok (.iinc 10 1, 3) := by decide +kernel
theorem d_We_portion_83 : decode prog_9_method_3_code 83 = .ok (.goto (-68), 3) := by decide +kernel
theorem d_We_portion_86 : decode prog_9_method_3_code 86 = .ok (.aload_n 0, 1) := by decide +kernel
theorem d_We_portion_87 : decode prog_9_method_3_code 87 = .ok (.iload_n 3, 1) := by decide +kernel
theorem d_We_portion_88 : decode prog_9_method_3_code 88 = .ok (.invokevirtual 31, 3) := by decide +kernel
theorem d_We_portion_91 : decode prog_9_method_3_code 91 = .ok (.i2l, 1) := by decide +kernel
theorem d_We_portion_92 : decode prog_9_method_3_code 92 = .ok (.lload 6, 2) := by decide +kernel
theorem d_We_portion_94 : decode prog_9_method_3_code 94 = .ok (.lcmp, 1) := by decide +kernel
theorem d_We_portion_95 : decode prog_9_method_3_code 95 = .ok (.ifCond .ge 10, 3) := by decide +kernel
theorem d_We_portion_98 : decode prog_9_method_3_code 98 = .ok (.lload 8, 2) := by decide +kernel
theorem d_We_portion_100 : decode prog_9_method_3_code 100 = .ok (.lconst 1, 1) := by decide +kernel
theorem d_We_portion_101 : decode prog_9_method_3_code 101 = .ok (.ladd, 1) := by decide +kernel
theorem d_We_portion_102 : decode prog_9_method_3_code 102 = .ok (.goto 5, 3) := by decide +kernel
theorem d_We_portion_105 : decode prog_9_method_3_code 105 = .ok (.lload 8, 2) := by decide +kernel
theorem d_We_portion_107 : decode prog_9_method_3_code 107 = .ok (.lreturn, 1) := by decide +kernel
theorem d_We_total_0 : decode prog_9_method_4_code 0 = .ok (.lconst 0, 1) := by decide +kernel
theorem d_We_total_1 : decode prog_9_method_4_code 1 = .ok (.lstore_n 1, 1) := by decide +kernel
theorem d_We_total_2 : decode prog_9_method_4_code 2 = .ok (.iconst 0, 1) := by decide +kernel
theorem d_We_total_3 : decode prog_9_method_4_code 3 = .ok (.istore_n 3, 1) := by decide +kernel
theorem d_We_total_4 : decode prog_9_method_4_code 4 = .ok (.iload_n 3, 1) := by decide +kernel
theorem d_We_total_5 : decode prog_9_method_4_code 5 = .ok (.aload_n 0, 1) := by decide +kernel
theorem d_We_total_6 : decode prog_9_method_4_code 6 = .ok (.getfield 19, 3) := by decide +kernel
theorem d_We_total_9 : decode prog_9_method_4_code 9 = .ok (.if_icmp .ge 19, 3) := by decide +kernel
theorem d_We_total_12 : decode prog_9_method_4_code 12 = .ok (.lload_n 1, 1) := by decide +kernel
theorem d_We_total_13 : decode prog_9_method_4_code 13 = .ok (.aload_n 0, 1) := by decide +kernel
theorem d_We_total_14 : decode prog_9_method_4_code 14 = .ok (.getfield 9, 3) := by decide +kernel
theorem d_We_total_17 : decode prog_9_method_4_code 17 = .ok (.iload_n 3, 1) := by decide +kernel
theorem d_We_total_18 : decode prog_9_method_4_code 18 = .ok (.iaload, 1) := by decide +kernel
theorem d_We_total_19 : decode prog_9_method_4_code 19 = .ok (.i2l, 1) := by decide +kernel
theorem d_We_total_20 : decode prog_9_method_4_code 20 = .ok (.ladd, 1) := by decide +kernel
theorem d_We_total_21 : decode prog_9_method_4_code 21 = .ok (.lstore_n 1, 1) := by decide +kernel
theorem d_We_total_22 : decode prog_9_method_4_code 22 = .ok (.iinc 3 1, 3) := by decide +kernel
theorem d_We_total_25 : decode prog_9_method_4_code 25 = .ok (.goto (-21), 3) := by decide +kernel
theorem d_We_total_28 : decode prog_9_method_4_code 28 = .ok (.lload_n 1, 1) := by decide +kernel
theorem d_We_total_29 : decode prog_9_method_4_code 29 = .ok (.lreturn, 1) := by decide +kernel
theorem d_We_roundedDown_0 : decode prog_9_method_5_code 0 = .ok (.lload 4, 2) := by decide +kernel
theorem d_We_roundedDown_2 : decode prog_9_method_5_code 2 = .ok (.lconst 0, 1) := by decide +kernel
theorem d_We_roundedDown_3 : decode prog_9_method_5_code 3 = .ok (.lcmp, 1) := by decide +kernel
theorem d_We_roundedDown_4 : decode prog_9_method_5_code 4 = .ok (.ifCond .gt 5, 3) := by decide +kernel
theorem d_We_roundedDown_7 : decode prog_9_method_5_code 7 = .ok (.lconst 0, 1) := by decide +kernel
theorem d_We_roundedDown_8 : decode prog_9_method_5_code 8 = .ok (.lreturn, 1) := by decide +kernel
theorem d_We_roundedDown_9 : decode prog_9_method_5_code 9 = .ok (.lload_n 0, 1) := by decide +kernel
theorem d_We_roundedDown_10 : decode prog_9_method_5_code 10 = .ok (.lload 4, 2) := by decide +kernel
theorem d_We_roundedDown_12 : decode prog_9_method_5_code 12 = .ok (.lrem, 1) := by decide +kernel
theorem d_We_roundedDown_13 : decode prog_9_method_5_code 13 = .ok (.lstore 6, 2) := by decide +kernel
theorem d_We_roundedDown_15 : decode prog_9_method_5_code 15 = .ok (.lload 6, 2) := by decide +kernel
theorem d_We_roundedDown_17 : decode prog_9_method_5_code 17 = .ok (.lload_n 2, 1) := by decide +kernel
theorem d_We_roundedDown_18 : decode prog_9_method_5_code 18 = .ok (.ldc2_w 35, 3) := by decide +kernel
theorem d_We_roundedDown_21 : decode prog_9_method_5_code 21 = .ok (.ldiv, 1) := by decide +kernel
theorem d_We_roundedDown_22 : decode prog_9_method_5_code 22 = .ok (.lmul, 1) := by decide +kernel
theorem d_We_roundedDown_23 : decode prog_9_method_5_code 23 = .ok (.lstore 8, 2) := by decide +kernel
theorem d_We_roundedDown_25 : decode prog_9_method_5_code 25 = .ok (.lload 8, 2) := by decide +kernel
theorem d_We_roundedDown_27 : decode prog_9_method_5_code 27 = .ok (.lload 4, 2) := by decide +kernel
theorem d_We_roundedDown_29 : decode prog_9_method_5_code 29 = .ok (.lrem, 1) := by decide +kernel
theorem d_We_roundedDown_30 : decode prog_9_method_5_code 30 = .ok (.ldc2_w 35, 3) := by decide +kernel
theorem d_We_roundedDown_33 : decode prog_9_method_5_code 33 = .ok (.lmul, 1) := by decide +kernel
theorem d_We_roundedDown_34 : decode prog_9_method_5_code 34 = .ok (.lload 6, 2) := by decide +kernel
theorem d_We_roundedDown_36 : decode prog_9_method_5_code 36 = .ok (.lload_n 2, 1) := by decide +kernel
theorem d_We_roundedDown_37 : decode prog_9_method_5_code 37 = .ok (.ldc2_w 35, 3) := by decide +kernel
theorem d_We_roundedDown_40 : decode prog_9_method_5_code 40 = .ok (.lrem, 1) := by decide +kernel
theorem d_We_roundedDown_41 : decode prog_9_method_5_code 41 = .ok (.lmul, 1) := by decide +kernel
theorem d_We_roundedDown_42 : decode prog_9_method_5_code 42 = .ok (.ladd, 1) := by decide +kernel
theorem d_We_roundedDown_43 : decode prog_9_method_5_code 43 = .ok (.lstore 10, 2) := by decide +kernel
theorem d_We_roundedDown_45 : decode prog_9_method_5_code 45 = .ok (.lload_n 0, 1) := by decide +kernel
theorem d_We_roundedDown_46 : decode prog_9_method_5_code 46 = .ok (.lload 4, 2) := by decide +kernel
theorem d_We_roundedDown_48 : decode prog_9_method_5_code 48 = .ok (.ldiv, 1) := by decide +kernel
theorem d_We_roundedDown_49 : decode prog_9_method_5_code 49 = .ok (.lload_n 2, 1) := by decide +kernel
theorem d_We_roundedDown_50 : decode prog_9_method_5_code 50 = .ok (.lmul, 1) := by decide +kernel
theorem d_We_roundedDown_51 : decode prog_9_method_5_code 51 = .ok (.lload 8, 2) := by decide +kernel
theorem d_We_roundedDown_53 : decode prog_9_method_5_code 53 = .ok (.lload 4, 2) := by decide +kernel
theorem d_We_roundedDown_55 : decode prog_9_method_5_code 55 = .ok (.ldiv, 1) := by decide +kernel
theorem d_We_roundedDown_56 : decode prog_9_method_5_code 56 = .ok (.ldc2_w 35, 3) := by decide +kernel
theorem d_We_roundedDown_59 : decode prog_9_method_5_code 59 = .ok (.lmul, 1) := by decide +kernel
theorem d_We_roundedDown_60 : decode prog_9_method_5_code 60 = .ok (.ladd, 1) := by decide +kernel
theorem d_We_roundedDown_61 : decode prog_9_method_5_code 61 = .ok (.lload 10, 2) := by decide +kernel
theorem d_We_roundedDown_63 : decode prog_9_method_5_code 63 = .ok (.lload 4, 2) := by decide +kernel
theorem d_We_roundedDown_65 : decode prog_9_method_5_code 65 = .ok (.ldiv, 1) := by decide +kernel
theorem d_We_roundedDown_66 : decode prog_9_method_5_code 66 = .ok (.ladd, 1) := by decide +kernel
theorem d_We_roundedDown_67 : decode prog_9_method_5_code 67 = .ok (.lreturn, 1) := by decide +kernel
theorem d_We_comesBefore_0 : decode prog_9_method_6_code 0 = .ok (.iconst 0, 1) := by decide +kernel
theorem d_We_comesBefore_1 : decode prog_9_method_6_code 1 = .ok (.istore_n 2, 1) := by decide +kernel
theorem d_We_comesBefore_2 : decode prog_9_method_6_code 2 = .ok (.iconst 0, 1) := by decide +kernel
theorem d_We_comesBefore_3 : decode prog_9_method_6_code 3 = .ok (.istore_n 3, 1) := by decide +kernel
theorem d_We_comesBefore_4 : decode prog_9_method_6_code 4 = .ok (.iload_n 3, 1) := by decide +kernel
theorem d_We_comesBefore_5 : decode prog_9_method_6_code 5 = .ok (.aload_n 0, 1) := by decide +kernel
theorem d_We_comesBefore_6 : decode prog_9_method_6_code 6 = .ok (.getfield 19, 3) := by decide +kernel
theorem d_We_comesBefore_9 : decode prog_9_method_6_code 9 = .ok (.if_icmp .ge 49, 3) := by decide +kernel
theorem d_We_comesBefore_12 : decode prog_9_method_6_code 12 = .ok (.aload_n 0, 1) := by decide +kernel
theorem d_We_comesBefore_13 : decode prog_9_method_6_code 13 = .ok (.getfield 15, 3) := by decide +kernel
theorem d_We_comesBefore_16 : decode prog_9_method_6_code 16 = .ok (.iload_n 3, 1) := by decide +kernel
theorem d_We_comesBefore_17 : decode prog_9_method_6_code 17 = .ok (.laload, 1) := by decide +kernel
theorem d_We_comesBefore_18 : decode prog_9_method_6_code 18 = .ok (.aload_n 0, 1) := by decide +kernel
theorem d_We_comesBefore_19 : decode prog_9_method_6_code 19 = .ok (.getfield 15, 3) := by decide +kernel
theorem d_We_comesBefore_22 : decode prog_9_method_6_code 22 = .ok (.iload_n 1, 1) := by decide +kernel
theorem d_We_comesBefore_23 : decode prog_9_method_6_code 23 = .ok (.laload, 1) := by decide +kernel
theorem d_We_comesBefore_24 : decode prog_9_method_6_code 24 = .ok (.lcmp, 1) := by decide +kernel
theorem d_We_comesBefore_25 : decode prog_9_method_6_code 25 = .ok (.ifCond .gt 24, 3) := by decide +kernel
theorem d_We_comesBefore_28 : decode prog_9_method_6_code 28 = .ok (.aload_n 0, 1) := by decide +kernel
theorem d_We_comesBefore_29 : decode prog_9_method_6_code 29 = .ok (.getfield 15, 3) := by decide +kernel
theorem d_We_comesBefore_32 : decode prog_9_method_6_code 32 = .ok (.iload_n 3, 1) := by decide +kernel
theorem d_We_comesBefore_33 : decode prog_9_method_6_code 33 = .ok (.laload, 1) := by decide +kernel
theorem d_We_comesBefore_34 : decode prog_9_method_6_code 34 = .ok (.aload_n 0, 1) := by decide +kernel
theorem d_We_comesBefore_35 : decode prog_9_method_6_code 35 = .ok (.getfield 15, 3) := by decide +kernel
theorem d_We_comesBefore_38 : decode prog_9_method_6_code 38 = .ok (.iload_n 1, 1) := by decide +kernel
theorem d_We_comesBefore_39 : decode prog_9_method_6_code 39 = .ok (.laload, 1) := by decide +kernel
theorem d_We_comesBefore_40 : decode prog_9_method_6_code 40 = .ok (.lcmp, 1) := by decide +kernel
theorem d_We_comesBefore_41 : decode prog_9_method_6_code 41 = .ok (.ifCond .ne 11, 3) := by decide +kernel
theorem d_We_comesBefore_44 : decode prog_9_method_6_code 44 = .ok (.iload_n 3, 1) := by decide +kernel
theorem d_We_comesBefore_45 : decode prog_9_method_6_code 45 = .ok (.iload_n 1, 1) := by decide +kernel
theorem d_We_comesBefore_46 : decode prog_9_method_6_code 46 = .ok (.if_icmp .ge 6, 3) := by decide +kernel
theorem d_We_comesBefore_49 : decode prog_9_method_6_code 49 = .ok (.iinc 2 1, 3) := by decide +kernel
theorem d_We_comesBefore_52 : decode prog_9_method_6_code 52 = .ok (.iinc 3 1, 3) := by decide +kernel
theorem d_We_comesBefore_55 : decode prog_9_method_6_code 55 = .ok (.goto (-51), 3) := by decide +kernel
theorem d_We_comesBefore_58 : decode prog_9_method_6_code 58 = .ok (.iload_n 2, 1) := by decide +kernel
theorem d_We_comesBefore_59 : decode prog_9_method_6_code 59 = .ok (.ireturn, 1) := by decide +kernel
theorem d_Va_init_0 : decode prog_8_method_1_code 0 = .ok (.aload_n 0, 1) := by decide +kernel
theorem d_Va_init_1 : decode prog_8_method_1_code 1 = .ok (.invokespecial 1, 3) := by decide +kernel
theorem d_Va_init_4 : decode prog_8_method_1_code 4 = .ok (.aload_n 0, 1) := by decide +kernel
theorem d_Va_init_5 : decode prog_8_method_1_code 5 = .ok (.aload_n 1, 1) := by decide +kernel
theorem d_Va_init_6 : decode prog_8_method_1_code 6 = .ok (.putfield 7, 3) := by decide +kernel
theorem d_Va_init_9 : decode prog_8_method_1_code 9 = .ok (.aload_n 0, 1) := by decide +kernel
theorem d_Va_init_10 : decode prog_8_method_1_code 10 = .ok (.iload_n 2, 1) := by decide +kernel
theorem d_Va_init_11 : decode prog_8_method_1_code 11 = .ok (.putfield 13, 3) := by decide +kernel
theorem d_Va_init_14 : decode prog_8_method_1_code 14 = .ok (.return_, 1) := by decide +kernel
