theorem d_Mf_init_0 : decode prog_1_method_1_code 0 = .ok (.aload_n 0, 1) := by decide +kernel
theorem d_Mf_init_1 : decode prog_1_method_1_code 1 = .ok (.invokespecial 1, 3) := by decide +kernel
theorem d_Mf_init_4 : decode prog_1_method_1_code 4 = .ok (.aload_n 0, 1) := by decide +kernel
theorem d_Mf_init_5 : decode prog_1_method_1_code 5 = .ok (.sipush 200, 3) := by decide +kernel
theorem d_Mf_init_8 : decode prog_1_method_1_code 8 = .ok (.anewarray 9, 3) := by decide +kernel
theorem d_Mf_init_11 : decode prog_1_method_1_code 11 = .ok (.putfield 11, 3) := by decide +kernel
theorem d_Mf_init_14 : decode prog_1_method_1_code 14 = .ok (.aload_n 0, 1) := by decide +kernel
theorem d_Mf_init_15 : decode prog_1_method_1_code 15 = .ok (.iconst 0, 1) := by decide +kernel
theorem d_Mf_init_16 : decode prog_1_method_1_code 16 = .ok (.putfield 15, 3) := by decide +kernel
theorem d_Mf_init_19 : decode prog_1_method_1_code 19 = .ok (.aload_n 0, 1) := by decide +kernel
theorem d_Mf_init_20 : decode prog_1_method_1_code 20 = .ok (.bipush 8, 2) := by decide +kernel
theorem d_Mf_init_22 : decode prog_1_method_1_code 22 = .ok (.anewarray 19, 3) := by decide +kernel
theorem d_Mf_init_25 : decode prog_1_method_1_code 25 = .ok (.putfield 21, 3) := by decide +kernel
theorem d_Mf_init_28 : decode prog_1_method_1_code 28 = .ok (.aload_n 0, 1) := by decide +kernel
theorem d_Mf_init_29 : decode prog_1_method_1_code 29 = .ok (.iconst 0, 1) := by decide +kernel
theorem d_Mf_init_30 : decode prog_1_method_1_code 30 = .ok (.putfield 25, 3) := by decide +kernel
theorem d_Mf_init_33 : decode prog_1_method_1_code 33 = .ok (.aload_n 0, 1) := by decide +kernel
theorem d_Mf_init_34 : decode prog_1_method_1_code 34 = .ok (.new 28, 3) := by decide +kernel
theorem d_Mf_init_37 : decode prog_1_method_1_code 37 = .ok (.dup, 1) := by decide +kernel
theorem d_Mf_init_38 : decode prog_1_method_1_code 38 = .ok (.invokespecial 30, 3) := by decide +kernel
theorem d_Mf_init_41 : decode prog_1_method_1_code 41 = .ok (.putfield 31, 3) := by decide +kernel
theorem d_Mf_init_44 : decode prog_1_method_1_code 44 = .ok (.aload_n 0, 1) := by decide +kernel
theorem d_Mf_init_45 : decode prog_1_method_1_code 45 = .ok (.new 35, 3) := by decide +kernel
theorem d_Mf_init_48 : decode prog_1_method_1_code 48 = .ok (.dup, 1) := by decide +kernel
theorem d_Mf_init_49 : decode prog_1_method_1_code 49 = .ok (.invokespecial 37, 3) := by decide +kernel
theorem d_Mf_init_52 : decode prog_1_method_1_code 52 = .ok (.putfield 38, 3) := by decide +kernel
theorem d_Mf_init_55 : decode prog_1_method_1_code 55 = .ok (.aload_n 0, 1) := by decide +kernel
theorem d_Mf_init_56 : decode prog_1_method_1_code 56 = .ok (.new 42, 3) := by decide +kernel
theorem d_Mf_init_59 : decode prog_1_method_1_code 59 = .ok (.dup, 1) := by decide +kernel
theorem d_Mf_init_60 : decode prog_1_method_1_code 60 = .ok (.bipush 24, 2) := by decide +kernel
theorem d_Mf_init_62 : decode prog_1_method_1_code 62 = .ok (.bipush 24, 2) := by decide +kernel
theorem d_Mf_init_64 : decode prog_1_method_1_code 64 = .ok (.invokespecial 44, 3) := by decide +kernel
theorem d_Mf_init_67 : decode prog_1_method_1_code 67 = .ok (.putfield 47, 3) := by decide +kernel
theorem d_Mf_init_70 : decode prog_1_method_1_code 70 = .ok (.aload_n 0, 1) := by decide +kernel
theorem d_Mf_init_71 : decode prog_1_method_1_code 71 = .ok (.new 42, 3) := by decide +kernel
theorem d_Mf_init_74 : decode prog_1_method_1_code 74 = .ok (.dup, 1) := by decide +kernel
theorem d_Mf_init_75 : decode prog_1_method_1_code 75 = .ok (.bipush 24, 2) := by decide +kernel
theorem d_Mf_init_77 : decode prog_1_method_1_code 77 = .ok (.bipush 24, 2) := by decide +kernel
theorem d_Mf_init_79 : decode prog_1_method_1_code 79 = .ok (.invokespecial 44, 3) := by decide +kernel
theorem d_Mf_init_82 : decode prog_1_method_1_code 82 = .ok (.putfield 51, 3) := by decide +kernel
theorem d_Mf_init_85 : decode prog_1_method_1_code 85 = .ok (.aload_n 0, 1) := by decide +kernel
theorem d_Mf_init_86 : decode prog_1_method_1_code 86 = .ok (.new 42, 3) := by decide +kernel
theorem d_Mf_init_89 : decode prog_1_method_1_code 89 = .ok (.dup, 1) := by decide +kernel
theorem d_Mf_init_90 : decode prog_1_method_1_code 90 = .ok (.bipush 24, 2) := by decide +kernel
theorem d_Mf_init_92 : decode prog_1_method_1_code 92 = .ok (.bipush 24, 2) := by decide +kernel
theorem d_Mf_init_94 : decode prog_1_method_1_code 94 = .ok (.invokespecial 44, 3) := by decide +kernel
theorem d_Mf_init_97 : decode prog_1_method_1_code 97 = .ok (.putfield 54, 3) := by decide +kernel
theorem d_Mf_init_100 : decode prog_1_method_1_code 100 = .ok (.aload_n 0, 1) := by decide +kernel
theorem d_Mf_init_101 : decode prog_1_method_1_code 101 = .ok (.new 42, 3) := by decide +kernel
theorem d_Mf_init_104 : decode prog_1_method_1_code 104 = .ok (.dup, 1) := by decide +kernel
theorem d_Mf_init_105 : decode prog_1_method_1_code 105 = .ok (.bipush 24, 2) := by decide +kernel
theorem d_Mf_init_107 : decode prog_1_method_1_code 107 = .ok (.bipush 24, 2) := by decide +kernel
theorem d_Mf_init_109 : decode prog_1_method_1_code 109 = .ok (.invokespecial 44, 3) := by decide +kernel
theorem d_Mf_init_112 : decode prog_1_method_1_code 112 = .ok (.putfield 57, 3) := by decide +kernel
theorem d_Mf_init_115 : decode prog_1_method_1_code 115 = .ok (.aload_n 0, 1) := by decide +kernel
theorem d_Mf_init_116 : decode prog_1_method_1_code 116 = .ok (.iconst 0, 1) := by decide +kernel
theorem d_Mf_init_117 : decode prog_1_method_1_code 117 = .ok (.iconst 1, 1) := by decide +kernel
theorem d_Mf_init_118 : decode prog_1_method_1_code 118 = .ok (.invokestatic 60, 3) := by decide +kernel
theorem d_Mf_init_121 : decode prog_1_method_1_code 121 = .ok (.putfield 64, 3) := by decide +kernel
theorem d_Mf_init_124 : decode prog_1_method_1_code 124 = .ok (.aload_n 0, 1) := by decide +kernel
theorem d_Mf_init_125 : decode prog_1_method_1_code 125 = .ok (.iconst 4, 1) := by decide +kernel
theorem d_Mf_init_126 : decode prog_1_method_1_code 126 = .ok (.iconst 1, 1) := by decide +kernel
theorem d_Mf_init_127 : decode prog_1_method_1_code 127 = .ok (.invokestatic 60, 3) := by decide +kernel
theorem d_Mf_init_130 : decode prog_1_method_1_code 130 = .ok (.putfield 67, 3) := by decide +kernel
theorem d_Mf_init_133 : decode prog_1_method_1_code 133 = .ok (.aload_n 0, 1) := by decide +kernel
theorem d_Mf_init_134 : decode prog_1_method_1_code 134 = .ok (.iconst 1, 1) := by decide +kernel
theorem d_Mf_init_135 : decode prog_1_method_1_code 135 = .ok (.iconst 2, 1) := by decide +kernel
theorem d_Mf_init_136 : decode prog_1_method_1_code 136 = .ok (.invokestatic 60, 3) := by decide +kernel
theorem d_Mf_init_139 : decode prog_1_method_1_code 139 = .ok (.putfield 70, 3) := by decide +kernel
theorem d_Mf_init_142 : decode prog_1_method_1_code 142 = .ok (.aload_n 0, 1) := by decide +kernel
theorem d_Mf_init_143 : decode prog_1_method_1_code 143 = .ok (.iconst 1, 1) := by decide +kernel
theorem d_Mf_init_144 : decode prog_1_method_1_code 144 = .ok (.bipush 6, 2) := by decide +kernel
theorem d_Mf_init_146 : decode prog_1_method_1_code 146 = .ok (.invokestatic 60, 3) := by decide +kernel
theorem d_Mf_init_149 : decode prog_1_method_1_code 149 = .ok (.putfield 73, 3) := by decide +kernel
theorem d_Mf_init_152 : decode prog_1_method_1_code 152 = .ok (.iconst 0, 1) := by decide +kernel
theorem d_Mf_init_153 : decode prog_1_method_1_code 153 = .ok (.istore_n 1, 1) := by decide +kernel
theorem d_Mf_init_154 : decode prog_1_method_1_code 154 = .ok (.iload_n 1, 1) := by decide +kernel
theorem d_Mf_init_155 : decode prog_1_method_1_code 155 = .ok (.bipush 8, 2) := by decide +kernel
theorem d_Mf_init_157 : decode prog_1_method_1_code 157 = .ok (.if_icmp .ge 22, 3) := by decide +kernel
theorem d_Mf_init_160 : decode prog_1_method_1_code 160 = .ok (.aload_n 0, 1) := by decide +kernel
theorem d_Mf_init_161 : decode prog_1_method_1_code 161 = .ok (.getfield 21, 3) := by decide +kernel
theorem d_Mf_init_164 : decode prog_1_method_1_code 164 = .ok (.iload_n 1, 1) := by decide +kernel
theorem d_Mf_init_165 : decode prog_1_method_1_code 165 = .ok (.new 19, 3) := by decide +kernel
theorem d_Mf_init_168 : decode prog_1_method_1_code 168 = .ok (.dup, 1) := by decide +kernel
theorem d_Mf_init_169 : decode prog_1_method_1_code 169 = .ok (.invokespecial 76, 3) := by decide +kernel
theorem d_Mf_init_172 : decode prog_1_method_1_code 172 = .ok (.aastore, 1) := by decide +kernel
theorem d_Mf_init_173 : decode prog_1_method_1_code 173 = .ok (.iinc 1 1, 3) := by decide +kernel
theorem d_Mf_init_176 : decode prog_1_method_1_code 176 = .ok (.goto (-22), 3) := by decide +kernel
theorem d_Mf_init_179 : decode prog_1_method_1_code 179 = .ok (.return_, 1) := by decide +kernel
theorem d_Mf_value_0 : decode prog_1_method_2_code 0 = .ok (.lload_n 3, 1) := by decide +kernel
theorem d_Mf_value_1 : decode prog_1_method_2_code 1 = .ok (.lconst 0, 1) := by decide +kernel
theorem d_Mf_value_2 : decode prog_1_method_2_code 2 = .ok (.lcmp, 1) := by decide +kernel
theorem d_Mf_value_3 : decode prog_1_method_2_code 3 = .ok (.ifCond .ne 13, 3) := by decide +kernel
theorem d_Mf_value_6 : decode prog_1_method_2_code 6 = .ok (.new 77, 3) := by decide +kernel
theorem d_Mf_value_9 : decode prog_1_method_2_code 9 = .ok (.dup, 1) := by decide +kernel
theorem d_Mf_value_10 : decode prog_1_method_2_code 10 = .ok (.ldc 79, 2) := by decide +kernel
theorem d_Mf_value_12 : decode prog_1_method_2_code 12 = .ok (.invokespecial 81, 3) := by decide +kernel
theorem d_Mf_value_15 : decode prog_1_method_2_code 15 = .ok (.athrow, 1) := by decide +kernel
theorem d_Mf_value_16 : decode prog_1_method_2_code 16 = .ok (.iload 5, 2) := by decide +kernel
theorem d_Mf_value_18 : decode prog_1_method_2_code 18 = .ok (.invokestatic 84, 3) := by decide +kernel
theorem d_Mf_value_21 : decode prog_1_method_2_code 21 = .ok (.ifCond .ne 13, 3) := by decide +kernel
theorem d_Mf_value_24 : decode prog_1_method_2_code 24 = .ok (.new 88, 3) := by decide +kernel
theorem d_Mf_value_27 : decode prog_1_method_2_code 27 = .ok (.dup, 1) := by decide +kernel
theorem d_Mf_value_28 : decode prog_1_method_2_code 28 = .ok (.ldc 90, 2) := by decide +kernel
theorem d_Mf_value_30 : decode prog_1_method_2_code 30 = .ok (.invokespecial 92, 3) := by decide +kernel
theorem d_Mf_value_33 : decode prog_1_method_2_code 33 = .ok (.athrow, 1) := by decide +kernel
theorem d_Mf_value_34 : decode prog_1_method_2_code 34 = .ok (.aload_n 0, 1) := by decide +kernel
theorem d_Mf_value_35 : decode prog_1_method_2_code 35 = .ok (.invokevirtual 93, 3) := by decide +kernel
theorem d_Mf_value_38 : decode prog_1_method_2_code 38 = .ok (.ifCond .eq 6, 3) := by decide +kernel
theorem d_Mf_value_41 : decode prog_1_method_2_code 41 = .ok (.bipush (-3), 2) := by decide +kernel
theorem d_Mf_value_43 : decode prog_1_method_2_code 43 = .ok (.ireturn, 1) := by decide +kernel
theorem d_Mf_value_44 : decode prog_1_method_2_code 44 = .ok (.aload_n 0, 1) := by decide +kernel
theorem d_Mf_value_45 : decode prog_1_method_2_code 45 = .ok (.getfield 38, 3) := by decide +kernel
theorem d_Mf_value_48 : decode prog_1_method_2_code 48 = .ok (.aload_n 0, 1) := by decide +kernel
theorem d_Mf_value_49 : decode prog_1_method_2_code 49 = .ok (.getfield 47, 3) := by decide +kernel
theorem d_Mf_value_52 : decode prog_1_method_2_code 52 = .ok (.lload_n 1, 1) := by decide +kernel
theorem d_Mf_value_53 : decode prog_1_method_2_code 53 = .ok (.lload_n 3, 1) := by decide +kernel
theorem d_Mf_value_54 : decode prog_1_method_2_code 54 = .ok (.invokevirtual 97, 3) := by decide +kernel
theorem d_Mf_value_57 : decode prog_1_method_2_code 57 = .ok (.aload_n 0, 1) := by decide +kernel
theorem d_Mf_value_58 : decode prog_1_method_2_code 58 = .ok (.aload_n 0, 1) := by decide +kernel
theorem d_Mf_value_59 : decode prog_1_method_2_code 59 = .ok (.getfield 47, 3) := by decide +kernel
theorem d_Mf_value_62 : decode prog_1_method_2_code 62 = .ok (.iload 5, 2) := by decide +kernel
theorem d_Mf_value_64 : decode prog_1_method_2_code 64 = .ok (.invokevirtual 101, 3) := by decide +kernel
theorem d_Mf_value_67 : decode prog_1_method_2_code 67 = .ok (.ireturn, 1) := by decide +kernel
theorem d_Mf_add_0 : decode prog_1_method_3_code 0 = .ok (.aload_n 0, 1) := by decide +kernel
theorem d_Mf_add_1 : decode prog_1_method_3_code 1 = .ok (.iload_n 1, 1) := by decide +kernel
theorem d_Mf_add_2 : decode prog_1_method_3_code 2 = .ok (.invokevirtual 105, 3) := by decide +kernel
theorem d_Mf_add_5 : decode prog_1_method_3_code 5 = .ok (.astore 4, 2) := by decide +kernel
theorem d_Mf_add_7 : decode prog_1_method_3_code 7 = .ok (.aload_n 0, 1) := by decide +kernel
theorem d_Mf_add_8 : decode prog_1_method_3_code 8 = .ok (.iload_n 2, 1) := by decide +kernel
theorem d_Mf_add_9 : decode prog_1_method_3_code 9 = .ok (.invokevirtual 105, 3) := by decide +kernel
theorem d_Mf_add_12 : decode prog_1_method_3_code 12 = .ok (.astore 5, 2) := by decide +kernel
theorem d_Mf_add_14 : decode prog_1_method_3_code 14 = .ok (.aload 4, 2) := by decide +kernel
theorem d_Mf_add_16 : decode prog_1_method_3_code 16 = .ok (.getfield 109, 3) := by decide +kernel
theorem d_Mf_add_19 : decode prog_1_method_3_code 19 = .ok (.aload 5, 2) := by decide +kernel
theorem d_Mf_add_21 : decode prog_1_method_3_code 21 = .ok (.getfield 109, 3) := by decide +kernel
theorem d_Mf_add_24 : decode prog_1_method_3_code 24 = .ok (.if_icmp .eq 6, 3) := by decide +kernel
theorem d_Mf_add_27 : decode prog_1_method_3_code 27 = .ok (.bipush (-2), 2) := by decide +kernel
theorem d_Mf_add_29 : decode prog_1_method_3_code 29 = .ok (.ireturn, 1) := by decide +kernel
theorem d_Mf_add_30 : decode prog_1_method_3_code 30 = .ok (.aload_n 0, 1) := by decide +kernel
theorem d_Mf_add_31 : decode prog_1_method_3_code 31 = .ok (.invokevirtual 93, 3) := by decide +kernel
theorem d_Mf_add_34 : decode prog_1_method_3_code 34 = .ok (.ifCond .eq 6, 3) := by decide +kernel
theorem d_Mf_add_37 : decode prog_1_method_3_code 37 = .ok (.bipush (-3), 2) := by decide +kernel
theorem d_Mf_add_39 : decode prog_1_method_3_code 39 = .ok (.ireturn, 1) := by decide +kernel
theorem d_Mf_add_40 : decode prog_1_method_3_code 40 = .ok (.aload_n 0, 1) := by decide +kernel
theorem d_Mf_add_41 : decode prog_1_method_3_code 41 = .ok (.getfield 38, 3) := by decide +kernel
theorem d_Mf_add_44 : decode prog_1_method_3_code 44 = .ok (.aload_n 0, 1) := by decide +kernel
theorem d_Mf_add_45 : decode prog_1_method_3_code 45 = .ok (.getfield 47, 3) := by decide +kernel
theorem d_Mf_add_48 : decode prog_1_method_3_code 48 = .ok (.aload 4, 2) := by decide +kernel
theorem d_Mf_add_50 : decode prog_1_method_3_code 50 = .ok (.getfield 112, 3) := by decide +kernel
theorem d_Mf_add_53 : decode prog_1_method_3_code 53 = .ok (.aload 5, 2) := by decide +kernel
theorem d_Mf_add_55 : decode prog_1_method_3_code 55 = .ok (.getfield 112, 3) := by decide +kernel
theorem d_Mf_add_58 : decode prog_1_method_3_code 58 = .ok (.iload_n 3, 1) := by decide +kernel
theorem d_Mf_add_59 : decode prog_1_method_3_code 59 = .ok (.invokevirtual 115, 3) := by decide +kernel
theorem d_Mf_add_62 : decode prog_1_method_3_code 62 = .ok (.aload_n 0, 1) := by decide +kernel
theorem d_Mf_add_63 : decode prog_1_method_3_code 63 = .ok (.aload_n 0, 1) := by decide +kernel
theorem d_Mf_add_64 : decode prog_1_method_3_code 64 = .ok (.getfield 47, 3) := by decide +kernel
theorem d_Mf_add_67 : decode prog_1_method_3_code 67 = .ok (.aload 4, 2) := by decide +kernel
theorem d_Mf_add_69 : decode prog_1_method_3_code 69 = .ok (.getfield 109, 3) := by decide +kernel
theorem d_Mf_add_72 : decode prog_1_method_3_code 72 = .ok (.invokevirtual 101, 3) := by decide +kernel
theorem d_Mf_add_75 : decode prog_1_method_3_code 75 = .ok (.ireturn, 1) := by decide +kernel
theorem d_Mf_times_0 : decode prog_1_method_4_code 0 = .ok (.aload_n 0, 1) := by decide +kernel
theorem d_Mf_times_1 : decode prog_1_method_4_code 1 = .ok (.iload_n 1, 1) := by decide +kernel
theorem d_Mf_times_2 : decode prog_1_method_4_code 2 = .ok (.invokevirtual 105, 3) := by decide +kernel
theorem d_Mf_times_5 : decode prog_1_method_4_code 5 = .ok (.astore_n 3, 1) := by decide +kernel
theorem d_Mf_times_6 : decode prog_1_method_4_code 6 = .ok (.aload_n 0, 1) := by decide +kernel
theorem d_Mf_times_7 : decode prog_1_method_4_code 7 = .ok (.iload_n 2, 1) := by decide +kernel
theorem d_Mf_times_8 : decode prog_1_method_4_code 8 = .ok (.invokevirtual 105, 3) := by decide +kernel
theorem d_Mf_times_11 : decode prog_1_method_4_code 11 = .ok (.astore 4, 2) := by decide +kernel
theorem d_Mf_times_13 : decode prog_1_method_4_code 13 = .ok (.aload_n 3, 1) := by decide +kernel
theorem d_Mf_times_14 : decode prog_1_method_4_code 14 = .ok (.getfield 109, 3) := by decide +kernel
theorem d_Mf_times_17 : decode prog_1_method_4_code 17 = .ok (.aload 4, 2) := by decide +kernel
theorem d_Mf_times_19 : decode prog_1_method_4_code 19 = .ok (.getfield 109, 3) := by decide +kernel
theorem d_Mf_times_22 : decode prog_1_method_4_code 22 = .ok (.iadd, 1) := by decide +kernel
theorem d_Mf_times_23 : decode prog_1_method_4_code 23 = .ok (.istore 5, 2) := by decide +kernel
theorem d_Mf_times_25 : decode prog_1_method_4_code 25 = .ok (.iload 5, 2) := by decide +kernel
theorem d_Mf_times_27 : decode prog_1_method_4_code 27 = .ok (.invokestatic 84, 3) := by decide +kernel
theorem d_Mf_times_30 : decode prog_1_method_4_code 30 = .ok (.ifCond .ne 6, 3) := by decide +kernel
theorem d_Mf_times_33 : decode prog_1_method_4_code 33 = .ok (.bipush (-2), 2) := by decide +kernel
theorem d_Mf_times_35 : decode prog_1_method_4_code 35 = .ok (.ireturn, 1) := by decide +kernel
theorem d_Mf_times_36 : decode prog_1_method_4_code 36 = .ok (.aload_n 0, 1) := by decide +kernel
theorem d_Mf_times_37 : decode prog_1_method_4_code 37 = .ok (.invokevirtual 93, 3) := by decide +kernel
theorem d_Mf_times_40 : decode prog_1_method_4_code 40 = .ok (.ifCond .eq 6, 3) := by decide +kernel
theorem d_Mf_times_43 : decode prog_1_method_4_code 43 = .ok (.bipush (-3), 2) := by decide +kernel
theorem d_Mf_times_45 : decode prog_1_method_4_code 45 = .ok (.ireturn, 1) := by decide +kernel
theorem d_Mf_times_46 : decode prog_1_method_4_code 46 = .ok (.aload_n 0, 1) := by decide +kernel
theorem d_Mf_times_47 : decode prog_1_method_4_code 47 = .ok (.getfield 38, 3) := by decide +kernel
theorem d_Mf_times_50 : decode prog_1_method_4_code 50 = .ok (.aload_n 0, 1) := by decide +kernel
theorem d_Mf_times_51 : decode prog_1_method_4_code 51 = .ok (.getfield 47, 3) := by decide +kernel
theorem d_Mf_times_54 : decode prog_1_method_4_code 54 = .ok (.aload_n 3, 1) := by decide +kernel
theorem d_Mf_times_55 : decode prog_1_method_4_code 55 = .ok (.getfield 112, 3) := by decide +kernel
theorem d_Mf_times_58 : decode prog_1_method_4_code 58 = .ok (.aload 4, 2) := by decide +kernel
theorem d_Mf_times_60 : decode prog_1_method_4_code 60 = .ok (.getfield 112, 3) := by decide +kernel
theorem d_Mf_times_63 : decode prog_1_method_4_code 63 = .ok (.iconst 0, 1) := by decide +kernel
theorem d_Mf_times_64 : decode prog_1_method_4_code 64 = .ok (.invokevirtual 119, 3) := by decide +kernel
theorem d_Mf_times_67 : decode prog_1_method_4_code 67 = .ok (.aload_n 0, 1) := by decide +kernel
theorem d_Mf_times_68 : decode prog_1_method_4_code 68 = .ok (.aload_n 0, 1) := by decide +kernel
theorem d_Mf_times_69 : decode prog_1_method_4_code 69 = .ok (.getfield 47, 3) := by decide +kernel
theorem d_Mf_times_72 : decode prog_1_method_4_code 72 = .ok (.iload 5, 2) := by decide +kernel
theorem d_Mf_times_74 : decode prog_1_method_4_code 74 = .ok (.invokevirtual 101, 3) := by decide +kernel
theorem d_Mf_times_77 : decode prog_1_method_4_code 77 = .ok (.ireturn, 1) := by decide +kernel
theorem d_Mf_over_0 : decode prog_1_method_5_code 0 = .ok (.aload_n 0, 1) := by decide +kernel
theorem d_Mf_over_1 : decode prog_1_method_5_code 1 = .ok (.iload_n 1, 1) := by decide +kernel
theorem d_Mf_over_2 : decode prog_1_method_5_code 2 = .ok (.invokevirtual 105, 3) := by decide +kernel
theorem d_Mf_over_5 : decode prog_1_method_5_code 5 = .ok (.astore_n 3, 1) := by decide +kernel
theorem d_Mf_over_6 : decode prog_1_method_5_code 6 = .ok (.aload_n 0, 1) := by decide +kernel
theorem d_Mf_over_7 : decode prog_1_method_5_code 7 = .ok (.iload_n 2, 1) := by decide +kernel
theorem d_Mf_over_8 : decode prog_1_method_5_code 8 = .ok (.invokevirtual 105, 3) := by decide +kernel
theorem d_Mf_over_11 : decode prog_1_method_5_code 11 = .ok (.astore 4, 2) := by decide +kernel
theorem d_Mf_over_13 : decode prog_1_method_5_code 13 = .ok (.aload 4, 2) := by decide +kernel
theorem d_Mf_over_15 : decode prog_1_method_5_code 15 = .ok (.getfield 112, 3) := by decide +kernel
theorem d_Mf_over_18 : decode prog_1_method_5_code 18 = .ok (.getfield 122, 3) := by decide +kernel
theorem d_Mf_over_21 : decode prog_1_method_5_code 21 = .ok (.ifCond .ne 13, 3) := by decide +kernel
theorem d_Mf_over_24 : decode prog_1_method_5_code 24 = .ok (.new 77, 3) := by decide +kernel
theorem d_Mf_over_27 : decode prog_1_method_5_code 27 = .ok (.dup, 1) := by decide +kernel
theorem d_Mf_over_28 : decode prog_1_method_5_code 28 = .ok (.ldc 79, 2) := by decide +kernel
theorem d_Mf_over_30 : decode prog_1_method_5_code 30 = .ok (.invokespecial 81, 3) := by decide +kernel
theorem d_Mf_over_33 : decode prog_1_method_5_code 33 = .ok (.athrow, 1) := by decide +kernel
theorem d_Mf_over_34 : decode prog_1_method_5_code 34 = .ok (.aload_n 3, 1) := by decide +kernel
theorem d_Mf_over_35 : decode prog_1_method_5_code 35 = .ok (.getfield 109, 3) := by decide +kernel
theorem d_Mf_over_38 : decode prog_1_method_5_code 38 = .ok (.aload 4, 2) := by decide +kernel
theorem d_Mf_over_40 : decode prog_1_method_5_code 40 = .ok (.getfield 109, 3) := by decide +kernel
theorem d_Mf_over_43 : decode prog_1_method_5_code 43 = .ok (.isub, 1) := by decide +kernel
theorem d_Mf_over_44 : decode prog_1_method_5_code 44 = .ok (.istore 5, 2) := by decide +kernel
theorem d_Mf_over_46 : decode prog_1_method_5_code 46 = .ok (.iload 5, 2) := by decide +kernel
theorem d_Mf_over_48 : decode prog_1_method_5_code 48 = .ok (.invokestatic 84, 3) := by decide +kernel
theorem d_Mf_over_51 : decode prog_1_method_5_code 51 = .ok (.ifCond .ne 6, 3) := by decide +kernel
theorem d_Mf_over_54 : decode prog_1_method_5_code 54 = .ok (.bipush (-2), 2) := by decide +kernel
theorem d_Mf_over_56 : decode prog_1_method_5_code 56 = .ok (.ireturn, 1) := by decide +kernel
theorem d_Mf_over_57 : decode prog_1_method_5_code 57 = .ok (.aload_n 0, 1) := by decide +kernel
theorem d_Mf_over_58 : decode prog_1_method_5_code 58 = .ok (.invokevirtual 93, 3) := by decide +kernel
theorem d_Mf_over_61 : decode prog_1_method_5_code 61 = .ok (.ifCond .eq 6, 3) := by decide +kernel
theorem d_Mf_over_64 : decode prog_1_method_5_code 64 = .ok (.bipush (-3), 2) := by decide +kernel
theorem d_Mf_over_66 : decode prog_1_method_5_code 66 = .ok (.ireturn, 1) := by decide +kernel
theorem d_Mf_over_67 : decode prog_1_method_5_code 67 = .ok (.aload_n 0, 1) := by decide +kernel
theorem d_Mf_over_68 : decode prog_1_method_5_code 68 = .ok (.getfield 38, 3) := by decide +kernel
theorem d_Mf_over_71 : decode prog_1_method_5_code 71 = .ok (.aload_n 0, 1) := by decide +kernel
theorem d_Mf_over_72 : decode prog_1_method_5_code 72 = .ok (.getfield 47, 3) := by decide +kernel
theorem d_Mf_over_75 : decode prog_1_method_5_code 75 = .ok (.aload_n 3, 1) := by decide +kernel
theorem d_Mf_over_76 : decode prog_1_method_5_code 76 = .ok (.getfield 112, 3) := by decide +kernel
theorem d_Mf_over_79 : decode prog_1_method_5_code 79 = .ok (.aload 4, 2) := by decide +kernel
theorem d_Mf_over_81 : decode prog_1_method_5_code 81 = .ok (.getfield 112, 3) := by decide +kernel
theorem d_Mf_over_84 : decode prog_1_method_5_code 84 = .ok (.iconst 1, 1) := by decide +kernel
theorem d_Mf_over_85 : decode prog_1_method_5_code 85 = .ok (.invokevirtual 119, 3) := by decide +kernel
theorem d_Mf_over_88 : decode prog_1_method_5_code 88 = .ok (.aload_n 0, 1) := by decide +kernel
theorem d_Mf_over_89 : decode prog_1_method_5_code 89 = .ok (.aload_n 0, 1) := by decide +kernel
theorem d_Mf_over_90 : decode prog_1_method_5_code 90 = .ok (.getfield 47, 3) := by decide +kernel
theorem d_Mf_over_93 : decode prog_1_method_5_code 93 = .ok (.iload 5, 2) := by decide +kernel
theorem d_Mf_over_95 : decode prog_1_method_5_code 95 = .ok (.invokevirtual 101, 3) := by decide +kernel
theorem d_Mf_over_98 : decode prog_1_method_5_code 98 = .ok (.ireturn, 1) := by decide +kernel
theorem d_Mf_order_0 : decode prog_1_method_6_code 0 = .ok (.aload_n 0, 1) := by decide +kernel
theorem d_Mf_order_1 : decode prog_1_method_6_code 1 = .ok (.iload_n 1, 1) := by decide +kernel
theorem d_Mf_order_2 : decode prog_1_method_6_code 2 = .ok (.invokevirtual 105, 3) := by decide +kernel
theorem d_Mf_order_5 : decode prog_1_method_6_code 5 = .ok (.astore_n 3, 1) := by decide +kernel
theorem d_Mf_order_6 : decode prog_1_method_6_code 6 = .ok (.aload_n 0, 1) := by decide +kernel
theorem d_Mf_order_7 : decode prog_1_method_6_code 7 = .ok (.iload_n 2, 1) := by decide +kernel
theorem d_Mf_order_8 : decode prog_1_method_6_code 8 = .ok (.invokevirtual 105, 3) := by decide +kernel
theorem d_Mf_order_11 : decode prog_1_method_6_code 11 = .ok (.astore 4, 2) := by decide +kernel
theorem d_Mf_order_13 : decode prog_1_method_6_code 13 = .ok (.aload_n 3, 1) := by decide +kernel
theorem d_Mf_order_14 : decode prog_1_method_6_code 14 = .ok (.getfield 109, 3) := by decide +kernel
theorem d_Mf_order_17 : decode prog_1_method_6_code 17 = .ok (.aload 4, 2) := by decide +kernel
theorem d_Mf_order_19 : decode prog_1_method_6_code 19 = .ok (.getfield 109, 3) := by decide +kernel
theorem d_Mf_order_22 : decode prog_1_method_6_code 22 = .ok (.if_icmp .eq 6, 3) := by decide +kernel
theorem d_Mf_order_25 : decode prog_1_method_6_code 25 = .ok (.bipush (-2), 2) := by decide +kernel
theorem d_Mf_order_27 : decode prog_1_method_6_code 27 = .ok (.ireturn, 1) := by decide +kernel
theorem d_Mf_order_28 : decode prog_1_method_6_code 28 = .ok (.aload_n 0, 1) := by decide +kernel
theorem d_Mf_order_29 : decode prog_1_method_6_code 29 = .ok (.getfield 38, 3) := by decide +kernel
theorem d_Mf_order_32 : decode prog_1_method_6_code 32 = .ok (.aload_n 3, 1) := by decide +kernel
theorem d_Mf_order_33 : decode prog_1_method_6_code 33 = .ok (.getfield 112, 3) := by decide +kernel
theorem d_Mf_order_36 : decode prog_1_method_6_code 36 = .ok (.aload 4, 2) := by decide +kernel
theorem d_Mf_order_38 : decode prog_1_method_6_code 38 = .ok (.getfield 112, 3) := by decide +kernel
theorem d_Mf_order_41 : decode prog_1_method_6_code 41 = .ok (.invokevirtual 125, 3) := by decide +kernel
theorem d_Mf_order_44 : decode prog_1_method_6_code 44 = .ok (.ireturn, 1) := by decide +kernel
theorem d_Mf_round_0 : decode prog_1_method_7_code 0 = .ok (.aload_n 0, 1) := by decide +kernel
theorem d_Mf_round_1 : decode prog_1_method_7_code 1 = .ok (.iload_n 1, 1) := by decide +kernel
theorem d_Mf_round_2 : decode prog_1_method_7_code 2 = .ok (.invokevirtual 105, 3) := by decide +kernel
theorem d_Mf_round_5 : decode prog_1_method_7_code 5 = .ok (.astore 4, 2) := by decide +kernel
theorem d_Mf_round_7 : decode prog_1_method_7_code 7 = .ok (.iload_n 2, 1) := by decide +kernel
theorem d_Mf_round_8 : decode prog_1_method_7_code 8 = .ok (.ifCond .lt 8, 3) := by decide +kernel
theorem d_Mf_round_11 : decode prog_1_method_7_code 11 = .ok (.iload_n 2, 1) := by decide +kernel
theorem d_Mf_round_12 : decode prog_1_method_7_code 12 = .ok (.iconst 3, 1) := by decide +kernel
theorem d_Mf_round_13 : decode prog_1_method_7_code 13 = .ok (.if_icmp .le 13, 3) := by decide +kernel
theorem d_Mf_round_16 : decode prog_1_method_7_code 16 = .ok (.new 88, 3) := by decide +kernel
theorem d_Mf_round_19 : decode prog_1_method_7_code 19 = .ok (.dup, 1) := by decide +kernel
theorem d_Mf_round_20 : decode prog_1_method_7_code 20 = .ok (.ldc 129, 2) := by decide +kernel
theorem d_Mf_round_22 : decode prog_1_method_7_code 22 = .ok (.invokespecial 92, 3) := by decide +kernel
theorem d_Mf_round_25 : decode prog_1_method_7_code 25 = .ok (.athrow, 1) := by decide +kernel
theorem d_Mf_round_26 : decode prog_1_method_7_code 26 = .ok (.iload_n 3, 1) := by decide +kernel
theorem d_Mf_round_27 : decode prog_1_method_7_code 27 = .ok (.iconst 1, 1) := by decide +kernel
theorem d_Mf_round_28 : decode prog_1_method_7_code 28 = .ok (.if_icmp .lt 9, 3) := by decide +kernel
theorem d_Mf_round_31 : decode prog_1_method_7_code 31 = .ok (.iload_n 3, 1) := by decide +kernel
theorem d_Mf_round_32 : decode prog_1_method_7_code 32 = .ok (.ldc 131, 2) := by decide +kernel
theorem d_Mf_round_34 : decode prog_1_method_7_code 34 = .ok (.if_icmp .le 13, 3) := by decide +kernel
theorem d_Mf_round_37 : decode prog_1_method_7_code 37 = .ok (.new 88, 3) := by decide +kernel
theorem d_Mf_round_40 : decode prog_1_method_7_code 40 = .ok (.dup, 1) := by decide +kernel
theorem d_Mf_round_41 : decode prog_1_method_7_code 41 = .ok (.ldc 132, 2) := by decide +kernel
theorem d_Mf_round_43 : decode prog_1_method_7_code 43 = .ok (.invokespecial 92, 3) := by decide +kernel
theorem d_Mf_round_46 : decode prog_1_method_7_code 46 = .ok (.athrow, 1) := by decide +kernel
theorem d_Mf_round_47 : decode prog_1_method_7_code 47 = .ok (.aload_n 0, 1) := by decide +kernel
theorem d_Mf_round_48 : decode prog_1_method_7_code 48 = .ok (.invokevirtual 93, 3) := by decide +kernel
theorem d_Mf_round_51 : decode prog_1_method_7_code 51 = .ok (.ifCond .eq 6, 3) := by decide +kernel
theorem d_Mf_round_54 : decode prog_1_method_7_code 54 = .ok (.bipush (-3), 2) := by decide +kernel
theorem d_Mf_round_56 : decode prog_1_method_7_code 56 = .ok (.ireturn, 1) := by decide +kernel
theorem d_Mf_round_57 : decode prog_1_method_7_code 57 = .ok (.aload_n 0, 1) := by decide +kernel
theorem d_Mf_round_58 : decode prog_1_method_7_code 58 = .ok (.getfield 38, 3) := by decide +kernel
theorem d_Mf_round_61 : decode prog_1_method_7_code 61 = .ok (.aload_n 0, 1) := by decide +kernel
theorem d_Mf_round_62 : decode prog_1_method_7_code 62 = .ok (.getfield 47, 3) := by decide +kernel
theorem d_Mf_round_65 : decode prog_1_method_7_code 65 = .ok (.aload 4, 2) := by decide +kernel
theorem d_Mf_round_67 : decode prog_1_method_7_code 67 = .ok (.getfield 112, 3) := by decide +kernel
theorem d_Mf_round_70 : decode prog_1_method_7_code 70 = .ok (.iload_n 2, 1) := by decide +kernel
theorem d_Mf_round_71 : decode prog_1_method_7_code 71 = .ok (.iload_n 3, 1) := by decide +kernel
theorem d_Mf_round_72 : decode prog_1_method_7_code 72 = .ok (.invokevirtual 134, 3) := by decide +kernel
theorem d_Mf_round_75 : decode prog_1_method_7_code 75 = .ok (.aload_n 0, 1) := by decide +kernel
theorem d_Mf_round_76 : decode prog_1_method_7_code 76 = .ok (.aload_n 0, 1) := by decide +kernel
theorem d_Mf_round_77 : decode prog_1_method_7_code 77 = .ok (.getfield 47, 3) := by decide +kernel
theorem d_Mf_round_80 : decode prog_1_method_7_code 80 = .ok (.aload 4, 2) := by decide +kernel
theorem d_Mf_round_82 : decode prog_1_method_7_code 82 = .ok (.getfield 109, 3) := by decide +kernel
theorem d_Mf_round_85 : decode prog_1_method_7_code 85 = .ok (.invokevirtual 101, 3) := by decide +kernel
theorem d_Mf_round_88 : decode prog_1_method_7_code 88 = .ok (.ireturn, 1) := by decide +kernel
theorem d_Mf_prism_0 : decode prog_1_method_8_code 0 = .ok (.aload_n 0, 1) := by decide +kernel
theorem d_Mf_prism_1 : decode prog_1_method_8_code 1 = .ok (.iload_n 1, 1) := by decide +kernel
theorem d_Mf_prism_2 : decode prog_1_method_8_code 2 = .ok (.invokevirtual 105, 3) := by decide +kernel
theorem d_Mf_prism_5 : decode prog_1_method_8_code 5 = .ok (.astore 5, 2) := by decide +kernel
theorem d_Mf_prism_7 : decode prog_1_method_8_code 7 = .ok (.aload_n 0, 1) := by decide +kernel
theorem d_Mf_prism_8 : decode prog_1_method_8_code 8 = .ok (.iload_n 2, 1) := by decide +kernel
theorem d_Mf_prism_9 : decode prog_1_method_8_code 9 = .ok (.invokevirtual 105, 3) := by decide +kernel
theorem d_Mf_prism_12 : decode prog_1_method_8_code 12 = .ok (.astore 6, 2) := by decide +kernel
theorem d_Mf_prism_14 : decode prog_1_method_8_code 14 = .ok (.aload_n 0, 1) := by decide +kernel
theorem d_Mf_prism_15 : decode prog_1_method_8_code 15 = .ok (.iload_n 3, 1) := by decide +kernel
theorem d_Mf_prism_16 : decode prog_1_method_8_code 16 = .ok (.invokevirtual 105, 3) := by decide +kernel
theorem d_Mf_prism_19 : decode prog_1_method_8_code 19 = .ok (.astore 7, 2) := by decide +kernel
theorem d_Mf_prism_21 : decode prog_1_method_8_code 21 = .ok (.aload_n 0, 1) := by decide +kernel
theorem d_Mf_prism_22 : decode prog_1_method_8_code 22 = .ok (.iload 4, 2) := by decide +kernel
theorem d_Mf_prism_24 : decode prog_1_method_8_code 24 = .ok (.invokevirtual 105, 3) := by decide +kernel
theorem d_Mf_prism_27 : decode prog_1_method_8_code 27 = .ok (.astore 8, 2) := by decide +kernel
theorem d_Mf_prism_29 : decode prog_1_method_8_code 29 = .ok (.aload 5, 2) := by decide +kernel
theorem d_Mf_prism_31 : decode prog_1_method_8_code 31 = .ok (.getfield 109, 3) := by decide +kernel
theorem d_Mf_prism_34 : decode prog_1_method_8_code 34 = .ok (.aload 8, 2) := by decide +kernel
theorem d_Mf_prism_36 : decode prog_1_method_8_code 36 = .ok (.getfield 109, 3) := by decide +kernel
theorem d_Mf_prism_39 : decode prog_1_method_8_code 39 = .ok (.iadd, 1) := by decide +kernel
theorem d_Mf_prism_40 : decode prog_1_method_8_code 40 = .ok (.istore 9, 2) := by decide +kernel
theorem d_Mf_prism_42 : decode prog_1_method_8_code 42 = .ok (.aload 5, 2) := by decide +kernel
theorem d_Mf_prism_44 : decode prog_1_method_8_code 44 = .ok (.getfield 109, 3) := by decide +kernel
theorem d_Mf_prism_47 : decode prog_1_method_8_code 47 = .ok (.aload 6, 2) := by decide +kernel
theorem d_Mf_prism_49 : decode prog_1_method_8_code 49 = .ok (.getfield 109, 3) := by decide +kernel
theorem d_Mf_prism_52 : decode prog_1_method_8_code 52 = .ok (.if_icmp .ne 24, 3) := by decide +kernel
theorem d_Mf_prism_55 : decode prog_1_method_8_code 55 = .ok (.aload 5, 2) := by decide +kernel
theorem d_Mf_prism_57 : decode prog_1_method_8_code 57 = .ok (.getfield 109, 3) := by decide +kernel
theorem d_Mf_prism_60 : decode prog_1_method_8_code 60 = .ok (.aload 7, 2) := by decide +kernel
theorem d_Mf_prism_62 : decode prog_1_method_8_code 62 = .ok (.getfield 109, 3) := by decide +kernel
theorem d_Mf_prism_65 : decode prog_1_method_8_code 65 = .ok (.if_icmp .ne 11, 3) := by decide +kernel
theorem d_Mf_prism_68 : decode prog_1_method_8_code 68 = .ok (.iload 9, 2) := by decide +kernel
theorem d_Mf_prism_70 : decode prog_1_method_8_code 70 = .ok (.invokestatic 84, 3) := by decide +kernel
theorem d_Mf_prism_73 : decode prog_1_method_8_code 73 = .ok (.ifCond .ne 6, 3) := by decide +kernel
theorem d_Mf_prism_76 : decode prog_1_method_8_code 76 = .ok (.bipush (-2), 2) := by decide +kernel
theorem d_Mf_prism_78 : decode prog_1_method_8_code 78 = .ok (.ireturn, 1) := by decide +kernel
theorem d_Mf_prism_79 : decode prog_1_method_8_code 79 = .ok (.aload_n 0, 1) := by decide +kernel
theorem d_Mf_prism_80 : decode prog_1_method_8_code 80 = .ok (.invokevirtual 93, 3) := by decide +kernel
theorem d_Mf_prism_83 : decode prog_1_method_8_code 83 = .ok (.ifCond .eq 6, 3) := by decide +kernel
theorem d_Mf_prism_86 : decode prog_1_method_8_code 86 = .ok (.bipush (-3), 2) := by decide +kernel
theorem d_Mf_prism_88 : decode prog_1_method_8_code 88 = .ok (.ireturn, 1) := by decide +kernel
theorem d_Mf_prism_89 : decode prog_1_method_8_code 89 = .ok (.aload_n 0, 1) := by decide +kernel
theorem d_Mf_prism_90 : decode prog_1_method_8_code 90 = .ok (.getfield 38, 3) := by decide +kernel
theorem d_Mf_prism_93 : decode prog_1_method_8_code 93 = .ok (.aload_n 0, 1) := by decide +kernel
theorem d_Mf_prism_94 : decode prog_1_method_8_code 94 = .ok (.getfield 47, 3) := by decide +kernel
theorem d_Mf_prism_97 : decode prog_1_method_8_code 97 = .ok (.aload 6, 2) := by decide +kernel
theorem d_Mf_prism_99 : decode prog_1_method_8_code 99 = .ok (.getfield 112, 3) := by decide +kernel
theorem d_Mf_prism_102 : decode prog_1_method_8_code 102 = .ok (.aload_n 0, 1) := by decide +kernel
theorem d_Mf_prism_103 : decode prog_1_method_8_code 103 = .ok (.getfield 67, 3) := by decide +kernel
theorem d_Mf_prism_106 : decode prog_1_method_8_code 106 = .ok (.iconst 0, 1) := by decide +kernel
theorem d_Mf_prism_107 : decode prog_1_method_8_code 107 = .ok (.invokevirtual 119, 3) := by decide +kernel
theorem d_Mf_prism_110 : decode prog_1_method_8_code 110 = .ok (.aload_n 0, 1) := by decide +kernel
theorem d_Mf_prism_111 : decode prog_1_method_8_code 111 = .ok (.getfield 38, 3) := by decide +kernel
theorem d_Mf_prism_114 : decode prog_1_method_8_code 114 = .ok (.aload_n 0, 1) := by decide +kernel
theorem d_Mf_prism_115 : decode prog_1_method_8_code 115 = .ok (.getfield 51, 3) := by decide +kernel
theorem d_Mf_prism_118 : decode prog_1_method_8_code 118 = .ok (.aload 5, 2) := by decide +kernel
theorem d_Mf_prism_120 : decode prog_1_method_8_code 120 = .ok (.getfield 112, 3) := by decide +kernel
theorem d_Mf_prism_123 : decode prog_1_method_8_code 123 = .ok (.aload_n 0, 1) := by decide +kernel
theorem d_Mf_prism_124 : decode prog_1_method_8_code 124 = .ok (.getfield 47, 3) := by decide +kernel
theorem d_Mf_prism_127 : decode prog_1_method_8_code 127 = .ok (.iconst 0, 1) := by decide +kernel
theorem d_Mf_prism_128 : decode prog_1_method_8_code 128 = .ok (.invokevirtual 115, 3) := by decide +kernel
theorem d_Mf_prism_131 : decode prog_1_method_8_code 131 = .ok (.aload_n 0, 1) := by decide +kernel
theorem d_Mf_prism_132 : decode prog_1_method_8_code 132 = .ok (.getfield 38, 3) := by decide +kernel
theorem d_Mf_prism_135 : decode prog_1_method_8_code 135 = .ok (.aload_n 0, 1) := by decide +kernel
theorem d_Mf_prism_136 : decode prog_1_method_8_code 136 = .ok (.getfield 47, 3) := by decide +kernel
theorem d_Mf_prism_139 : decode prog_1_method_8_code 139 = .ok (.aload_n 0, 1) := by decide +kernel
theorem d_Mf_prism_140 : decode prog_1_method_8_code 140 = .ok (.getfield 51, 3) := by decide +kernel
theorem d_Mf_prism_143 : decode prog_1_method_8_code 143 = .ok (.aload 7, 2) := by decide +kernel
theorem d_Mf_prism_145 : decode prog_1_method_8_code 145 = .ok (.getfield 112, 3) := by decide +kernel
theorem d_Mf_prism_148 : decode prog_1_method_8_code 148 = .ok (.iconst 0, 1) := by decide +kernel
theorem d_Mf_prism_149 : decode prog_1_method_8_code 149 = .ok (.invokevirtual 115, 3) := by decide +kernel
theorem d_Mf_prism_152 : decode prog_1_method_8_code 152 = .ok (.aload_n 0, 1) := by decide +kernel
theorem d_Mf_prism_153 : decode prog_1_method_8_code 153 = .ok (.getfield 38, 3) := by decide +kernel
theorem d_Mf_prism_156 : decode prog_1_method_8_code 156 = .ok (.aload_n 0, 1) := by decide +kernel
theorem d_Mf_prism_157 : decode prog_1_method_8_code 157 = .ok (.getfield 51, 3) := by decide +kernel
theorem d_Mf_prism_160 : decode prog_1_method_8_code 160 = .ok (.aload_n 0, 1) := by decide +kernel
theorem d_Mf_prism_161 : decode prog_1_method_8_code 161 = .ok (.getfield 47, 3) := by decide +kernel
theorem d_Mf_prism_164 : decode prog_1_method_8_code 164 = .ok (.aload 8, 2) := by decide +kernel
theorem d_Mf_prism_166 : decode prog_1_method_8_code 166 = .ok (.getfield 112, 3) := by decide +kernel
theorem d_Mf_prism_169 : decode prog_1_method_8_code 169 = .ok (.iconst 0, 1) := by decide +kernel
theorem d_Mf_prism_170 : decode prog_1_method_8_code 170 = .ok (.invokevirtual 119, 3) := by decide +kernel
theorem d_Mf_prism_173 : decode prog_1_method_8_code 173 = .ok (.aload_n 0, 1) := by decide +kernel
theorem d_Mf_prism_174 : decode prog_1_method_8_code 174 = .ok (.getfield 38, 3) := by decide +kernel
theorem d_Mf_prism_177 : decode prog_1_method_8_code 177 = .ok (.aload_n 0, 1) := by decide +kernel
theorem d_Mf_prism_178 : decode prog_1_method_8_code 178 = .ok (.getfield 47, 3) := by decide +kernel
theorem d_Mf_prism_181 : decode prog_1_method_8_code 181 = .ok (.aload_n 0, 1) := by decide +kernel
theorem d_Mf_prism_182 : decode prog_1_method_8_code 182 = .ok (.getfield 51, 3) := by decide +kernel
theorem d_Mf_prism_185 : decode prog_1_method_8_code 185 = .ok (.aload_n 0, 1) := by decide +kernel
theorem d_Mf_prism_186 : decode prog_1_method_8_code 186 = .ok (.getfield 73, 3) := by decide +kernel
theorem d_Mf_prism_189 : decode prog_1_method_8_code 189 = .ok (.iconst 0, 1) := by decide +kernel
theorem d_Mf_prism_190 : decode prog_1_method_8_code 190 = .ok (.invokevirtual 119, 3) := by decide +kernel
theorem d_Mf_prism_193 : decode prog_1_method_8_code 193 = .ok (.aload_n 0, 1) := by decide +kernel
theorem d_Mf_prism_194 : decode prog_1_method_8_code 194 = .ok (.aload_n 0, 1) := by decide +kernel
theorem d_Mf_prism_195 : decode prog_1_method_8_code 195 = .ok (.getfield 47, 3) := by decide +kernel
theorem d_Mf_prism_198 : decode prog_1_method_8_code 198 = .ok (.iload 9, 2) := by decide +kernel
theorem d_Mf_prism_200 : decode prog_1_method_8_code 200 = .ok (.invokevirtual 101, 3) := by decide +kernel
theorem d_Mf_prism_203 : decode prog_1_method_8_code 203 = .ok (.ireturn, 1) := by decide +kernel
theorem d_Mf_told_0 : decode prog_1_method_9_code 0 = .ok (.aload_n 0, 1) := by decide +kernel
theorem d_Mf_told_1 : decode prog_1_method_9_code 1 = .ok (.iload_n 1, 1) := by decide +kernel
theorem d_Mf_told_2 : decode prog_1_method_9_code 2 = .ok (.invokevirtual 105, 3) := by decide +kernel
theorem d_Mf_told_5 : decode prog_1_method_9_code 5 = .ok (.astore_n 3, 1) := by decide +kernel
theorem d_Mf_told_6 : decode prog_1_method_9_code 6 = .ok (.iload_n 2, 1) := by decide +kernel
theorem d_Mf_told_7 : decode prog_1_method_9_code 7 = .ok (.tableswitch 64 0 3 #[29, 37, 48, 59], 29) := by decide +kernel
theorem d_Mf_told_36 : decode prog_1_method_9_code 36 = .ok (.aload_n 3, 1) := by decide +kernel
theorem d_Mf_told_37 : decode prog_1_method_9_code 37 = .ok (.getfield 112, 3) := by decide +kernel
theorem d_Mf_told_40 : decode prog_1_method_9_code 40 = .ok (.getfield 122, 3) := by decide +kernel
theorem d_Mf_told_43 : decode prog_1_method_9_code 43 = .ok (.ireturn, 1) := by decide +kernel
theorem d_Mf_told_44 : decode prog_1_method_9_code 44 = .ok (.aload_n 3, 1) := by decide +kernel
theorem d_Mf_told_45 : decode prog_1_method_9_code 45 = .ok (.getfield 112, 3) := by decide +kernel
theorem d_Mf_told_48 : decode prog_1_method_9_code 48 = .ok (.getfield 138, 3) := by decide +kernel
theorem d_Mf_told_51 : decode prog_1_method_9_code 51 = .ok (.invokevirtual 142, 3) := by decide +kernel
theorem d_Mf_told_54 : decode prog_1_method_9_code 54 = .ok (.ireturn, 1) := by decide +kernel
theorem d_Mf_told_55 : decode prog_1_method_9_code 55 = .ok (.aload_n 3, 1) := by decide +kernel
theorem d_Mf_told_56 : decode prog_1_method_9_code 56 = .ok (.getfield 112, 3) := by decide +kernel
theorem d_Mf_told_59 : decode prog_1_method_9_code 59 = .ok (.getfield 148, 3) := by decide +kernel
theorem d_Mf_told_62 : decode prog_1_method_9_code 62 = .ok (.invokevirtual 142, 3) := by decide +kernel
theorem d_Mf_told_65 : decode prog_1_method_9_code 65 = .ok (.ireturn, 1) := by decide +kernel
theorem d_Mf_told_66 : decode prog_1_method_9_code 66 = .ok (.aload_n 3, 1) := by decide +kernel
theorem d_Mf_told_67 : decode prog_1_method_9_code 67 = .ok (.getfield 109, 3) := by decide +kernel
theorem d_Mf_told_70 : decode prog_1_method_9_code 70 = .ok (.ireturn, 1) := by decide +kernel
theorem d_Mf_told_71 : decode prog_1_method_9_code 71 = .ok (.new 88, 3) := by decide +kernel
theorem d_Mf_told_74 : decode prog_1_method_9_code 74 = .ok (.dup, 1) := by decide +kernel
theorem d_Mf_told_75 : decode prog_1_method_9_code 75 = .ok (.ldc 151, 2) := by decide +kernel
theorem d_Mf_told_77 : decode prog_1_method_9_code 77 = .ok (.invokespecial 92, 3) := by decide +kernel
theorem d_Mf_told_80 : decode prog_1_method_9_code 80 = .ok (.athrow, 1) := by decide +kernel
theorem d_Mf_digit_0 : decode prog_1_method_10_code 0 = .ok (.aload_n 0, 1) := by decide +kernel
theorem d_Mf_digit_1 : decode prog_1_method_10_code 1 = .ok (.iload_n 1, 1) := by decide +kernel
theorem d_Mf_digit_2 : decode prog_1_method_10_code 2 = .ok (.invokevirtual 105, 3) := by decide +kernel
theorem d_Mf_digit_5 : decode prog_1_method_10_code 5 = .ok (.astore 4, 2) := by decide +kernel
theorem d_Mf_digit_7 : decode prog_1_method_10_code 7 = .ok (.iload_n 3, 1) := by decide +kernel
theorem d_Mf_digit_8 : decode prog_1_method_10_code 8 = .ok (.ifCond .ge 13, 3) := by decide +kernel
theorem d_Mf_digit_11 : decode prog_1_method_10_code 11 = .ok (.new 153, 3) := by decide +kernel
theorem d_Mf_digit_14 : decode prog_1_method_10_code 14 = .ok (.dup, 1) := by decide +kernel
theorem d_Mf_digit_15 : decode prog_1_method_10_code 15 = .ok (.ldc 155, 2) := by decide +kernel
theorem d_Mf_digit_17 : decode prog_1_method_10_code 17 = .ok (.invokespecial 157, 3) := by decide +kernel
theorem d_Mf_digit_20 : decode prog_1_method_10_code 20 = .ok (.athrow, 1) := by decide +kernel
theorem d_Mf_digit_21 : decode prog_1_method_10_code 21 = .ok (.iload_n 2, 1) := by decide +kernel
theorem d_Mf_digit_22 : decode prog_1_method_10_code 22 = .ok (.ifCond .eq 18, 3) := by decide +kernel
theorem d_Mf_digit_25 : decode prog_1_method_10_code 25 = .ok (.iload_n 2, 1) := by decide +kernel
theorem d_Mf_digit_26 : decode prog_1_method_10_code 26 = .ok (.iconst 1, 1) := by decide +kernel
theorem d_Mf_digit_27 : decode prog_1_method_10_code 27 = .ok (.if_icmp .eq 13, 3) := by decide +kernel
theorem d_Mf_digit_30 : decode prog_1_method_10_code 30 = .ok (.new 88, 3) := by decide +kernel
theorem d_Mf_digit_33 : decode prog_1_method_10_code 33 = .ok (.dup, 1) := by decide +kernel
theorem d_Mf_digit_34 : decode prog_1_method_10_code 34 = .ok (.ldc 158, 2) := by decide +kernel
theorem d_Mf_digit_36 : decode prog_1_method_10_code 36 = .ok (.invokespecial 92, 3) := by decide +kernel
theorem d_Mf_digit_39 : decode prog_1_method_10_code 39 = .ok (.athrow, 1) := by decide +kernel
theorem d_Mf_digit_40 : decode prog_1_method_10_code 40 = .ok (.iload_n 2, 1) := by decide +kernel
theorem d_Mf_digit_41 : decode prog_1_method_10_code 41 = .ok (.ifCond .ne 14, 3) := by decide +kernel
theorem d_Mf_digit_44 : decode prog_1_method_10_code 44 = .ok (.aload 4, 2) := by decide +kernel
theorem d_Mf_digit_46 : decode prog_1_method_10_code 46 = .ok (.getfield 112, 3) := by decide +kernel
theorem d_Mf_digit_49 : decode prog_1_method_10_code 49 = .ok (.getfield 138, 3) := by decide +kernel
theorem d_Mf_digit_52 : decode prog_1_method_10_code 52 = .ok (.goto 11, 3) := by decide +kernel
theorem d_Mf_digit_55 : decode prog_1_method_10_code 55 = .ok (.aload 4, 2) := by decide +kernel
theorem d_Mf_digit_57 : decode prog_1_method_10_code 57 = .ok (.getfield 112, 3) := by decide +kernel
theorem d_Mf_digit_60 : decode prog_1_method_10_code 60 = .ok (.getfield 148, 3) := by decide +kernel
theorem d_Mf_digit_63 : decode prog_1_method_10_code 63 = .ok (.astore 5, 2) := by decide +kernel
theorem d_Mf_digit_65 : decode prog_1_method_10_code 65 = .ok (.iload_n 3, 1) := by decide +kernel
theorem d_Mf_digit_66 : decode prog_1_method_10_code 66 = .ok (.aload 5, 2) := by decide +kernel
theorem d_Mf_digit_68 : decode prog_1_method_10_code 68 = .ok (.invokevirtual 142, 3) := by decide +kernel
theorem d_Mf_digit_71 : decode prog_1_method_10_code 71 = .ok (.if_icmp .lt 13, 3) := by decide +kernel
theorem d_Mf_digit_74 : decode prog_1_method_10_code 74 = .ok (.new 153, 3) := by decide +kernel
theorem d_Mf_digit_77 : decode prog_1_method_10_code 77 = .ok (.dup, 1) := by decide +kernel
theorem d_Mf_digit_78 : decode prog_1_method_10_code 78 = .ok (.ldc 155, 2) := by decide +kernel
theorem d_Mf_digit_80 : decode prog_1_method_10_code 80 = .ok (.invokespecial 157, 3) := by decide +kernel
theorem d_Mf_digit_83 : decode prog_1_method_10_code 83 = .ok (.athrow, 1) := by decide +kernel
theorem d_Mf_digit_84 : decode prog_1_method_10_code 84 = .ok (.aload 5, 2) := by decide +kernel
theorem d_Mf_digit_86 : decode prog_1_method_10_code 86 = .ok (.iload_n 3, 1) := by decide +kernel
theorem d_Mf_digit_87 : decode prog_1_method_10_code 87 = .ok (.invokevirtual 160, 3) := by decide +kernel
theorem d_Mf_digit_90 : decode prog_1_method_10_code 90 = .ok (.ireturn, 1) := by decide +kernel
theorem d_Mf_clear_0 : decode prog_1_method_11_code 0 = .ok (.aload_n 0, 1) := by decide +kernel
theorem d_Mf_clear_1 : decode prog_1_method_11_code 1 = .ok (.getfield 15, 3) := by decide +kernel
theorem d_Mf_clear_4 : decode prog_1_method_11_code 4 = .ok (.istore_n 1, 1) := by decide +kernel
theorem d_Mf_clear_5 : decode prog_1_method_11_code 5 = .ok (.aload_n 0, 1) := by decide +kernel
theorem d_Mf_clear_6 : decode prog_1_method_11_code 6 = .ok (.iconst 0, 1) := by decide +kernel
theorem d_Mf_clear_7 : decode prog_1_method_11_code 7 = .ok (.putfield 15, 3) := by decide +kernel
theorem d_Mf_clear_10 : decode prog_1_method_11_code 10 = .ok (.aload_n 0, 1) := by decide +kernel
theorem d_Mf_clear_11 : decode prog_1_method_11_code 11 = .ok (.iconst 0, 1) := by decide +kernel
theorem d_Mf_clear_12 : decode prog_1_method_11_code 12 = .ok (.putfield 25, 3) := by decide +kernel
theorem d_Mf_clear_15 : decode prog_1_method_11_code 15 = .ok (.iload_n 1, 1) := by decide +kernel
theorem d_Mf_clear_16 : decode prog_1_method_11_code 16 = .ok (.ireturn, 1) := by decide +kernel
theorem d_Mf_row_0 : decode prog_1_method_12_code 0 = .ok (.aload_n 0, 1) := by decide +kernel
theorem d_Mf_row_1 : decode prog_1_method_12_code 1 = .ok (.getfield 25, 3) := by decide +kernel
theorem d_Mf_row_4 : decode prog_1_method_12_code 4 = .ok (.bipush 8, 2) := by decide +kernel
theorem d_Mf_row_6 : decode prog_1_method_12_code 6 = .ok (.if_icmp .lt 6, 3) := by decide +kernel
theorem d_Mf_row_9 : decode prog_1_method_12_code 9 = .ok (.bipush (-3), 2) := by decide +kernel
theorem d_Mf_row_11 : decode prog_1_method_12_code 11 = .ok (.ireturn, 1) := by decide +kernel
theorem d_Mf_row_12 : decode prog_1_method_12_code 12 = .ok (.aload_n 0, 1) := by decide +kernel
theorem d_Mf_row_13 : decode prog_1_method_12_code 13 = .ok (.getfield 21, 3) := by decide +kernel
theorem d_Mf_row_16 : decode prog_1_method_12_code 16 = .ok (.aload_n 0, 1) := by decide +kernel
theorem d_Mf_row_17 : decode prog_1_method_12_code 17 = .ok (.getfield 25, 3) := by decide +kernel
theorem d_Mf_row_20 : decode prog_1_method_12_code 20 = .ok (.aaload, 1) := by decide +kernel
theorem d_Mf_row_21 : decode prog_1_method_12_code 21 = .ok (.iconst 0, 1) := by decide +kernel
theorem d_Mf_row_22 : decode prog_1_method_12_code 22 = .ok (.putfield 164, 3) := by decide +kernel
theorem d_Mf_row_25 : decode prog_1_method_12_code 25 = .ok (.aload_n 0, 1) := by decide +kernel
theorem d_Mf_row_26 : decode prog_1_method_12_code 26 = .ok (.dup, 1) := by decide +kernel
theorem d_Mf_row_27 : decode prog_1_method_12_code 27 = .ok (.getfield 25, 3) := by decide +kernel
theorem d_Mf_row_30 : decode prog_1_method_12_code 30 = .ok (.iconst 1, 1) := by decide +kernel
theorem d_Mf_row_31 : decode prog_1_method_12_code 31 = .ok (.iadd, 1) := by decide +kernel
theorem d_Mf_row_32 : decode prog_1_method_12_code 32 = .ok (.putfield 25, 3) := by decide +kernel
theorem d_Mf_row_35 : decode prog_1_method_12_code 35 = .ok (.aload_n 0, 1) := by decide +kernel
theorem d_Mf_row_36 : decode prog_1_method_12_code 36 = .ok (.getfield 25, 3) := by decide +kernel
theorem d_Mf_row_39 : decode prog_1_method_12_code 39 = .ok (.iconst 1, 1) := by decide +kernel
theorem d_Mf_row_40 : decode prog_1_method_12_code 40 = .ok (.isub, 1) := by decide +kernel
theorem d_Mf_row_41 : decode prog_1_method_12_code 41 = .ok (.ireturn, 1) := by decide +kernel
theorem d_Mf_corner_0 : decode prog_1_method_13_code 0 = .ok (.aload_n 0, 1) := by decide +kernel
theorem d_Mf_corner_1 : decode prog_1_method_13_code 1 = .ok (.iload_n 1, 1) := by decide +kernel
theorem d_Mf_corner_2 : decode prog_1_method_13_code 2 = .ok (.invokevirtual 167, 3) := by decide +kernel
theorem d_Mf_corner_5 : decode prog_1_method_13_code 5 = .ok (.astore 4, 2) := by decide +kernel
theorem d_Mf_corner_7 : decode prog_1_method_13_code 7 = .ok (.aload_n 0, 1) := by decide +kernel
theorem d_Mf_corner_8 : decode prog_1_method_13_code 8 = .ok (.iload_n 2, 1) := by decide +kernel
theorem d_Mf_corner_9 : decode prog_1_method_13_code 9 = .ok (.invokevirtual 105, 3) := by decide +kernel
theorem d_Mf_corner_12 : decode prog_1_method_13_code 12 = .ok (.astore 5, 2) := by decide +kernel
theorem d_Mf_corner_14 : decode prog_1_method_13_code 14 = .ok (.aload_n 0, 1) := by decide +kernel
theorem d_Mf_corner_15 : decode prog_1_method_13_code 15 = .ok (.iload_n 3, 1) := by decide +kernel
theorem d_Mf_corner_16 : decode prog_1_method_13_code 16 = .ok (.invokevirtual 105, 3) := by decide +kernel
theorem d_Mf_corner_19 : decode prog_1_method_13_code 19 = .ok (.astore 6, 2) := by decide +kernel
theorem d_Mf_corner_21 : decode prog_1_method_13_code 21 = .ok (.aload 4, 2) := by decide +kernel
theorem d_Mf_corner_23 : decode prog_1_method_13_code 23 = .ok (.getfield 164, 3) := by decide +kernel
theorem d_Mf_corner_26 : decode prog_1_method_13_code 26 = .ok (.ifCond .le 95, 3) := by decide +kernel
theorem d_Mf_corner_29 : decode prog_1_method_13_code 29 = .ok (.aload 4, 2) := by decide +kernel
theorem d_Mf_corner_31 : decode prog_1_method_13_code 31 = .ok (.getfield 164, 3) := by decide +kernel
theorem d_Mf_corner_34 : decode prog_1_method_13_code 34 = .ok (.iconst 1, 1) := by decide +kernel
theorem d_Mf_corner_35 : decode prog_1_method_13_code 35 = .ok (.isub, 1) := by decide +kernel
theorem d_Mf_corner_36 : decode prog_1_method_13_code 36 = .ok (.istore 7, 2) := by decide +kernel
theorem d_Mf_corner_38 : decode prog_1_method_13_code 38 = .ok (.aload 5, 2) := by decide +kernel
theorem d_Mf_corner_40 : decode prog_1_method_13_code 40 = .ok (.getfield 109, 3) := by decide +kernel
theorem d_Mf_corner_43 : decode prog_1_method_13_code 43 = .ok (.aload 4, 2) := by decide +kernel
theorem d_Mf_corner_45 : decode prog_1_method_13_code 45 = .ok (.getfield 171, 3) := by decide +kernel
theorem d_Mf_corner_48 : decode prog_1_method_13_code 48 = .ok (.iload 7, 2) := by decide +kernel
theorem d_Mf_corner_50 : decode prog_1_method_13_code 50 = .ok (.aaload, 1) := by decide +kernel
theorem d_Mf_corner_51 : decode prog_1_method_13_code 51 = .ok (.getfield 109, 3) := by decide +kernel
theorem d_Mf_corner_54 : decode prog_1_method_13_code 54 = .ok (.if_icmp .ne 22, 3) := by decide +kernel
theorem d_Mf_corner_57 : decode prog_1_method_13_code 57 = .ok (.aload 6, 2) := by decide +kernel
theorem d_Mf_corner_59 : decode prog_1_method_13_code 59 = .ok (.getfield 109, 3) := by decide +kernel
theorem d_Mf_corner_62 : decode prog_1_method_13_code 62 = .ok (.aload 4, 2) := by decide +kernel
theorem d_Mf_corner_64 : decode prog_1_method_13_code 64 = .ok (.getfield 174, 3) := by decide +kernel
theorem d_Mf_corner_67 : decode prog_1_method_13_code 67 = .ok (.iload 7, 2) := by decide +kernel
theorem d_Mf_corner_69 : decode prog_1_method_13_code 69 = .ok (.aaload, 1) := by decide +kernel
theorem d_Mf_corner_70 : decode prog_1_method_13_code 70 = .ok (.getfield 109, 3) := by decide +kernel
theorem d_Mf_corner_73 : decode prog_1_method_13_code 73 = .ok (.if_icmp .eq 6, 3) := by decide +kernel
theorem d_Mf_corner_76 : decode prog_1_method_13_code 76 = .ok (.bipush (-2), 2) := by decide +kernel
theorem d_Mf_corner_78 : decode prog_1_method_13_code 78 = .ok (.ireturn, 1) := by decide +kernel
theorem d_Mf_corner_79 : decode prog_1_method_13_code 79 = .ok (.aload 4, 2) := by decide +kernel
theorem d_Mf_corner_81 : decode prog_1_method_13_code 81 = .ok (.getfield 164, 3) := by decide +kernel
theorem d_Mf_corner_84 : decode prog_1_method_13_code 84 = .ok (.bipush 16, 2) := by decide +kernel
theorem d_Mf_corner_86 : decode prog_1_method_13_code 86 = .ok (.if_icmp .lt 6, 3) := by decide +kernel
theorem d_Mf_corner_89 : decode prog_1_method_13_code 89 = .ok (.bipush (-3), 2) := by decide +kernel
theorem d_Mf_corner_91 : decode prog_1_method_13_code 91 = .ok (.ireturn, 1) := by decide +kernel
theorem d_Mf_corner_92 : decode prog_1_method_13_code 92 = .ok (.aload_n 0, 1) := by decide +kernel
theorem d_Mf_corner_93 : decode prog_1_method_13_code 93 = .ok (.getfield 38, 3) := by decide +kernel
theorem d_Mf_corner_96 : decode prog_1_method_13_code 96 = .ok (.aload 5, 2) := by decide +kernel
theorem d_Mf_corner_98 : decode prog_1_method_13_code 98 = .ok (.getfield 112, 3) := by decide +kernel
theorem d_Mf_corner_101 : decode prog_1_method_13_code 101 = .ok (.aload 4, 2) := by decide +kernel
theorem d_Mf_corner_103 : decode prog_1_method_13_code 103 = .ok (.getfield 171, 3) := by decide +kernel
theorem d_Mf_corner_106 : decode prog_1_method_13_code 106 = .ok (.iload 7, 2) := by decide +kernel
theorem d_Mf_corner_108 : decode prog_1_method_13_code 108 = .ok (.aaload, 1) := by decide +kernel
theorem d_Mf_corner_109 : decode prog_1_method_13_code 109 = .ok (.getfield 112, 3) := by decide +kernel
theorem d_Mf_corner_112 : decode prog_1_method_13_code 112 = .ok (.invokevirtual 125, 3) := by decide +kernel
theorem d_Mf_corner_115 : decode prog_1_method_13_code 115 = .ok (.ifCond .gt 6, 3) := by decide +kernel
theorem d_Mf_corner_118 : decode prog_1_method_13_code 118 = .ok (.bipush (-5), 2) := by decide +kernel
theorem d_Mf_corner_120 : decode prog_1_method_13_code 120 = .ok (.ireturn, 1) := by decide +kernel
theorem d_Mf_corner_121 : decode prog_1_method_13_code 121 = .ok (.aload 4, 2) := by decide +kernel
theorem d_Mf_corner_123 : decode prog_1_method_13_code 123 = .ok (.aload 5, 2) := by decide +kernel
theorem d_Mf_corner_125 : decode prog_1_method_13_code 125 = .ok (.aload 6, 2) := by decide +kernel
theorem d_Mf_corner_127 : decode prog_1_method_13_code 127 = .ok (.invokevirtual 177, 3) := by decide +kernel
theorem d_Mf_corner_130 : decode prog_1_method_13_code 130 = .ok (.aload 4, 2) := by decide +kernel
theorem d_Mf_corner_132 : decode prog_1_method_13_code 132 = .ok (.getfield 164, 3) := by decide +kernel
theorem d_Mf_corner_135 : decode prog_1_method_13_code 135 = .ok (.ireturn, 1) := by decide +kernel
theorem d_Mf_at_0 : decode prog_1_method_14_code 0 = .ok (.aload_n 0, 1) := by decide +kernel
theorem d_Mf_at_1 : decode prog_1_method_14_code 1 = .ok (.iload_n 1, 1) := by decide +kernel
theorem d_Mf_at_2 : decode prog_1_method_14_code 2 = .ok (.invokevirtual 167, 3) := by decide +kernel
theorem d_Mf_at_5 : decode prog_1_method_14_code 5 = .ok (.astore_n 3, 1) := by decide +kernel
theorem d_Mf_at_6 : decode prog_1_method_14_code 6 = .ok (.aload_n 0, 1) := by decide +kernel
theorem d_Mf_at_7 : decode prog_1_method_14_code 7 = .ok (.iload_n 2, 1) := by decide +kernel
theorem d_Mf_at_8 : decode prog_1_method_14_code 8 = .ok (.invokevirtual 105, 3) := by decide +kernel
theorem d_Mf_at_11 : decode prog_1_method_14_code 11 = .ok (.astore 4, 2) := by decide +kernel
theorem d_Mf_at_13 : decode prog_1_method_14_code 13 = .ok (.aload_n 3, 1) := by decide +kernel
theorem d_Mf_at_14 : decode prog_1_method_14_code 14 = .ok (.getfield 164, 3) := by decide +kernel
theorem d_Mf_at_17 : decode prog_1_method_14_code 17 = .ok (.ifCond .ne 6, 3) := by decide +kernel
theorem d_Mf_at_20 : decode prog_1_method_14_code 20 = .ok (.bipush (-5), 2) := by decide +kernel
theorem d_Mf_at_22 : decode prog_1_method_14_code 22 = .ok (.ireturn, 1) := by decide +kernel
theorem d_Mf_at_23 : decode prog_1_method_14_code 23 = .ok (.aload 4, 2) := by decide +kernel
theorem d_Mf_at_25 : decode prog_1_method_14_code 25 = .ok (.getfield 109, 3) := by decide +kernel
theorem d_Mf_at_28 : decode prog_1_method_14_code 28 = .ok (.aload_n 3, 1) := by decide +kernel
theorem d_Mf_at_29 : decode prog_1_method_14_code 29 = .ok (.getfield 171, 3) := by decide +kernel
theorem d_Mf_at_32 : decode prog_1_method_14_code 32 = .ok (.iconst 0, 1) := by decide +kernel
theorem d_Mf_at_33 : decode prog_1_method_14_code 33 = .ok (.aaload, 1) := by decide +kernel
theorem d_Mf_at_34 : decode prog_1_method_14_code 34 = .ok (.getfield 109, 3) := by decide +kernel
theorem d_Mf_at_37 : decode prog_1_method_14_code 37 = .ok (.if_icmp .eq 6, 3) := by decide +kernel
theorem d_Mf_at_40 : decode prog_1_method_14_code 40 = .ok (.bipush (-2), 2) := by decide +kernel
theorem d_Mf_at_42 : decode prog_1_method_14_code 42 = .ok (.ireturn, 1) := by decide +kernel
theorem d_Mf_at_43 : decode prog_1_method_14_code 43 = .ok (.aload_n 0, 1) := by decide +kernel
theorem d_Mf_at_44 : decode prog_1_method_14_code 44 = .ok (.aload_n 3, 1) := by decide +kernel
theorem d_Mf_at_45 : decode prog_1_method_14_code 45 = .ok (.aload 4, 2) := by decide +kernel
theorem d_Mf_at_47 : decode prog_1_method_14_code 47 = .ok (.getfield 112, 3) := by decide +kernel
theorem d_Mf_at_50 : decode prog_1_method_14_code 50 = .ok (.invokevirtual 181, 3) := by decide +kernel
theorem d_Mf_at_53 : decode prog_1_method_14_code 53 = .ok (.istore 5, 2) := by decide +kernel
theorem d_Mf_at_55 : decode prog_1_method_14_code 55 = .ok (.iload 5, 2) := by decide +kernel
theorem d_Mf_at_57 : decode prog_1_method_14_code 57 = .ok (.ifCond .ge 6, 3) := by decide +kernel
theorem d_Mf_at_60 : decode prog_1_method_14_code 60 = .ok (.bipush (-5), 2) := by decide +kernel
theorem d_Mf_at_62 : decode prog_1_method_14_code 62 = .ok (.ireturn, 1) := by decide +kernel
theorem d_Mf_at_63 : decode prog_1_method_14_code 63 = .ok (.aload_n 0, 1) := by decide +kernel
theorem d_Mf_at_64 : decode prog_1_method_14_code 64 = .ok (.invokevirtual 93, 3) := by decide +kernel
theorem d_Mf_at_67 : decode prog_1_method_14_code 67 = .ok (.ifCond .eq 6, 3) := by decide +kernel
theorem d_Mf_at_70 : decode prog_1_method_14_code 70 = .ok (.bipush (-3), 2) := by decide +kernel
theorem d_Mf_at_72 : decode prog_1_method_14_code 72 = .ok (.ireturn, 1) := by decide +kernel
theorem d_Mf_at_73 : decode prog_1_method_14_code 73 = .ok (.aload_n 0, 1) := by decide +kernel
theorem d_Mf_at_74 : decode prog_1_method_14_code 74 = .ok (.aload_n 3, 1) := by decide +kernel
theorem d_Mf_at_75 : decode prog_1_method_14_code 75 = .ok (.iload 5, 2) := by decide +kernel
theorem d_Mf_at_77 : decode prog_1_method_14_code 77 = .ok (.aload 4, 2) := by decide +kernel
theorem d_Mf_at_79 : decode prog_1_method_14_code 79 = .ok (.getfield 112, 3) := by decide +kernel
theorem d_Mf_at_82 : decode prog_1_method_14_code 82 = .ok (.invokevirtual 185, 3) := by decide +kernel
theorem d_Mf_at_85 : decode prog_1_method_14_code 85 = .ok (.aload_n 0, 1) := by decide +kernel
theorem d_Mf_at_86 : decode prog_1_method_14_code 86 = .ok (.aload_n 0, 1) := by decide +kernel
theorem d_Mf_at_87 : decode prog_1_method_14_code 87 = .ok (.getfield 47, 3) := by decide +kernel
theorem d_Mf_at_90 : decode prog_1_method_14_code 90 = .ok (.aload_n 3, 1) := by decide +kernel
theorem d_Mf_at_91 : decode prog_1_method_14_code 91 = .ok (.getfield 174, 3) := by decide +kernel
theorem d_Mf_at_94 : decode prog_1_method_14_code 94 = .ok (.iconst 0, 1) := by decide +kernel
theorem d_Mf_at_95 : decode prog_1_method_14_code 95 = .ok (.aaload, 1) := by decide +kernel
theorem d_Mf_at_96 : decode prog_1_method_14_code 96 = .ok (.getfield 109, 3) := by decide +kernel
theorem d_Mf_at_99 : decode prog_1_method_14_code 99 = .ok (.invokevirtual 101, 3) := by decide +kernel
theorem d_Mf_at_102 : decode prog_1_method_14_code 102 = .ok (.ireturn, 1) := by decide +kernel
theorem d_Mf_area_0 : decode prog_1_method_15_code 0 = .ok (.aload_n 0, 1) := by decide +kernel
theorem d_Mf_area_1 : decode prog_1_method_15_code 1 = .ok (.iload_n 1, 1) := by decide +kernel
theorem d_Mf_area_2 : decode prog_1_method_15_code 2 = .ok (.invokevirtual 167, 3) := by decide +kernel
theorem d_Mf_area_5 : decode prog_1_method_15_code 5 = .ok (.astore_n 2, 1) := by decide +kernel
theorem d_Mf_area_6 : decode prog_1_method_15_code 6 = .ok (.aload_n 2, 1) := by decide +kernel
theorem d_Mf_area_7 : decode prog_1_method_15_code 7 = .ok (.getfield 164, 3) := by decide +kernel
theorem d_Mf_area_10 : decode prog_1_method_15_code 10 = .ok (.iconst 2, 1) := by decide +kernel
theorem d_Mf_area_11 : decode prog_1_method_15_code 11 = .ok (.if_icmp .ge 6, 3) := by decide +kernel
theorem d_Mf_area_14 : decode prog_1_method_15_code 14 = .ok (.bipush (-5), 2) := by decide +kernel
theorem d_Mf_area_16 : decode prog_1_method_15_code 16 = .ok (.ireturn, 1) := by decide +kernel
theorem d_Mf_area_17 : decode prog_1_method_15_code 17 = .ok (.aload_n 2, 1) := by decide +kernel
theorem d_Mf_area_18 : decode prog_1_method_15_code 18 = .ok (.getfield 171, 3) := by decide +kernel
theorem d_Mf_area_21 : decode prog_1_method_15_code 21 = .ok (.iconst 0, 1) := by decide +kernel
theorem d_Mf_area_22 : decode prog_1_method_15_code 22 = .ok (.aaload, 1) := by decide +kernel
theorem d_Mf_area_23 : decode prog_1_method_15_code 23 = .ok (.getfield 109, 3) := by decide +kernel
theorem d_Mf_area_26 : decode prog_1_method_15_code 26 = .ok (.aload_n 2, 1) := by decide +kernel
theorem d_Mf_area_27 : decode prog_1_method_15_code 27 = .ok (.getfield 174, 3) := by decide +kernel
theorem d_Mf_area_30 : decode prog_1_method_15_code 30 = .ok (.iconst 0, 1) := by decide +kernel
theorem d_Mf_area_31 : decode prog_1_method_15_code 31 = .ok (.aaload, 1) := by decide +kernel
theorem d_Mf_area_32 : decode prog_1_method_15_code 32 = .ok (.getfield 109, 3) := by decide +kernel
theorem d_Mf_area_35 : decode prog_1_method_15_code 35 = .ok (.iadd, 1) := by decide +kernel
theorem d_Mf_area_36 : decode prog_1_method_15_code 36 = .ok (.istore_n 3, 1) := by decide +kernel
theorem d_Mf_area_37 : decode prog_1_method_15_code 37 = .ok (.iload_n 3, 1) := by decide +kernel
theorem d_Mf_area_38 : decode prog_1_method_15_code 38 = .ok (.invokestatic 84, 3) := by decide +kernel
theorem d_Mf_area_41 : decode prog_1_method_15_code 41 = .ok (.ifCond .ne 6, 3) := by decide +kernel
theorem d_Mf_area_44 : decode prog_1_method_15_code 44 = .ok (.bipush (-2), 2) := by decide +kernel
theorem d_Mf_area_46 : decode prog_1_method_15_code 46 = .ok (.ireturn, 1) := by decide +kernel
theorem d_Mf_area_47 : decode prog_1_method_15_code 47 = .ok (.aload_n 0, 1) := by decide +kernel
theorem d_Mf_area_48 : decode prog_1_method_15_code 48 = .ok (.invokevirtual 93, 3) := by decide +kernel
theorem d_Mf_area_51 : decode prog_1_method_15_code 51 = .ok (.ifCond .eq 6, 3) := by decide +kernel
theorem d_Mf_area_54 : decode prog_1_method_15_code 54 = .ok (.bipush (-3), 2) := by decide +kernel
theorem d_Mf_area_56 : decode prog_1_method_15_code 56 = .ok (.ireturn, 1) := by decide +kernel
theorem d_Mf_area_57 : decode prog_1_method_15_code 57 = .ok (.aload_n 0, 1) := by decide +kernel
theorem d_Mf_area_58 : decode prog_1_method_15_code 58 = .ok (.getfield 57, 3) := by decide +kernel
theorem d_Mf_area_61 : decode prog_1_method_15_code 61 = .ok (.aload_n 0, 1) := by decide +kernel
theorem d_Mf_area_62 : decode prog_1_method_15_code 62 = .ok (.getfield 64, 3) := by decide +kernel
theorem d_Mf_area_65 : decode prog_1_method_15_code 65 = .ok (.invokevirtual 189, 3) := by decide +kernel
theorem d_Mf_area_68 : decode prog_1_method_15_code 68 = .ok (.iconst 1, 1) := by decide +kernel
theorem d_Mf_area_69 : decode prog_1_method_15_code 69 = .ok (.istore 4, 2) := by decide +kernel
theorem d_Mf_area_71 : decode prog_1_method_15_code 71 = .ok (.iload 4, 2) := by decide +kernel
theorem d_Mf_area_73 : decode prog_1_method_15_code 73 = .ok (.aload_n 2, 1) := by decide +kernel
theorem d_Mf_area_74 : decode prog_1_method_15_code 74 = .ok (.getfield 164, 3) := by decide +kernel
theorem d_Mf_area_77 : decode prog_1_method_15_code 77 = .ok (.if_icmp .ge 29, 3) := by decide +kernel
theorem d_Mf_area_80 : decode prog_1_method_15_code 80 = .ok (.aload_n 0, 1) := by decide +kernel
theorem d_Mf_area_81 : decode prog_1_method_15_code 81 = .ok (.aload_n 2, 1) := by decide +kernel
theorem d_Mf_area_82 : decode prog_1_method_15_code 82 = .ok (.iload 4, 2) := by decide +kernel
theorem d_Mf_area_84 : decode prog_1_method_15_code 84 = .ok (.invokevirtual 193, 3) := by decide +kernel
theorem d_Mf_area_87 : decode prog_1_method_15_code 87 = .ok (.aload_n 0, 1) := by decide +kernel
theorem d_Mf_area_88 : decode prog_1_method_15_code 88 = .ok (.getfield 57, 3) := by decide +kernel
theorem d_Mf_area_91 : decode prog_1_method_15_code 91 = .ok (.invokevirtual 197, 3) := by decide +kernel
theorem d_Mf_area_94 : decode prog_1_method_15_code 94 = .ok (.ifCond .eq 6, 3) := by decide +kernel
theorem d_Mf_area_97 : decode prog_1_method_15_code 97 = .ok (.bipush (-4), 2) := by decide +kernel
theorem d_Mf_area_99 : decode prog_1_method_15_code 99 = .ok (.ireturn, 1) := by decide +kernel
theorem d_Mf_area_100 : decode prog_1_method_15_code 100 = .ok (.iinc 4 1, 3) := by decide +kernel
theorem d_Mf_area_103 : decode prog_1_method_15_code 103 = .ok (.goto (-32), 3) := by decide +kernel
theorem d_Mf_area_106 : decode prog_1_method_15_code 106 = .ok (.aload_n 0, 1) := by decide +kernel
theorem d_Mf_area_107 : decode prog_1_method_15_code 107 = .ok (.aload_n 0, 1) := by decide +kernel
theorem d_Mf_area_108 : decode prog_1_method_15_code 108 = .ok (.getfield 57, 3) := by decide +kernel
theorem d_Mf_area_111 : decode prog_1_method_15_code 111 = .ok (.iload_n 3, 1) := by decide +kernel
theorem d_Mf_area_112 : decode prog_1_method_15_code 112 = .ok (.invokevirtual 101, 3) := by decide +kernel
theorem d_Mf_area_115 : decode prog_1_method_15_code 115 = .ok (.ireturn, 1) := by decide +kernel
theorem d_Mf_weight_0 : decode prog_1_method_16_code 0 = .ok (.iload_n 1, 1) := by decide +kernel
theorem d_Mf_weight_1 : decode prog_1_method_16_code 1 = .ok (.iconst 1, 1) := by decide +kernel
theorem d_Mf_weight_2 : decode prog_1_method_16_code 2 = .ok (.if_icmp .lt 9, 3) := by decide +kernel
theorem d_Mf_weight_5 : decode prog_1_method_16_code 5 = .ok (.iload_n 1, 1) := by decide +kernel
theorem d_Mf_weight_6 : decode prog_1_method_16_code 6 = .ok (.ldc 131, 2) := by decide +kernel
theorem d_Mf_weight_8 : decode prog_1_method_16_code 8 = .ok (.if_icmp .le 13, 3) := by decide +kernel
theorem d_Mf_weight_11 : decode prog_1_method_16_code 11 = .ok (.new 88, 3) := by decide +kernel
theorem d_Mf_weight_14 : decode prog_1_method_16_code 14 = .ok (.dup, 1) := by decide +kernel
theorem d_Mf_weight_15 : decode prog_1_method_16_code 15 = .ok (.ldc 200, 2) := by decide +kernel
theorem d_Mf_weight_17 : decode prog_1_method_16_code 17 = .ok (.invokespecial 92, 3) := by decide +kernel
theorem d_Mf_weight_20 : decode prog_1_method_16_code 20 = .ok (.athrow, 1) := by decide +kernel
theorem d_Mf_weight_21 : decode prog_1_method_16_code 21 = .ok (.aload_n 0, 1) := by decide +kernel
theorem d_Mf_weight_22 : decode prog_1_method_16_code 22 = .ok (.getfield 31, 3) := by decide +kernel
theorem d_Mf_weight_25 : decode prog_1_method_16_code 25 = .ok (.getfield 202, 3) := by decide +kernel
theorem d_Mf_weight_28 : decode prog_1_method_16_code 28 = .ok (.bipush 12, 2) := by decide +kernel
theorem d_Mf_weight_30 : decode prog_1_method_16_code 30 = .ok (.if_icmp .lt 6, 3) := by decide +kernel
theorem d_Mf_weight_33 : decode prog_1_method_16_code 33 = .ok (.bipush (-3), 2) := by decide +kernel
theorem d_Mf_weight_35 : decode prog_1_method_16_code 35 = .ok (.ireturn, 1) := by decide +kernel
theorem d_Mf_weight_36 : decode prog_1_method_16_code 36 = .ok (.aload_n 0, 1) := by decide +kernel
theorem d_Mf_weight_37 : decode prog_1_method_16_code 37 = .ok (.getfield 31, 3) := by decide +kernel
theorem d_Mf_weight_40 : decode prog_1_method_16_code 40 = .ok (.iload_n 1, 1) := by decide +kernel
theorem d_Mf_weight_41 : decode prog_1_method_16_code 41 = .ok (.invokevirtual 203, 3) := by decide +kernel
theorem d_Mf_weight_44 : decode prog_1_method_16_code 44 = .ok (.aload_n 0, 1) := by decide +kernel
theorem d_Mf_weight_45 : decode prog_1_method_16_code 45 = .ok (.getfield 31, 3) := by decide +kernel
theorem d_Mf_weight_48 : decode prog_1_method_16_code 48 = .ok (.getfield 202, 3) := by decide +kernel
theorem d_Mf_weight_51 : decode prog_1_method_16_code 51 = .ok (.ireturn, 1) := by decide +kernel
theorem d_Mf_noWeights_0 : decode prog_1_method_17_code 0 = .ok (.aload_n 0, 1) := by decide +kernel
theorem d_Mf_noWeights_1 : decode prog_1_method_17_code 1 = .ok (.getfield 31, 3) := by decide +kernel
theorem d_Mf_noWeights_4 : decode prog_1_method_17_code 4 = .ok (.getfield 202, 3) := by decide +kernel
theorem d_Mf_noWeights_7 : decode prog_1_method_17_code 7 = .ok (.istore_n 1, 1) := by decide +kernel
theorem d_Mf_noWeights_8 : decode prog_1_method_17_code 8 = .ok (.aload_n 0, 1) := by decide +kernel
theorem d_Mf_noWeights_9 : decode prog_1_method_17_code 9 = .ok (.getfield 31, 3) := by decide +kernel
theorem d_Mf_noWeights_12 : decode prog_1_method_17_code 12 = .ok (.iconst 0, 1) := by decide +kernel
theorem d_Mf_noWeights_13 : decode prog_1_method_17_code 13 = .ok (.putfield 202, 3) := by decide +kernel
theorem d_Mf_noWeights_16 : decode prog_1_method_17_code 16 = .ok (.iload_n 1, 1) := by decide +kernel
theorem d_Mf_noWeights_17 : decode prog_1_method_17_code 17 = .ok (.ireturn, 1) := by decide +kernel
theorem d_Mf_share_0 : decode prog_1_method_18_code 0 = .ok (.iload_n 3, 1) := by decide +kernel
theorem d_Mf_share_1 : decode prog_1_method_18_code 1 = .ok (.ifCond .lt 14, 3) := by decide +kernel
theorem d_Mf_share_4 : decode prog_1_method_18_code 4 = .ok (.iload_n 3, 1) := by decide +kernel
theorem d_Mf_share_5 : decode prog_1_method_18_code 5 = .ok (.aload_n 0, 1) := by decide +kernel
theorem d_Mf_share_6 : decode prog_1_method_18_code 6 = .ok (.getfield 31, 3) := by decide +kernel
theorem d_Mf_share_9 : decode prog_1_method_18_code 9 = .ok (.getfield 202, 3) := by decide +kernel
theorem d_Mf_share_12 : decode prog_1_method_18_code 12 = .ok (.if_icmp .lt 13, 3) := by decide +kernel
theorem d_Mf_share_15 : decode prog_1_method_18_code 15 = .ok (.new 153, 3) := by decide +kernel
theorem d_Mf_share_18 : decode prog_1_method_18_code 18 = .ok (.dup, 1) := by decide +kernel
theorem d_Mf_share_19 : decode prog_1_method_18_code 19 = .ok (.ldc 206, 2) := by decide +kernel
theorem d_Mf_share_21 : decode prog_1_method_18_code 21 = .ok (.invokespecial 157, 3) := by decide +kernel
theorem d_Mf_share_24 : decode prog_1_method_18_code 24 = .ok (.athrow, 1) := by decide +kernel
theorem d_Mf_share_25 : decode prog_1_method_18_code 25 = .ok (.lload_n 1, 1) := by decide +kernel
theorem d_Mf_share_26 : decode prog_1_method_18_code 26 = .ok (.lconst 0, 1) := by decide +kernel
theorem d_Mf_share_27 : decode prog_1_method_18_code 27 = .ok (.lcmp, 1) := by decide +kernel
theorem d_Mf_share_28 : decode prog_1_method_18_code 28 = .ok (.ifCond .lt 11, 3) := by decide +kernel
theorem d_Mf_share_31 : decode prog_1_method_18_code 31 = .ok (.lload_n 1, 1) := by decide +kernel
theorem d_Mf_share_32 : decode prog_1_method_18_code 32 = .ok (.ldc2_w 208, 3) := by decide +kernel
theorem d_Mf_share_35 : decode prog_1_method_18_code 35 = .ok (.lcmp, 1) := by decide +kernel
theorem d_Mf_share_36 : decode prog_1_method_18_code 36 = .ok (.ifCond .le 13, 3) := by decide +kernel
theorem d_Mf_share_39 : decode prog_1_method_18_code 39 = .ok (.new 88, 3) := by decide +kernel
theorem d_Mf_share_42 : decode prog_1_method_18_code 42 = .ok (.dup, 1) := by decide +kernel
theorem d_Mf_share_43 : decode prog_1_method_18_code 43 = .ok (.ldc 210, 2) := by decide +kernel
theorem d_Mf_share_45 : decode prog_1_method_18_code 45 = .ok (.invokespecial 92, 3) := by decide +kernel
theorem d_Mf_share_48 : decode prog_1_method_18_code 48 = .ok (.athrow, 1) := by decide +kernel
theorem d_Mf_share_49 : decode prog_1_method_18_code 49 = .ok (.aload_n 0, 1) := by decide +kernel
theorem d_Mf_share_50 : decode prog_1_method_18_code 50 = .ok (.getfield 31, 3) := by decide +kernel
theorem d_Mf_share_53 : decode prog_1_method_18_code 53 = .ok (.lload_n 1, 1) := by decide +kernel
theorem d_Mf_share_54 : decode prog_1_method_18_code 54 = .ok (.iload_n 3, 1) := by decide +kernel
theorem d_Mf_share_55 : decode prog_1_method_18_code 55 = .ok (.invokevirtual 212, 3) := by decide +kernel
theorem d_Mf_share_58 : decode prog_1_method_18_code 58 = .ok (.lreturn, 1) := by decide +kernel
theorem d_Mf_isUnit_0 : decode prog_1_method_19_code 0 = .ok (.iload_n 0, 1) := by decide +kernel
theorem d_Mf_isUnit_1 : decode prog_1_method_19_code 1 = .ok (.bipush (-6), 2) := by decide +kernel
theorem d_Mf_isUnit_3 : decode prog_1_method_19_code 3 = .ok (.if_icmp .lt 13, 3) := by decide +kernel
theorem d_Mf_isUnit_6 : decode prog_1_method_19_code 6 = .ok (.iload_n 0, 1) := by decide +kernel
theorem d_Mf_isUnit_7 : decode prog_1_method_19_code 7 = .ok (.bipush 6, 2) := by decide +kernel
theorem d_Mf_isUnit_9 : decode prog_1_method_19_code 9 = .ok (.if_icmp .gt 7, 3) := by decide +kernel
theorem d_Mf_isUnit_12 : decode prog_1_method_19_code 12 = .ok (.iconst 1, 1) := by decide +kernel
theorem d_Mf_isUnit_13 : decode prog_1_method_19_code 13 = .ok (.goto 4, 3) := by decide +kernel
theorem d_Mf_isUnit_16 : decode prog_1_method_19_code 16 = .ok (.iconst 0, 1) := by decide +kernel
theorem d_Mf_isUnit_17 : decode prog_1_method_19_code 17 = .ok (.ireturn, 1) := by decide +kernel
theorem d_Mf_isFull_0 : decode prog_1_method_20_code 0 = .ok (.aload_n 0, 1) := by decide +kernel
theorem d_Mf_isFull_1 : decode prog_1_method_20_code 1 = .ok (.getfield 15, 3) := by decide +kernel
theorem d_Mf_isFull_4 : decode prog_1_method_20_code 4 = .ok (.sipush 200, 3) := by decide +kernel
theorem d_Mf_isFull_7 : decode prog_1_method_20_code 7 = .ok (.if_icmp .lt 7, 3) := by decide +kernel
theorem d_Mf_isFull_10 : decode prog_1_method_20_code 10 = .ok (.iconst 1, 1) := by decide +kernel
theorem d_Mf_isFull_11 : decode prog_1_method_20_code 11 = .ok (.goto 4, 3) := by decide +kernel
theorem d_Mf_isFull_14 : decode prog_1_method_20_code 14 = .ok (.iconst 0, 1) := by decide +kernel
theorem d_Mf_isFull_15 : decode prog_1_method_20_code 15 = .ok (.ireturn, 1) := by decide +kernel
theorem d_Mf_valueOf_0 : decode prog_1_method_21_code 0 = .ok (.iload_n 1, 1) := by decide +kernel
theorem d_Mf_valueOf_1 : decode prog_1_method_21_code 1 = .ok (.ifCond .lt 20, 3) := by decide +kernel
theorem d_Mf_valueOf_4 : decode prog_1_method_21_code 4 = .ok (.iload_n 1, 1) := by decide +kernel
theorem d_Mf_valueOf_5 : decode prog_1_method_21_code 5 = .ok (.aload_n 0, 1) := by decide +kernel
theorem d_Mf_valueOf_6 : decode prog_1_method_21_code 6 = .ok (.getfield 15, 3) := by decide +kernel
theorem d_Mf_valueOf_9 : decode prog_1_method_21_code 9 = .ok (.if_icmp .ge 12, 3) := by decide +kernel
theorem d_Mf_valueOf_12 : decode prog_1_method_21_code 12 = .ok (.aload_n 0, 1) := by decide +kernel
theorem d_Mf_valueOf_13 : decode prog_1_method_21_code 13 = .ok (.getfield 11, 3) := by decide +kernel
theorem d_Mf_valueOf_16 : decode prog_1_method_21_code 16 = .ok (.iload_n 1, 1) := by decide +kernel
theorem d_Mf_valueOf_17 : decode prog_1_method_21_code 17 = .ok (.aaload, 1) := by decide +kernel
theorem d_Mf_valueOf_18 : decode prog_1_method_21_code 18 = .ok (.ifnonnull 13, 3) := by decide +kernel
theorem d_Mf_valueOf_21 : decode prog_1_method_21_code 21 = .ok (.new 153, 3) := by decide +kernel
theorem d_Mf_valueOf_24 : decode prog_1_method_21_code 24 = .ok (.dup, 1) := by decide +kernel
theorem d_Mf_valueOf_25 : decode prog_1_method_21_code 25 = .ok (.ldc 216, 2) := by decide +kernel
theorem d_Mf_valueOf_27 : decode prog_1_method_21_code 27 = .ok (.invokespecial 157, 3) := by decide +kernel
theorem d_Mf_valueOf_30 : decode prog_1_method_21_code 30 = .ok (.athrow, 1) := by decide +kernel
theorem d_Mf_valueOf_31 : decode prog_1_method_21_code 31 = .ok (.aload_n 0, 1) := by decide +kernel
theorem d_Mf_valueOf_32 : decode prog_1_method_21_code 32 = .ok (.getfield 11, 3) := by decide +kernel
theorem d_Mf_valueOf_35 : decode prog_1_method_21_code 35 = .ok (.iload_n 1, 1) := by decide +kernel
theorem d_Mf_valueOf_36 : decode prog_1_method_21_code 36 = .ok (.aaload, 1) := by decide +kernel
theorem d_Mf_valueOf_37 : decode prog_1_method_21_code 37 = .ok (.areturn, 1) := by decide +kernel
theorem d_Mf_rowOf_0 : decode prog_1_method_22_code 0 = .ok (.iload_n 1, 1) := by decide +kernel
theorem d_Mf_rowOf_1 : decode prog_1_method_22_code 1 = .ok (.ifCond .lt 11, 3) := by decide +kernel
theorem d_Mf_rowOf_4 : decode prog_1_method_22_code 4 = .ok (.iload_n 1, 1) := by decide +kernel
theorem d_Mf_rowOf_5 : decode prog_1_method_22_code 5 = .ok (.aload_n 0, 1) := by decide +kernel
theorem d_Mf_rowOf_6 : decode prog_1_method_22_code 6 = .ok (.getfield 25, 3) := by decide +kernel
theorem d_Mf_rowOf_9 : decode prog_1_method_22_code 9 = .ok (.if_icmp .lt 13, 3) := by decide +kernel
theorem d_Mf_rowOf_12 : decode prog_1_method_22_code 12 = .ok (.new 153, 3) := by decide +kernel
theorem d_Mf_rowOf_15 : decode prog_1_method_22_code 15 = .ok (.dup, 1) := by decide +kernel
theorem d_Mf_rowOf_16 : decode prog_1_method_22_code 16 = .ok (.ldc 218, 2) := by decide +kernel
theorem d_Mf_rowOf_18 : decode prog_1_method_22_code 18 = .ok (.invokespecial 157, 3) := by decide +kernel
theorem d_Mf_rowOf_21 : decode prog_1_method_22_code 21 = .ok (.athrow, 1) := by decide +kernel
theorem d_Mf_rowOf_22 : decode prog_1_method_22_code 22 = .ok (.aload_n 0, 1) := by decide +kernel
theorem d_Mf_rowOf_23 : decode prog_1_method_22_code 23 = .ok (.getfield 21, 3) := by decide +kernel
theorem d_Mf_rowOf_26 : decode prog_1_method_22_code 26 = .ok (.iload_n 1, 1) := by decide +kernel
theorem d_Mf_rowOf_27 : decode prog_1_method_22_code 27 = .ok (.aaload, 1) := by decide +kernel
theorem d_Mf_rowOf_28 : decode prog_1_method_22_code 28 = .ok (.areturn, 1) := by decide +kernel
theorem d_Mf_keep_0 : decode prog_1_method_23_code 0 = .ok (.aload_n 0, 1) := by decide +kernel
theorem d_Mf_keep_1 : decode prog_1_method_23_code 1 = .ok (.invokevirtual 93, 3) := by decide +kernel
theorem d_Mf_keep_4 : decode prog_1_method_23_code 4 = .ok (.ifCond .eq 6, 3) := by decide +kernel
theorem d_Mf_keep_7 : decode prog_1_method_23_code 7 = .ok (.bipush (-3), 2) := by decide +kernel
theorem d_Mf_keep_9 : decode prog_1_method_23_code 9 = .ok (.ireturn, 1) := by decide +kernel
theorem d_Mf_keep_10 : decode prog_1_method_23_code 10 = .ok (.aload_n 1, 1) := by decide +kernel
theorem d_Mf_keep_11 : decode prog_1_method_23_code 11 = .ok (.invokevirtual 197, 3) := by decide +kernel
theorem d_Mf_keep_14 : decode prog_1_method_23_code 14 = .ok (.ifCond .eq 6, 3) := by decide +kernel
theorem d_Mf_keep_17 : decode prog_1_method_23_code 17 = .ok (.bipush (-4), 2) := by decide +kernel
theorem d_Mf_keep_19 : decode prog_1_method_23_code 19 = .ok (.ireturn, 1) := by decide +kernel
theorem d_Mf_keep_20 : decode prog_1_method_23_code 20 = .ok (.aload_n 0, 1) := by decide +kernel
theorem d_Mf_keep_21 : decode prog_1_method_23_code 21 = .ok (.getfield 11, 3) := by decide +kernel
theorem d_Mf_keep_24 : decode prog_1_method_23_code 24 = .ok (.aload_n 0, 1) := by decide +kernel
theorem d_Mf_keep_25 : decode prog_1_method_23_code 25 = .ok (.getfield 15, 3) := by decide +kernel
theorem d_Mf_keep_28 : decode prog_1_method_23_code 28 = .ok (.new 9, 3) := by decide +kernel
theorem d_Mf_keep_31 : decode prog_1_method_23_code 31 = .ok (.dup, 1) := by decide +kernel
theorem d_Mf_keep_32 : decode prog_1_method_23_code 32 = .ok (.aload_n 1, 1) := by decide +kernel
theorem d_Mf_keep_33 : decode prog_1_method_23_code 33 = .ok (.invokevirtual 220, 3) := by decide +kernel
theorem d_Mf_keep_36 : decode prog_1_method_23_code 36 = .ok (.iload_n 2, 1) := by decide +kernel
theorem d_Mf_keep_37 : decode prog_1_method_23_code 37 = .ok (.invokespecial 224, 3) := by decide +kernel
theorem d_Mf_keep_40 : decode prog_1_method_23_code 40 = .ok (.aastore, 1) := by decide +kernel
theorem d_Mf_keep_41 : decode prog_1_method_23_code 41 = .ok (.aload_n 0, 1) := by decide +kernel
theorem d_Mf_keep_42 : decode prog_1_method_23_code 42 = .ok (.dup, 1) := by decide +kernel
theorem d_Mf_keep_43 : decode prog_1_method_23_code 43 = .ok (.getfield 15, 3) := by decide +kernel
theorem d_Mf_keep_46 : decode prog_1_method_23_code 46 = .ok (.iconst 1, 1) := by decide +kernel
theorem d_Mf_keep_47 : decode prog_1_method_23_code 47 = .ok (.iadd, 1) := by decide +kernel
theorem d_Mf_keep_48 : decode prog_1_method_23_code 48 = .ok (.putfield 15, 3) := by decide +kernel
theorem d_Mf_keep_51 : decode prog_1_method_23_code 51 = .ok (.aload_n 0, 1) := by decide +kernel
theorem d_Mf_keep_52 : decode prog_1_method_23_code 52 = .ok (.getfield 15, 3) := by decide +kernel
theorem d_Mf_keep_55 : decode prog_1_method_23_code 55 = .ok (.iconst 1, 1) := by decide +kernel
theorem d_Mf_keep_56 : decode prog_1_method_23_code 56 = .ok (.isub, 1) := by decide +kernel
theorem d_Mf_keep_57 : decode prog_1_method_23_code 57 = .ok (.ireturn, 1) := by decide +kernel
theorem d_Mf_cornerNotBefore_0 : decode prog_1_method_24_code 0 = .ok (.iconst 0, 1) := by decide +kernel
theorem d_Mf_cornerNotBefore_1 : decode prog_1_method_24_code 1 = .ok (.istore_n 3, 1) := by decide +kernel
theorem d_Mf_cornerNotBefore_2 : decode prog_1_method_24_code 2 = .ok (.iload_n 3, 1) := by decide +kernel
theorem d_Mf_cornerNotBefore_3 : decode prog_1_method_24_code 3 = .ok (.aload_n 1, 1) := by decide +kernel
theorem d_Mf_cornerNotBefore_4 : decode prog_1_method_24_code 4 = .ok (.getfield 164, 3) := by decide +kernel
theorem d_Mf_cornerNotBefore_7 : decode prog_1_method_24_code 7 = .ok (.if_icmp .ge 50, 3) := by decide +kernel
theorem d_Mf_cornerNotBefore_10 : decode prog_1_method_24_code 10 = .ok (.aload_n 0, 1) := by decide +kernel
theorem d_Mf_cornerNotBefore_11 : decode prog_1_method_24_code 11 = .ok (.getfield 38, 3) := by decide +kernel
theorem d_Mf_cornerNotBefore_14 : decode prog_1_method_24_code 14 = .ok (.aload_n 2, 1) := by decide +kernel
theorem d_Mf_cornerNotBefore_15 : decode prog_1_method_24_code 15 = .ok (.aload_n 1, 1) := by decide +kernel
theorem d_Mf_cornerNotBefore_16 : decode prog_1_method_24_code 16 = .ok (.getfield 171, 3) := by decide +kernel
theorem d_Mf_cornerNotBefore_19 : decode prog_1_method_24_code 19 = .ok (.iload_n 3, 1) := by decide +kernel
theorem d_Mf_cornerNotBefore_20 : decode prog_1_method_24_code 20 = .ok (.aaload, 1) := by decide +kernel
theorem d_Mf_cornerNotBefore_21 : decode prog_1_method_24_code 21 = .ok (.getfield 112, 3) := by decide +kernel
theorem d_Mf_cornerNotBefore_24 : decode prog_1_method_24_code 24 = .ok (.invokevirtual 125, 3) := by decide +kernel
theorem d_Mf_cornerNotBefore_27 : decode prog_1_method_24_code 27 = .ok (.istore 4, 2) := by decide +kernel
theorem d_Mf_cornerNotBefore_29 : decode prog_1_method_24_code 29 = .ok (.iload 4, 2) := by decide +kernel
theorem d_Mf_cornerNotBefore_31 : decode prog_1_method_24_code 31 = .ok (.ifCond .ne 5, 3) := by decide +kernel
theorem d_Mf_cornerNotBefore_34 : decode prog_1_method_24_code 34 = .ok (.iload_n 3, 1) := by decide +kernel
theorem d_Mf_cornerNotBefore_35 : decode prog_1_method_24_code 35 = .ok (.ireturn, 1) := by decide +kernel
theorem d_Mf_cornerNotBefore_36 : decode prog_1_method_24_code 36 = .ok (.iload 4, 2) := by decide +kernel
theorem d_Mf_cornerNotBefore_38 : decode prog_1_method_24_code 38 = .ok (.ifCond .ge 13, 3) := by decide +kernel
theorem d_Mf_cornerNotBefore_41 : decode prog_1_method_24_code 41 = .ok (.iload_n 3, 1) := by decide +kernel
theorem d_Mf_cornerNotBefore_42 : decode prog_1_method_24_code 42 = .ok (.ifCond .ne 7, 3) := by decide +kernel
theorem d_Mf_cornerNotBefore_45 : decode prog_1_method_24_code 45 = .ok (.iconst (-1), 1) := by decide +kernel
theorem d_Mf_cornerNotBefore_46 : decode prog_1_method_24_code 46 = .ok (.goto 4, 3) := by decide +kernel
theorem d_Mf_cornerNotBefore_49 : decode prog_1_method_24_code 49 = .ok (.iload_n 3, 1) := by decide +kernel
theorem d_Mf_cornerNotBefore_50 : decode prog_1_method_24_code 50 = .ok (.ireturn, 1) := by decide +kernel
theorem d_Mf_cornerNotBefore_51 : decode prog_1_method_24_code 51 = .ok (.iinc 3 1, 3) := by decide +kernel
theorem d_Mf_cornerNotBefore_54 : decode prog_1_method_24_code 54 = .ok (.goto (-52), 3) := by decide +kernel
theorem d_Mf_cornerNotBefore_57 : decode prog_1_method_24_code 57 = .ok (.iconst (-1), 1) := by decide +kernel
theorem d_Mf_cornerNotBefore_58 : decode prog_1_method_24_code 58 = .ok (.ireturn, 1) := by decide +kernel
theorem d_Mf_setHeight_0 : decode prog_1_method_25_code 0 = .ok (.aload_n 1, 1) := by decide +kernel
theorem d_Mf_setHeight_1 : decode prog_1_method_25_code 1 = .ok (.getfield 171, 3) := by decide +kernel
theorem d_Mf_setHeight_4 : decode prog_1_method_25_code 4 = .ok (.iload_n 2, 1) := by decide +kernel
theorem d_Mf_setHeight_5 : decode prog_1_method_25_code 5 = .ok (.aaload, 1) := by decide +kernel
theorem d_Mf_setHeight_6 : decode prog_1_method_25_code 6 = .ok (.getfield 112, 3) := by decide +kernel
theorem d_Mf_setHeight_9 : decode prog_1_method_25_code 9 = .ok (.astore 4, 2) := by decide +kernel
theorem d_Mf_setHeight_11 : decode prog_1_method_25_code 11 = .ok (.aload_n 1, 1) := by decide +kernel
theorem d_Mf_setHeight_12 : decode prog_1_method_25_code 12 = .ok (.getfield 174, 3) := by decide +kernel
theorem d_Mf_setHeight_15 : decode prog_1_method_25_code 15 = .ok (.iload_n 2, 1) := by decide +kernel
theorem d_Mf_setHeight_16 : decode prog_1_method_25_code 16 = .ok (.aaload, 1) := by decide +kernel
theorem d_Mf_setHeight_17 : decode prog_1_method_25_code 17 = .ok (.getfield 112, 3) := by decide +kernel
theorem d_Mf_setHeight_20 : decode prog_1_method_25_code 20 = .ok (.astore 5, 2) := by decide +kernel
theorem d_Mf_setHeight_22 : decode prog_1_method_25_code 22 = .ok (.iload_n 2, 1) := by decide +kernel
theorem d_Mf_setHeight_23 : decode prog_1_method_25_code 23 = .ok (.ifCond .eq 16, 3) := by decide +kernel
theorem d_Mf_setHeight_26 : decode prog_1_method_25_code 26 = .ok (.aload_n 0, 1) := by decide +kernel
theorem d_Mf_setHeight_27 : decode prog_1_method_25_code 27 = .ok (.getfield 38, 3) := by decide +kernel
theorem d_Mf_setHeight_30 : decode prog_1_method_25_code 30 = .ok (.aload_n 3, 1) := by decide +kernel
theorem d_Mf_setHeight_31 : decode prog_1_method_25_code 31 = .ok (.aload 4, 2) := by decide +kernel
theorem d_Mf_setHeight_33 : decode prog_1_method_25_code 33 = .ok (.invokevirtual 125, 3) := by decide +kernel
theorem d_Mf_setHeight_36 : decode prog_1_method_25_code 36 = .ok (.ifCond .ne 13, 3) := by decide +kernel
theorem d_Mf_setHeight_39 : decode prog_1_method_25_code 39 = .ok (.aload_n 0, 1) := by decide +kernel
theorem d_Mf_setHeight_40 : decode prog_1_method_25_code 40 = .ok (.getfield 47, 3) := by decide +kernel
theorem d_Mf_setHeight_43 : decode prog_1_method_25_code 43 = .ok (.aload 5, 2) := by decide +kernel
theorem d_Mf_setHeight_45 : decode prog_1_method_25_code 45 = .ok (.invokevirtual 189, 3) := by decide +kernel
theorem d_Mf_setHeight_48 : decode prog_1_method_25_code 48 = .ok (.return_, 1) := by decide +kernel
theorem d_Mf_setHeight_49 : decode prog_1_method_25_code 49 = .ok (.aload_n 1, 1) := by decide +kernel
theorem d_Mf_setHeight_50 : decode prog_1_method_25_code 50 = .ok (.getfield 171, 3) := by decide +kernel
theorem d_Mf_setHeight_53 : decode prog_1_method_25_code 53 = .ok (.iload_n 2, 1) := by decide +kernel
theorem d_Mf_setHeight_54 : decode prog_1_method_25_code 54 = .ok (.iconst 1, 1) := by decide +kernel
theorem d_Mf_setHeight_55 : decode prog_1_method_25_code 55 = .ok (.isub, 1) := by decide +kernel
theorem d_Mf_setHeight_56 : decode prog_1_method_25_code 56 = .ok (.aaload, 1) := by decide +kernel
theorem d_Mf_setHeight_57 : decode prog_1_method_25_code 57 = .ok (.getfield 112, 3) := by decide +kernel
theorem d_Mf_setHeight_60 : decode prog_1_method_25_code 60 = .ok (.astore 6, 2) := by decide +kernel
theorem d_Mf_setHeight_62 : decode prog_1_method_25_code 62 = .ok (.aload_n 1, 1) := by decide +kernel
theorem d_Mf_setHeight_63 : decode prog_1_method_25_code 63 = .ok (.getfield 174, 3) := by decide +kernel
theorem d_Mf_setHeight_66 : decode prog_1_method_25_code 66 = .ok (.iload_n 2, 1) := by decide +kernel
theorem d_Mf_setHeight_67 : decode prog_1_method_25_code 67 = .ok (.iconst 1, 1) := by decide +kernel
theorem d_Mf_setHeight_68 : decode prog_1_method_25_code 68 = .ok (.isub, 1) := by decide +kernel
theorem d_Mf_setHeight_69 : decode prog_1_method_25_code 69 = .ok (.aaload, 1) := by decide +kernel
theorem d_Mf_setHeight_70 : decode prog_1_method_25_code 70 = .ok (.getfield 112, 3) := by decide +kernel
theorem d_Mf_setHeight_73 : decode prog_1_method_25_code 73 = .ok (.astore 7, 2) := by decide +kernel
theorem d_Mf_setHeight_75 : decode prog_1_method_25_code 75 = .ok (.aload_n 0, 1) := by decide +kernel
theorem d_Mf_setHeight_76 : decode prog_1_method_25_code 76 = .ok (.getfield 38, 3) := by decide +kernel
theorem d_Mf_setHeight_79 : decode prog_1_method_25_code 79 = .ok (.aload_n 0, 1) := by decide +kernel
theorem d_Mf_setHeight_80 : decode prog_1_method_25_code 80 = .ok (.getfield 47, 3) := by decide +kernel
theorem d_Mf_setHeight_83 : decode prog_1_method_25_code 83 = .ok (.aload_n 3, 1) := by decide +kernel
theorem d_Mf_setHeight_84 : decode prog_1_method_25_code 84 = .ok (.aload 6, 2) := by decide +kernel
theorem d_Mf_setHeight_86 : decode prog_1_method_25_code 86 = .ok (.iconst 1, 1) := by decide +kernel
theorem d_Mf_setHeight_87 : decode prog_1_method_25_code 87 = .ok (.invokevirtual 115, 3) := by decide +kernel
theorem d_Mf_setHeight_90 : decode prog_1_method_25_code 90 = .ok (.aload_n 0, 1) := by decide +kernel
theorem d_Mf_setHeight_91 : decode prog_1_method_25_code 91 = .ok (.getfield 38, 3) := by decide +kernel
theorem d_Mf_setHeight_94 : decode prog_1_method_25_code 94 = .ok (.aload_n 0, 1) := by decide +kernel
theorem d_Mf_setHeight_95 : decode prog_1_method_25_code 95 = .ok (.getfield 51, 3) := by decide +kernel
theorem d_Mf_setHeight_98 : decode prog_1_method_25_code 98 = .ok (.aload 4, 2) := by decide +kernel
theorem d_Mf_setHeight_100 : decode prog_1_method_25_code 100 = .ok (.aload 6, 2) := by decide +kernel
theorem d_Mf_setHeight_102 : decode prog_1_method_25_code 102 = .ok (.iconst 1, 1) := by decide +kernel
theorem d_Mf_setHeight_103 : decode prog_1_method_25_code 103 = .ok (.invokevirtual 115, 3) := by decide +kernel
theorem d_Mf_setHeight_106 : decode prog_1_method_25_code 106 = .ok (.aload_n 0, 1) := by decide +kernel
theorem d_Mf_setHeight_107 : decode prog_1_method_25_code 107 = .ok (.getfield 38, 3) := by decide +kernel
theorem d_Mf_setHeight_110 : decode prog_1_method_25_code 110 = .ok (.aload_n 0, 1) := by decide +kernel
theorem d_Mf_setHeight_111 : decode prog_1_method_25_code 111 = .ok (.getfield 54, 3) := by decide +kernel
theorem d_Mf_setHeight_114 : decode prog_1_method_25_code 114 = .ok (.aload_n 0, 1) := by decide +kernel
theorem d_Mf_setHeight_115 : decode prog_1_method_25_code 115 = .ok (.getfield 47, 3) := by decide +kernel
theorem d_Mf_setHeight_118 : decode prog_1_method_25_code 118 = .ok (.aload_n 0, 1) := by decide +kernel
theorem d_Mf_setHeight_119 : decode prog_1_method_25_code 119 = .ok (.getfield 51, 3) := by decide +kernel
theorem d_Mf_setHeight_122 : decode prog_1_method_25_code 122 = .ok (.iconst 1, 1) := by decide +kernel
theorem d_Mf_setHeight_123 : decode prog_1_method_25_code 123 = .ok (.invokevirtual 119, 3) := by decide +kernel
theorem d_Mf_setHeight_126 : decode prog_1_method_25_code 126 = .ok (.aload_n 0, 1) := by decide +kernel
theorem d_Mf_setHeight_127 : decode prog_1_method_25_code 127 = .ok (.getfield 38, 3) := by decide +kernel
theorem d_Mf_setHeight_130 : decode prog_1_method_25_code 130 = .ok (.aload_n 0, 1) := by decide +kernel
theorem d_Mf_setHeight_131 : decode prog_1_method_25_code 131 = .ok (.getfield 47, 3) := by decide +kernel
theorem d_Mf_setHeight_134 : decode prog_1_method_25_code 134 = .ok (.aload 5, 2) := by decide +kernel
theorem d_Mf_setHeight_136 : decode prog_1_method_25_code 136 = .ok (.aload 7, 2) := by decide +kernel
theorem d_Mf_setHeight_138 : decode prog_1_method_25_code 138 = .ok (.iconst 1, 1) := by decide +kernel
theorem d_Mf_setHeight_139 : decode prog_1_method_25_code 139 = .ok (.invokevirtual 115, 3) := by decide +kernel
theorem d_Mf_setHeight_142 : decode prog_1_method_25_code 142 = .ok (.aload_n 0, 1) := by decide +kernel
theorem d_Mf_setHeight_143 : decode prog_1_method_25_code 143 = .ok (.getfield 38, 3) := by decide +kernel
theorem d_Mf_setHeight_146 : decode prog_1_method_25_code 146 = .ok (.aload_n 0, 1) := by decide +kernel
theorem d_Mf_setHeight_147 : decode prog_1_method_25_code 147 = .ok (.getfield 51, 3) := by decide +kernel
theorem d_Mf_setHeight_150 : decode prog_1_method_25_code 150 = .ok (.aload_n 0, 1) := by decide +kernel
theorem d_Mf_setHeight_151 : decode prog_1_method_25_code 151 = .ok (.getfield 47, 3) := by decide +kernel
theorem d_Mf_setHeight_154 : decode prog_1_method_25_code 154 = .ok (.aload_n 0, 1) := by decide +kernel
theorem d_Mf_setHeight_155 : decode prog_1_method_25_code 155 = .ok (.getfield 54, 3) := by decide +kernel
theorem d_Mf_setHeight_158 : decode prog_1_method_25_code 158 = .ok (.iconst 0, 1) := by decide +kernel
theorem d_Mf_setHeight_159 : decode prog_1_method_25_code 159 = .ok (.invokevirtual 119, 3) := by decide +kernel
theorem d_Mf_setHeight_162 : decode prog_1_method_25_code 162 = .ok (.aload_n 0, 1) := by decide +kernel
theorem d_Mf_setHeight_163 : decode prog_1_method_25_code 163 = .ok (.getfield 38, 3) := by decide +kernel
theorem d_Mf_setHeight_166 : decode prog_1_method_25_code 166 = .ok (.aload_n 0, 1) := by decide +kernel
theorem d_Mf_setHeight_167 : decode prog_1_method_25_code 167 = .ok (.getfield 47, 3) := by decide +kernel
theorem d_Mf_setHeight_170 : decode prog_1_method_25_code 170 = .ok (.aload 7, 2) := by decide +kernel
theorem d_Mf_setHeight_172 : decode prog_1_method_25_code 172 = .ok (.aload_n 0, 1) := by decide +kernel
theorem d_Mf_setHeight_173 : decode prog_1_method_25_code 173 = .ok (.getfield 51, 3) := by decide +kernel
theorem d_Mf_setHeight_176 : decode prog_1_method_25_code 176 = .ok (.iconst 0, 1) := by decide +kernel
theorem d_Mf_setHeight_177 : decode prog_1_method_25_code 177 = .ok (.invokevirtual 115, 3) := by decide +kernel
theorem d_Mf_setHeight_180 : decode prog_1_method_25_code 180 = .ok (.return_, 1) := by decide +kernel
theorem d_Mf_addStrip_0 : decode prog_1_method_26_code 0 = .ok (.aload_n 0, 1) := by decide +kernel
theorem d_Mf_addStrip_1 : decode prog_1_method_26_code 1 = .ok (.getfield 38, 3) := by decide +kernel
theorem d_Mf_addStrip_4 : decode prog_1_method_26_code 4 = .ok (.aload_n 0, 1) := by decide +kernel
theorem d_Mf_addStrip_5 : decode prog_1_method_26_code 5 = .ok (.getfield 47, 3) := by decide +kernel
theorem d_Mf_addStrip_8 : decode prog_1_method_26_code 8 = .ok (.aload_n 1, 1) := by decide +kernel
theorem d_Mf_addStrip_9 : decode prog_1_method_26_code 9 = .ok (.getfield 171, 3) := by decide +kernel
theorem d_Mf_addStrip_12 : decode prog_1_method_26_code 12 = .ok (.iload_n 2, 1) := by decide +kernel
theorem d_Mf_addStrip_13 : decode prog_1_method_26_code 13 = .ok (.aaload, 1) := by decide +kernel
theorem d_Mf_addStrip_14 : decode prog_1_method_26_code 14 = .ok (.getfield 112, 3) := by decide +kernel
theorem d_Mf_addStrip_17 : decode prog_1_method_26_code 17 = .ok (.aload_n 1, 1) := by decide +kernel
theorem d_Mf_addStrip_18 : decode prog_1_method_26_code 18 = .ok (.getfield 171, 3) := by decide +kernel
theorem d_Mf_addStrip_21 : decode prog_1_method_26_code 21 = .ok (.iload_n 2, 1) := by decide +kernel
theorem d_Mf_addStrip_22 : decode prog_1_method_26_code 22 = .ok (.iconst 1, 1) := by decide +kernel
theorem d_Mf_addStrip_23 : decode prog_1_method_26_code 23 = .ok (.isub, 1) := by decide +kernel
theorem d_Mf_addStrip_24 : decode prog_1_method_26_code 24 = .ok (.aaload, 1) := by decide +kernel
theorem d_Mf_addStrip_25 : decode prog_1_method_26_code 25 = .ok (.getfield 112, 3) := by decide +kernel
theorem d_Mf_addStrip_28 : decode prog_1_method_26_code 28 = .ok (.iconst 1, 1) := by decide +kernel
theorem d_Mf_addStrip_29 : decode prog_1_method_26_code 29 = .ok (.invokevirtual 115, 3) := by decide +kernel
theorem d_Mf_addStrip_32 : decode prog_1_method_26_code 32 = .ok (.aload_n 0, 1) := by decide +kernel
theorem d_Mf_addStrip_33 : decode prog_1_method_26_code 33 = .ok (.getfield 38, 3) := by decide +kernel
theorem d_Mf_addStrip_36 : decode prog_1_method_26_code 36 = .ok (.aload_n 0, 1) := by decide +kernel
theorem d_Mf_addStrip_37 : decode prog_1_method_26_code 37 = .ok (.getfield 51, 3) := by decide +kernel
theorem d_Mf_addStrip_40 : decode prog_1_method_26_code 40 = .ok (.aload_n 1, 1) := by decide +kernel
theorem d_Mf_addStrip_41 : decode prog_1_method_26_code 41 = .ok (.getfield 174, 3) := by decide +kernel
theorem d_Mf_addStrip_44 : decode prog_1_method_26_code 44 = .ok (.iload_n 2, 1) := by decide +kernel
theorem d_Mf_addStrip_45 : decode prog_1_method_26_code 45 = .ok (.aaload, 1) := by decide +kernel
theorem d_Mf_addStrip_46 : decode prog_1_method_26_code 46 = .ok (.getfield 112, 3) := by decide +kernel
theorem d_Mf_addStrip_49 : decode prog_1_method_26_code 49 = .ok (.aload_n 1, 1) := by decide +kernel
theorem d_Mf_addStrip_50 : decode prog_1_method_26_code 50 = .ok (.getfield 174, 3) := by decide +kernel
theorem d_Mf_addStrip_53 : decode prog_1_method_26_code 53 = .ok (.iload_n 2, 1) := by decide +kernel
theorem d_Mf_addStrip_54 : decode prog_1_method_26_code 54 = .ok (.iconst 1, 1) := by decide +kernel
theorem d_Mf_addStrip_55 : decode prog_1_method_26_code 55 = .ok (.isub, 1) := by decide +kernel
theorem d_Mf_addStrip_56 : decode prog_1_method_26_code 56 = .ok (.aaload, 1) := by decide +kernel
theorem d_Mf_addStrip_57 : decode prog_1_method_26_code 57 = .ok (.getfield 112, 3) := by decide +kernel
theorem d_Mf_addStrip_60 : decode prog_1_method_26_code 60 = .ok (.iconst 0, 1) := by decide +kernel
theorem d_Mf_addStrip_61 : decode prog_1_method_26_code 61 = .ok (.invokevirtual 115, 3) := by decide +kernel
theorem d_Mf_addStrip_64 : decode prog_1_method_26_code 64 = .ok (.aload_n 0, 1) := by decide +kernel
theorem d_Mf_addStrip_65 : decode prog_1_method_26_code 65 = .ok (.getfield 38, 3) := by decide +kernel
theorem d_Mf_addStrip_68 : decode prog_1_method_26_code 68 = .ok (.aload_n 0, 1) := by decide +kernel
theorem d_Mf_addStrip_69 : decode prog_1_method_26_code 69 = .ok (.getfield 54, 3) := by decide +kernel
theorem d_Mf_addStrip_72 : decode prog_1_method_26_code 72 = .ok (.aload_n 0, 1) := by decide +kernel
theorem d_Mf_addStrip_73 : decode prog_1_method_26_code 73 = .ok (.getfield 47, 3) := by decide +kernel
theorem d_Mf_addStrip_76 : decode prog_1_method_26_code 76 = .ok (.aload_n 0, 1) := by decide +kernel
theorem d_Mf_addStrip_77 : decode prog_1_method_26_code 77 = .ok (.getfield 51, 3) := by decide +kernel
theorem d_Mf_addStrip_80 : decode prog_1_method_26_code 80 = .ok (.iconst 0, 1) := by decide +kernel
theorem d_Mf_addStrip_81 : decode prog_1_method_26_code 81 = .ok (.invokevirtual 119, 3) := by decide +kernel
theorem d_Mf_addStrip_84 : decode prog_1_method_26_code 84 = .ok (.aload_n 0, 1) := by decide +kernel
theorem d_Mf_addStrip_85 : decode prog_1_method_26_code 85 = .ok (.getfield 38, 3) := by decide +kernel
theorem d_Mf_addStrip_88 : decode prog_1_method_26_code 88 = .ok (.aload_n 0, 1) := by decide +kernel
theorem d_Mf_addStrip_89 : decode prog_1_method_26_code 89 = .ok (.getfield 47, 3) := by decide +kernel
theorem d_Mf_addStrip_92 : decode prog_1_method_26_code 92 = .ok (.aload_n 0, 1) := by decide +kernel
theorem d_Mf_addStrip_93 : decode prog_1_method_26_code 93 = .ok (.getfield 54, 3) := by decide +kernel
theorem d_Mf_addStrip_96 : decode prog_1_method_26_code 96 = .ok (.aload_n 0, 1) := by decide +kernel
theorem d_Mf_addStrip_97 : decode prog_1_method_26_code 97 = .ok (.getfield 70, 3) := by decide +kernel
theorem d_Mf_addStrip_100 : decode prog_1_method_26_code 100 = .ok (.iconst 0, 1) := by decide +kernel
theorem d_Mf_addStrip_101 : decode prog_1_method_26_code 101 = .ok (.invokevirtual 119, 3) := by decide +kernel
theorem d_Mf_addStrip_104 : decode prog_1_method_26_code 104 = .ok (.aload_n 0, 1) := by decide +kernel
theorem d_Mf_addStrip_105 : decode prog_1_method_26_code 105 = .ok (.getfield 38, 3) := by decide +kernel
theorem d_Mf_addStrip_108 : decode prog_1_method_26_code 108 = .ok (.aload_n 0, 1) := by decide +kernel
theorem d_Mf_addStrip_109 : decode prog_1_method_26_code 109 = .ok (.getfield 51, 3) := by decide +kernel
theorem d_Mf_addStrip_112 : decode prog_1_method_26_code 112 = .ok (.aload_n 0, 1) := by decide +kernel
theorem d_Mf_addStrip_113 : decode prog_1_method_26_code 113 = .ok (.getfield 57, 3) := by decide +kernel
theorem d_Mf_addStrip_116 : decode prog_1_method_26_code 116 = .ok (.aload_n 0, 1) := by decide +kernel
theorem d_Mf_addStrip_117 : decode prog_1_method_26_code 117 = .ok (.getfield 47, 3) := by decide +kernel
theorem d_Mf_addStrip_120 : decode prog_1_method_26_code 120 = .ok (.iconst 0, 1) := by decide +kernel
theorem d_Mf_addStrip_121 : decode prog_1_method_26_code 121 = .ok (.invokevirtual 115, 3) := by decide +kernel
theorem d_Mf_addStrip_124 : decode prog_1_method_26_code 124 = .ok (.aload_n 0, 1) := by decide +kernel
theorem d_Mf_addStrip_125 : decode prog_1_method_26_code 125 = .ok (.getfield 57, 3) := by decide +kernel
theorem d_Mf_addStrip_128 : decode prog_1_method_26_code 128 = .ok (.aload_n 0, 1) := by decide +kernel
theorem d_Mf_addStrip_129 : decode prog_1_method_26_code 129 = .ok (.getfield 51, 3) := by decide +kernel
theorem d_Mf_addStrip_132 : decode prog_1_method_26_code 132 = .ok (.invokevirtual 189, 3) := by decide +kernel
theorem d_Mf_addStrip_135 : decode prog_1_method_26_code 135 = .ok (.return_, 1) := by decide +kernel
