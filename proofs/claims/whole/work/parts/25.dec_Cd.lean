theorem d_Cd_init_0 : decode prog_3_method_1_code 0 = .ok (.aload_n 0, 1) := by decide +kernel
theorem d_Cd_init_1 : decode prog_3_method_1_code 1 = .ok (.invokespecial 3, 3) := by decide +kernel
theorem d_Cd_init_4 : decode prog_3_method_1_code 4 = .ok (.aload_n 0, 1) := by decide +kernel
theorem d_Cd_init_5 : decode prog_3_method_1_code 5 = .ok (.new 9, 3) := by decide +kernel
theorem d_Cd_init_8 : decode prog_3_method_1_code 8 = .ok (.dup, 1) := by decide +kernel
theorem d_Cd_init_9 : decode prog_3_method_1_code 9 = .ok (.bipush 24, 2) := by decide +kernel
theorem d_Cd_init_11 : decode prog_3_method_1_code 11 = .ok (.invokespecial 11, 3) := by decide +kernel
theorem d_Cd_init_14 : decode prog_3_method_1_code 14 = .ok (.putfield 14, 3) := by decide +kernel
theorem d_Cd_init_17 : decode prog_3_method_1_code 17 = .ok (.aload_n 0, 1) := by decide +kernel
theorem d_Cd_init_18 : decode prog_3_method_1_code 18 = .ok (.new 9, 3) := by decide +kernel
theorem d_Cd_init_21 : decode prog_3_method_1_code 21 = .ok (.dup, 1) := by decide +kernel
theorem d_Cd_init_22 : decode prog_3_method_1_code 22 = .ok (.bipush 24, 2) := by decide +kernel
theorem d_Cd_init_24 : decode prog_3_method_1_code 24 = .ok (.invokespecial 11, 3) := by decide +kernel
theorem d_Cd_init_27 : decode prog_3_method_1_code 27 = .ok (.putfield 20, 3) := by decide +kernel
theorem d_Cd_init_30 : decode prog_3_method_1_code 30 = .ok (.aload_n 0, 1) := by decide +kernel
theorem d_Cd_init_31 : decode prog_3_method_1_code 31 = .ok (.aload_n 1, 1) := by decide +kernel
theorem d_Cd_init_32 : decode prog_3_method_1_code 32 = .ok (.putfield 23, 3) := by decide +kernel
theorem d_Cd_init_35 : decode prog_3_method_1_code 35 = .ok (.return_, 1) := by decide +kernel
theorem d_Cd_find_0 : decode prog_3_method_2_code 0 = .ok (.aload_n 1, 1) := by decide +kernel
theorem d_Cd_find_1 : decode prog_3_method_2_code 1 = .ok (.aload_n 2, 1) := by decide +kernel
theorem d_Cd_find_2 : decode prog_3_method_2_code 2 = .ok (.invokevirtual 27, 3) := by decide +kernel
theorem d_Cd_find_5 : decode prog_3_method_2_code 5 = .ok (.ifCond .lt 7, 3) := by decide +kernel
theorem d_Cd_find_8 : decode prog_3_method_2_code 8 = .ok (.iconst 1, 1) := by decide +kernel
theorem d_Cd_find_9 : decode prog_3_method_2_code 9 = .ok (.goto 4, 3) := by decide +kernel
theorem d_Cd_find_12 : decode prog_3_method_2_code 12 = .ok (.iconst 0, 1) := by decide +kernel
theorem d_Cd_find_13 : decode prog_3_method_2_code 13 = .ok (.istore_n 3, 1) := by decide +kernel
theorem d_Cd_find_14 : decode prog_3_method_2_code 14 = .ok (.aload_n 0, 1) := by decide +kernel
theorem d_Cd_find_15 : decode prog_3_method_2_code 15 = .ok (.getfield 14, 3) := by decide +kernel
theorem d_Cd_find_18 : decode prog_3_method_2_code 18 = .ok (.iload_n 3, 1) := by decide +kernel
theorem d_Cd_find_19 : decode prog_3_method_2_code 19 = .ok (.ifCond .eq 7, 3) := by decide +kernel
theorem d_Cd_find_22 : decode prog_3_method_2_code 22 = .ok (.aload_n 1, 1) := by decide +kernel
theorem d_Cd_find_23 : decode prog_3_method_2_code 23 = .ok (.goto 4, 3) := by decide +kernel
theorem d_Cd_find_26 : decode prog_3_method_2_code 26 = .ok (.aload_n 2, 1) := by decide +kernel
theorem d_Cd_find_27 : decode prog_3_method_2_code 27 = .ok (.invokevirtual 31, 3) := by decide +kernel
theorem d_Cd_find_30 : decode prog_3_method_2_code 30 = .ok (.aload_n 0, 1) := by decide +kernel
theorem d_Cd_find_31 : decode prog_3_method_2_code 31 = .ok (.getfield 20, 3) := by decide +kernel
theorem d_Cd_find_34 : decode prog_3_method_2_code 34 = .ok (.iload_n 3, 1) := by decide +kernel
theorem d_Cd_find_35 : decode prog_3_method_2_code 35 = .ok (.ifCond .eq 7, 3) := by decide +kernel
theorem d_Cd_find_38 : decode prog_3_method_2_code 38 = .ok (.aload_n 2, 1) := by decide +kernel
theorem d_Cd_find_39 : decode prog_3_method_2_code 39 = .ok (.goto 4, 3) := by decide +kernel
theorem d_Cd_find_42 : decode prog_3_method_2_code 42 = .ok (.aload_n 1, 1) := by decide +kernel
theorem d_Cd_find_43 : decode prog_3_method_2_code 43 = .ok (.invokevirtual 31, 3) := by decide +kernel
theorem d_Cd_find_46 : decode prog_3_method_2_code 46 = .ok (.iconst 0, 1) := by decide +kernel
theorem d_Cd_find_47 : decode prog_3_method_2_code 47 = .ok (.istore 4, 2) := by decide +kernel
theorem d_Cd_find_49 : decode prog_3_method_2_code 49 = .ok (.iload 4, 2) := by decide +kernel
theorem d_Cd_find_51 : decode prog_3_method_2_code 51 = .ok (.ldc 35, 2) := by decide +kernel
theorem d_Cd_find_53 : decode prog_3_method_2_code 53 = .ok (.if_icmp .ge 84, 3) := by decide +kernel
theorem d_Cd_find_56 : decode prog_3_method_2_code 56 = .ok (.aload_n 0, 1) := by decide +kernel
theorem d_Cd_find_57 : decode prog_3_method_2_code 57 = .ok (.getfield 14, 3) := by decide +kernel
theorem d_Cd_find_60 : decode prog_3_method_2_code 60 = .ok (.getfield 36, 3) := by decide +kernel
theorem d_Cd_find_63 : decode prog_3_method_2_code 63 = .ok (.iconst 2, 1) := by decide +kernel
theorem d_Cd_find_64 : decode prog_3_method_2_code 64 = .ok (.if_icmp .le 73, 3) := by decide +kernel
theorem d_Cd_find_67 : decode prog_3_method_2_code 67 = .ok (.aload_n 0, 1) := by decide +kernel
theorem d_Cd_find_68 : decode prog_3_method_2_code 68 = .ok (.getfield 20, 3) := by decide +kernel
theorem d_Cd_find_71 : decode prog_3_method_2_code 71 = .ok (.getfield 36, 3) := by decide +kernel
theorem d_Cd_find_74 : decode prog_3_method_2_code 74 = .ok (.ifCond .le 63, 3) := by decide +kernel
theorem d_Cd_find_77 : decode prog_3_method_2_code 77 = .ok (.aload_n 0, 1) := by decide +kernel
theorem d_Cd_find_78 : decode prog_3_method_2_code 78 = .ok (.invokevirtual 40, 3) := by decide +kernel
theorem d_Cd_find_81 : decode prog_3_method_2_code 81 = .ok (.ifCond .eq 10, 3) := by decide +kernel
theorem d_Cd_find_84 : decode prog_3_method_2_code 84 = .ok (.aload_n 0, 1) := by decide +kernel
theorem d_Cd_find_85 : decode prog_3_method_2_code 85 = .ok (.invokevirtual 44, 3) := by decide +kernel
theorem d_Cd_find_88 : decode prog_3_method_2_code 88 = .ok (.goto 43, 3) := by decide +kernel
theorem d_Cd_find_91 : decode prog_3_method_2_code 91 = .ok (.aload_n 0, 1) := by decide +kernel
theorem d_Cd_find_92 : decode prog_3_method_2_code 92 = .ok (.getfield 23, 3) := by decide +kernel
theorem d_Cd_find_95 : decode prog_3_method_2_code 95 = .ok (.aload_n 0, 1) := by decide +kernel
theorem d_Cd_find_96 : decode prog_3_method_2_code 96 = .ok (.getfield 14, 3) := by decide +kernel
theorem d_Cd_find_99 : decode prog_3_method_2_code 99 = .ok (.aload_n 0, 1) := by decide +kernel
theorem d_Cd_find_100 : decode prog_3_method_2_code 100 = .ok (.getfield 20, 3) := by decide +kernel
theorem d_Cd_find_103 : decode prog_3_method_2_code 103 = .ok (.invokevirtual 47, 3) := by decide +kernel
theorem d_Cd_find_106 : decode prog_3_method_2_code 106 = .ok (.aload_n 0, 1) := by decide +kernel
theorem d_Cd_find_107 : decode prog_3_method_2_code 107 = .ok (.getfield 14, 3) := by decide +kernel
theorem d_Cd_find_110 : decode prog_3_method_2_code 110 = .ok (.aload_n 0, 1) := by decide +kernel
theorem d_Cd_find_111 : decode prog_3_method_2_code 111 = .ok (.getfield 20, 3) := by decide +kernel
theorem d_Cd_find_114 : decode prog_3_method_2_code 114 = .ok (.invokevirtual 31, 3) := by decide +kernel
theorem d_Cd_find_117 : decode prog_3_method_2_code 117 = .ok (.aload_n 0, 1) := by decide +kernel
theorem d_Cd_find_118 : decode prog_3_method_2_code 118 = .ok (.getfield 20, 3) := by decide +kernel
theorem d_Cd_find_121 : decode prog_3_method_2_code 121 = .ok (.aload_n 0, 1) := by decide +kernel
theorem d_Cd_find_122 : decode prog_3_method_2_code 122 = .ok (.getfield 23, 3) := by decide +kernel
theorem d_Cd_find_125 : decode prog_3_method_2_code 125 = .ok (.getfield 53, 3) := by decide +kernel
theorem d_Cd_find_128 : decode prog_3_method_2_code 128 = .ok (.invokevirtual 31, 3) := by decide +kernel
theorem d_Cd_find_131 : decode prog_3_method_2_code 131 = .ok (.iinc 4 1, 3) := by decide +kernel
theorem d_Cd_find_134 : decode prog_3_method_2_code 134 = .ok (.goto (-85), 3) := by decide +kernel
theorem d_Cd_find_137 : decode prog_3_method_2_code 137 = .ok (.aload_n 0, 1) := by decide +kernel
theorem d_Cd_find_138 : decode prog_3_method_2_code 138 = .ok (.getfield 20, 3) := by decide +kernel
theorem d_Cd_find_141 : decode prog_3_method_2_code 141 = .ok (.getfield 36, 3) := by decide +kernel
theorem d_Cd_find_144 : decode prog_3_method_2_code 144 = .ok (.ifCond .le 27, 3) := by decide +kernel
theorem d_Cd_find_147 : decode prog_3_method_2_code 147 = .ok (.aload_n 0, 1) := by decide +kernel
theorem d_Cd_find_148 : decode prog_3_method_2_code 148 = .ok (.getfield 14, 3) := by decide +kernel
theorem d_Cd_find_151 : decode prog_3_method_2_code 151 = .ok (.aload_n 0, 1) := by decide +kernel
theorem d_Cd_find_152 : decode prog_3_method_2_code 152 = .ok (.getfield 14, 3) := by decide +kernel
theorem d_Cd_find_155 : decode prog_3_method_2_code 155 = .ok (.invokevirtual 56, 3) := by decide +kernel
theorem d_Cd_find_158 : decode prog_3_method_2_code 158 = .ok (.aload_n 0, 1) := by decide +kernel
theorem d_Cd_find_159 : decode prog_3_method_2_code 159 = .ok (.getfield 20, 3) := by decide +kernel
theorem d_Cd_find_162 : decode prog_3_method_2_code 162 = .ok (.invokevirtual 56, 3) := by decide +kernel
theorem d_Cd_find_165 : decode prog_3_method_2_code 165 = .ok (.invokestatic 60, 3) := by decide +kernel
theorem d_Cd_find_168 : decode prog_3_method_2_code 168 = .ok (.invokevirtual 64, 3) := by decide +kernel
theorem d_Cd_find_171 : decode prog_3_method_2_code 171 = .ok (.aload_n 0, 1) := by decide +kernel
theorem d_Cd_find_172 : decode prog_3_method_2_code 172 = .ok (.getfield 14, 3) := by decide +kernel
theorem d_Cd_find_175 : decode prog_3_method_2_code 175 = .ok (.areturn, 1) := by decide +kernel
theorem d_Cd_findShort_0 : decode prog_3_method_3_code 0 = .ok (.lload_n 0, 1) := by decide +kernel
theorem d_Cd_findShort_1 : decode prog_3_method_3_code 1 = .ok (.lstore 4, 2) := by decide +kernel
theorem d_Cd_findShort_3 : decode prog_3_method_3_code 3 = .ok (.lload_n 2, 1) := by decide +kernel
theorem d_Cd_findShort_4 : decode prog_3_method_3_code 4 = .ok (.lstore 6, 2) := by decide +kernel
theorem d_Cd_findShort_6 : decode prog_3_method_3_code 6 = .ok (.iconst 0, 1) := by decide +kernel
theorem d_Cd_findShort_7 : decode prog_3_method_3_code 7 = .ok (.istore 8, 2) := by decide +kernel
theorem d_Cd_findShort_9 : decode prog_3_method_3_code 9 = .ok (.iload 8, 2) := by decide +kernel
theorem d_Cd_findShort_11 : decode prog_3_method_3_code 11 = .ok (.bipush 100, 2) := by decide +kernel
theorem d_Cd_findShort_13 : decode prog_3_method_3_code 13 = .ok (.if_icmp .ge 31, 3) := by decide +kernel
theorem d_Cd_findShort_16 : decode prog_3_method_3_code 16 = .ok (.lload 6, 2) := by decide +kernel
theorem d_Cd_findShort_18 : decode prog_3_method_3_code 18 = .ok (.lconst 0, 1) := by decide +kernel
theorem d_Cd_findShort_19 : decode prog_3_method_3_code 19 = .ok (.lcmp, 1) := by decide +kernel
theorem d_Cd_findShort_20 : decode prog_3_method_3_code 20 = .ok (.ifCond .eq 24, 3) := by decide +kernel
theorem d_Cd_findShort_23 : decode prog_3_method_3_code 23 = .ok (.lload 4, 2) := by decide +kernel
theorem d_Cd_findShort_25 : decode prog_3_method_3_code 25 = .ok (.lload 6, 2) := by decide +kernel
theorem d_Cd_findShort_27 : decode prog_3_method_3_code 27 = .ok (.lrem, 1) := by decide +kernel
theorem d_Cd_findShort_28 : decode prog_3_method_3_code 28 = .ok (.lstore 9, 2) := by decide +kernel
theorem d_Cd_findShort_30 : decode prog_3_method_3_code 30 = .ok (.lload 6, 2) := by decide +kernel
theorem d_Cd_findShort_32 : decode prog_3_method_3_code 32 = .ok (.lstore 4, 2) := by decide +kernel
theorem d_Cd_findShort_34 : decode prog_3_method_3_code 34 = .ok (.lload 9, 2) := by decide +kernel
theorem d_Cd_findShort_36 : decode prog_3_method_3_code 36 = .ok (.lstore 6, 2) := by decide +kernel
theorem d_Cd_findShort_38 : decode prog_3_method_3_code 38 = .ok (.iinc 8 1, 3) := by decide +kernel
theorem d_Cd_findShort_41 : decode prog_3_method_3_code 41 = .ok (.goto (-32), 3) := by decide +kernel
theorem d_Cd_findShort_44 : decode prog_3_method_3_code 44 = .ok (.lload 4, 2) := by decide +kernel
theorem d_Cd_findShort_46 : decode prog_3_method_3_code 46 = .ok (.lreturn, 1) := by decide +kernel
theorem d_Cd_findFactors_0 : decode prog_3_method_4_code 0 = .ok (.aload_n 0, 1) := by decide +kernel
theorem d_Cd_findFactors_1 : decode prog_3_method_4_code 1 = .ok (.getfield 14, 3) := by decide +kernel
theorem d_Cd_findFactors_4 : decode prog_3_method_4_code 4 = .ok (.aload_n 0, 1) := by decide +kernel
theorem d_Cd_findFactors_5 : decode prog_3_method_4_code 5 = .ok (.getfield 14, 3) := by decide +kernel
theorem d_Cd_findFactors_8 : decode prog_3_method_4_code 8 = .ok (.getfield 36, 3) := by decide +kernel
theorem d_Cd_findFactors_11 : decode prog_3_method_4_code 11 = .ok (.iconst 1, 1) := by decide +kernel
theorem d_Cd_findFactors_12 : decode prog_3_method_4_code 12 = .ok (.isub, 1) := by decide +kernel
theorem d_Cd_findFactors_13 : decode prog_3_method_4_code 13 = .ok (.invokevirtual 68, 3) := by decide +kernel
theorem d_Cd_findFactors_16 : decode prog_3_method_4_code 16 = .ok (.invokestatic 72, 3) := by decide +kernel
theorem d_Cd_findFactors_19 : decode prog_3_method_4_code 19 = .ok (.istore_n 1, 1) := by decide +kernel
theorem d_Cd_findFactors_20 : decode prog_3_method_4_code 20 = .ok (.aload_n 0, 1) := by decide +kernel
theorem d_Cd_findFactors_21 : decode prog_3_method_4_code 21 = .ok (.getfield 14, 3) := by decide +kernel
theorem d_Cd_findFactors_24 : decode prog_3_method_4_code 24 = .ok (.aload_n 0, 1) := by decide +kernel
theorem d_Cd_findFactors_25 : decode prog_3_method_4_code 25 = .ok (.getfield 14, 3) := by decide +kernel
theorem d_Cd_findFactors_28 : decode prog_3_method_4_code 28 = .ok (.getfield 36, 3) := by decide +kernel
theorem d_Cd_findFactors_31 : decode prog_3_method_4_code 31 = .ok (.iload_n 1, 1) := by decide +kernel
theorem d_Cd_findFactors_32 : decode prog_3_method_4_code 32 = .ok (.invokevirtual 75, 3) := by decide +kernel
theorem d_Cd_findFactors_35 : decode prog_3_method_4_code 35 = .ok (.lstore_n 2, 1) := by decide +kernel
theorem d_Cd_findFactors_36 : decode prog_3_method_4_code 36 = .ok (.aload_n 0, 1) := by decide +kernel
theorem d_Cd_findFactors_37 : decode prog_3_method_4_code 37 = .ok (.getfield 20, 3) := by decide +kernel
theorem d_Cd_findFactors_40 : decode prog_3_method_4_code 40 = .ok (.aload_n 0, 1) := by decide +kernel
theorem d_Cd_findFactors_41 : decode prog_3_method_4_code 41 = .ok (.getfield 14, 3) := by decide +kernel
theorem d_Cd_findFactors_44 : decode prog_3_method_4_code 44 = .ok (.getfield 36, 3) := by decide +kernel
theorem d_Cd_findFactors_47 : decode prog_3_method_4_code 47 = .ok (.iload_n 1, 1) := by decide +kernel
theorem d_Cd_findFactors_48 : decode prog_3_method_4_code 48 = .ok (.invokevirtual 75, 3) := by decide +kernel
theorem d_Cd_findFactors_51 : decode prog_3_method_4_code 51 = .ok (.lstore 4, 2) := by decide +kernel
theorem d_Cd_findFactors_53 : decode prog_3_method_4_code 53 = .ok (.aload_n 0, 1) := by decide +kernel
theorem d_Cd_findFactors_54 : decode prog_3_method_4_code 54 = .ok (.lconst 1, 1) := by decide +kernel
theorem d_Cd_findFactors_55 : decode prog_3_method_4_code 55 = .ok (.putfield 79, 3) := by decide +kernel
theorem d_Cd_findFactors_58 : decode prog_3_method_4_code 58 = .ok (.aload_n 0, 1) := by decide +kernel
theorem d_Cd_findFactors_59 : decode prog_3_method_4_code 59 = .ok (.lconst 0, 1) := by decide +kernel
theorem d_Cd_findFactors_60 : decode prog_3_method_4_code 60 = .ok (.putfield 83, 3) := by decide +kernel
theorem d_Cd_findFactors_63 : decode prog_3_method_4_code 63 = .ok (.aload_n 0, 1) := by decide +kernel
theorem d_Cd_findFactors_64 : decode prog_3_method_4_code 64 = .ok (.lconst 0, 1) := by decide +kernel
theorem d_Cd_findFactors_65 : decode prog_3_method_4_code 65 = .ok (.putfield 86, 3) := by decide +kernel
theorem d_Cd_findFactors_68 : decode prog_3_method_4_code 68 = .ok (.aload_n 0, 1) := by decide +kernel
theorem d_Cd_findFactors_69 : decode prog_3_method_4_code 69 = .ok (.lconst 1, 1) := by decide +kernel
theorem d_Cd_findFactors_70 : decode prog_3_method_4_code 70 = .ok (.putfield 89, 3) := by decide +kernel
theorem d_Cd_findFactors_73 : decode prog_3_method_4_code 73 = .ok (.iconst 0, 1) := by decide +kernel
theorem d_Cd_findFactors_74 : decode prog_3_method_4_code 74 = .ok (.istore 6, 2) := by decide +kernel
theorem d_Cd_findFactors_76 : decode prog_3_method_4_code 76 = .ok (.iload 6, 2) := by decide +kernel
theorem d_Cd_findFactors_78 : decode prog_3_method_4_code 78 = .ok (.bipush 100, 2) := by decide +kernel
theorem d_Cd_findFactors_80 : decode prog_3_method_4_code 80 = .ok (.if_icmp .ge 180, 3) := by decide +kernel
theorem d_Cd_findFactors_83 : decode prog_3_method_4_code 83 = .ok (.lload 4, 2) := by decide +kernel
theorem d_Cd_findFactors_85 : decode prog_3_method_4_code 85 = .ok (.aload_n 0, 1) := by decide +kernel
theorem d_Cd_findFactors_86 : decode prog_3_method_4_code 86 = .ok (.getfield 86, 3) := by decide +kernel
theorem d_Cd_findFactors_89 : decode prog_3_method_4_code 89 = .ok (.ladd, 1) := by decide +kernel
theorem d_Cd_findFactors_90 : decode prog_3_method_4_code 90 = .ok (.lconst 0, 1) := by decide +kernel
theorem d_Cd_findFactors_91 : decode prog_3_method_4_code 91 = .ok (.lcmp, 1) := by decide +kernel
theorem d_Cd_findFactors_92 : decode prog_3_method_4_code 92 = .ok (.ifCond .le 168, 3) := by decide +kernel
theorem d_Cd_findFactors_95 : decode prog_3_method_4_code 95 = .ok (.lload 4, 2) := by decide +kernel
theorem d_Cd_findFactors_97 : decode prog_3_method_4_code 97 = .ok (.aload_n 0, 1) := by decide +kernel
theorem d_Cd_findFactors_98 : decode prog_3_method_4_code 98 = .ok (.getfield 89, 3) := by decide +kernel
theorem d_Cd_findFactors_101 : decode prog_3_method_4_code 101 = .ok (.ladd, 1) := by decide +kernel
theorem d_Cd_findFactors_102 : decode prog_3_method_4_code 102 = .ok (.lconst 0, 1) := by decide +kernel
theorem d_Cd_findFactors_103 : decode prog_3_method_4_code 103 = .ok (.lcmp, 1) := by decide +kernel
theorem d_Cd_findFactors_104 : decode prog_3_method_4_code 104 = .ok (.ifCond .le 156, 3) := by decide +kernel
theorem d_Cd_findFactors_107 : decode prog_3_method_4_code 107 = .ok (.lload_n 2, 1) := by decide +kernel
theorem d_Cd_findFactors_108 : decode prog_3_method_4_code 108 = .ok (.aload_n 0, 1) := by decide +kernel
theorem d_Cd_findFactors_109 : decode prog_3_method_4_code 109 = .ok (.getfield 79, 3) := by decide +kernel
theorem d_Cd_findFactors_112 : decode prog_3_method_4_code 112 = .ok (.ladd, 1) := by decide +kernel
theorem d_Cd_findFactors_113 : decode prog_3_method_4_code 113 = .ok (.lload 4, 2) := by decide +kernel
theorem d_Cd_findFactors_115 : decode prog_3_method_4_code 115 = .ok (.aload_n 0, 1) := by decide +kernel
theorem d_Cd_findFactors_116 : decode prog_3_method_4_code 116 = .ok (.getfield 86, 3) := by decide +kernel
theorem d_Cd_findFactors_119 : decode prog_3_method_4_code 119 = .ok (.ladd, 1) := by decide +kernel
theorem d_Cd_findFactors_120 : decode prog_3_method_4_code 120 = .ok (.ldiv, 1) := by decide +kernel
theorem d_Cd_findFactors_121 : decode prog_3_method_4_code 121 = .ok (.lstore 7, 2) := by decide +kernel
theorem d_Cd_findFactors_123 : decode prog_3_method_4_code 123 = .ok (.lload 7, 2) := by decide +kernel
theorem d_Cd_findFactors_125 : decode prog_3_method_4_code 125 = .ok (.ldc2_w 92, 3) := by decide +kernel
theorem d_Cd_findFactors_128 : decode prog_3_method_4_code 128 = .ok (.lcmp, 1) := by decide +kernel
theorem d_Cd_findFactors_129 : decode prog_3_method_4_code 129 = .ok (.ifCond .gt 131, 3) := by decide +kernel
theorem d_Cd_findFactors_132 : decode prog_3_method_4_code 132 = .ok (.lload 7, 2) := by decide +kernel
theorem d_Cd_findFactors_134 : decode prog_3_method_4_code 134 = .ok (.lload_n 2, 1) := by decide +kernel
theorem d_Cd_findFactors_135 : decode prog_3_method_4_code 135 = .ok (.aload_n 0, 1) := by decide +kernel
theorem d_Cd_findFactors_136 : decode prog_3_method_4_code 136 = .ok (.getfield 83, 3) := by decide +kernel
theorem d_Cd_findFactors_139 : decode prog_3_method_4_code 139 = .ok (.ladd, 1) := by decide +kernel
theorem d_Cd_findFactors_140 : decode prog_3_method_4_code 140 = .ok (.lload 4, 2) := by decide +kernel
theorem d_Cd_findFactors_142 : decode prog_3_method_4_code 142 = .ok (.aload_n 0, 1) := by decide +kernel
theorem d_Cd_findFactors_143 : decode prog_3_method_4_code 143 = .ok (.getfield 89, 3) := by decide +kernel
theorem d_Cd_findFactors_146 : decode prog_3_method_4_code 146 = .ok (.ladd, 1) := by decide +kernel
theorem d_Cd_findFactors_147 : decode prog_3_method_4_code 147 = .ok (.ldiv, 1) := by decide +kernel
theorem d_Cd_findFactors_148 : decode prog_3_method_4_code 148 = .ok (.lcmp, 1) := by decide +kernel
theorem d_Cd_findFactors_149 : decode prog_3_method_4_code 149 = .ok (.ifCond .eq 6, 3) := by decide +kernel
theorem d_Cd_findFactors_152 : decode prog_3_method_4_code 152 = .ok (.goto 108, 3) := by decide +kernel
theorem d_Cd_findFactors_155 : decode prog_3_method_4_code 155 = .ok (.aload_n 0, 1) := by decide +kernel
theorem d_Cd_findFactors_156 : decode prog_3_method_4_code 156 = .ok (.getfield 79, 3) := by decide +kernel
theorem d_Cd_findFactors_159 : decode prog_3_method_4_code 159 = .ok (.lload 7, 2) := by decide +kernel
theorem d_Cd_findFactors_161 : decode prog_3_method_4_code 161 = .ok (.aload_n 0, 1) := by decide +kernel
theorem d_Cd_findFactors_162 : decode prog_3_method_4_code 162 = .ok (.getfield 86, 3) := by decide +kernel
theorem d_Cd_findFactors_165 : decode prog_3_method_4_code 165 = .ok (.lmul, 1) := by decide +kernel
theorem d_Cd_findFactors_166 : decode prog_3_method_4_code 166 = .ok (.lsub, 1) := by decide +kernel
theorem d_Cd_findFactors_167 : decode prog_3_method_4_code 167 = .ok (.lstore 9, 2) := by decide +kernel
theorem d_Cd_findFactors_169 : decode prog_3_method_4_code 169 = .ok (.aload_n 0, 1) := by decide +kernel
theorem d_Cd_findFactors_170 : decode prog_3_method_4_code 170 = .ok (.getfield 83, 3) := by decide +kernel
theorem d_Cd_findFactors_173 : decode prog_3_method_4_code 173 = .ok (.lload 7, 2) := by decide +kernel
theorem d_Cd_findFactors_175 : decode prog_3_method_4_code 175 = .ok (.aload_n 0, 1) := by decide +kernel
theorem d_Cd_findFactors_176 : decode prog_3_method_4_code 176 = .ok (.getfield 89, 3) := by decide +kernel
theorem d_Cd_findFactors_179 : decode prog_3_method_4_code 179 = .ok (.lmul, 1) := by decide +kernel
theorem d_Cd_findFactors_180 : decode prog_3_method_4_code 180 = .ok (.lsub, 1) := by decide +kernel
theorem d_Cd_findFactors_181 : decode prog_3_method_4_code 181 = .ok (.lstore 11, 2) := by decide +kernel
theorem d_Cd_findFactors_183 : decode prog_3_method_4_code 183 = .ok (.lload 9, 2) := by decide +kernel
theorem d_Cd_findFactors_185 : decode prog_3_method_4_code 185 = .ok (.invokestatic 94, 3) := by decide +kernel
theorem d_Cd_findFactors_188 : decode prog_3_method_4_code 188 = .ok (.ldc2_w 92, 3) := by decide +kernel
theorem d_Cd_findFactors_191 : decode prog_3_method_4_code 191 = .ok (.lcmp, 1) := by decide +kernel
theorem d_Cd_findFactors_192 : decode prog_3_method_4_code 192 = .ok (.ifCond .gt 68, 3) := by decide +kernel
theorem d_Cd_findFactors_195 : decode prog_3_method_4_code 195 = .ok (.lload 11, 2) := by decide +kernel
theorem d_Cd_findFactors_197 : decode prog_3_method_4_code 197 = .ok (.invokestatic 94, 3) := by decide +kernel
theorem d_Cd_findFactors_200 : decode prog_3_method_4_code 200 = .ok (.ldc2_w 92, 3) := by decide +kernel
theorem d_Cd_findFactors_203 : decode prog_3_method_4_code 203 = .ok (.lcmp, 1) := by decide +kernel
theorem d_Cd_findFactors_204 : decode prog_3_method_4_code 204 = .ok (.ifCond .le 6, 3) := by decide +kernel
theorem d_Cd_findFactors_207 : decode prog_3_method_4_code 207 = .ok (.goto 53, 3) := by decide +kernel
theorem d_Cd_findFactors_210 : decode prog_3_method_4_code 210 = .ok (.aload_n 0, 1) := by decide +kernel
theorem d_Cd_findFactors_211 : decode prog_3_method_4_code 211 = .ok (.aload_n 0, 1) := by decide +kernel
theorem d_Cd_findFactors_212 : decode prog_3_method_4_code 212 = .ok (.getfield 86, 3) := by decide +kernel
theorem d_Cd_findFactors_215 : decode prog_3_method_4_code 215 = .ok (.putfield 79, 3) := by decide +kernel
theorem d_Cd_findFactors_218 : decode prog_3_method_4_code 218 = .ok (.aload_n 0, 1) := by decide +kernel
theorem d_Cd_findFactors_219 : decode prog_3_method_4_code 219 = .ok (.aload_n 0, 1) := by decide +kernel
theorem d_Cd_findFactors_220 : decode prog_3_method_4_code 220 = .ok (.getfield 89, 3) := by decide +kernel
theorem d_Cd_findFactors_223 : decode prog_3_method_4_code 223 = .ok (.putfield 83, 3) := by decide +kernel
theorem d_Cd_findFactors_226 : decode prog_3_method_4_code 226 = .ok (.aload_n 0, 1) := by decide +kernel
theorem d_Cd_findFactors_227 : decode prog_3_method_4_code 227 = .ok (.lload 9, 2) := by decide +kernel
theorem d_Cd_findFactors_229 : decode prog_3_method_4_code 229 = .ok (.putfield 86, 3) := by decide +kernel
theorem d_Cd_findFactors_232 : decode prog_3_method_4_code 232 = .ok (.aload_n 0, 1) := by decide +kernel
theorem d_Cd_findFactors_233 : decode prog_3_method_4_code 233 = .ok (.lload 11, 2) := by decide +kernel
theorem d_Cd_findFactors_235 : decode prog_3_method_4_code 235 = .ok (.putfield 89, 3) := by decide +kernel
theorem d_Cd_findFactors_238 : decode prog_3_method_4_code 238 = .ok (.lload_n 2, 1) := by decide +kernel
theorem d_Cd_findFactors_239 : decode prog_3_method_4_code 239 = .ok (.lload 7, 2) := by decide +kernel
theorem d_Cd_findFactors_241 : decode prog_3_method_4_code 241 = .ok (.lload 4, 2) := by decide +kernel
theorem d_Cd_findFactors_243 : decode prog_3_method_4_code 243 = .ok (.lmul, 1) := by decide +kernel
theorem d_Cd_findFactors_244 : decode prog_3_method_4_code 244 = .ok (.lsub, 1) := by decide +kernel
theorem d_Cd_findFactors_245 : decode prog_3_method_4_code 245 = .ok (.lstore 13, 2) := by decide +kernel
theorem d_Cd_findFactors_247 : decode prog_3_method_4_code 247 = .ok (.lload 4, 2) := by decide +kernel
theorem d_Cd_findFactors_249 : decode prog_3_method_4_code 249 = .ok (.lstore_n 2, 1) := by decide +kernel
theorem d_Cd_findFactors_250 : decode prog_3_method_4_code 250 = .ok (.lload 13, 2) := by decide +kernel
theorem d_Cd_findFactors_252 : decode prog_3_method_4_code 252 = .ok (.lstore 4, 2) := by decide +kernel
theorem d_Cd_findFactors_254 : decode prog_3_method_4_code 254 = .ok (.iinc 6 1, 3) := by decide +kernel
theorem d_Cd_findFactors_257 : decode prog_3_method_4_code 257 = .ok (.goto (-181), 3) := by decide +kernel
theorem d_Cd_findFactors_260 : decode prog_3_method_4_code 260 = .ok (.aload_n 0, 1) := by decide +kernel
theorem d_Cd_findFactors_261 : decode prog_3_method_4_code 261 = .ok (.getfield 83, 3) := by decide +kernel
theorem d_Cd_findFactors_264 : decode prog_3_method_4_code 264 = .ok (.lconst 0, 1) := by decide +kernel
theorem d_Cd_findFactors_265 : decode prog_3_method_4_code 265 = .ok (.lcmp, 1) := by decide +kernel
theorem d_Cd_findFactors_266 : decode prog_3_method_4_code 266 = .ok (.ifCond .eq 7, 3) := by decide +kernel
theorem d_Cd_findFactors_269 : decode prog_3_method_4_code 269 = .ok (.iconst 1, 1) := by decide +kernel
theorem d_Cd_findFactors_270 : decode prog_3_method_4_code 270 = .ok (.goto 4, 3) := by decide +kernel
theorem d_Cd_findFactors_273 : decode prog_3_method_4_code 273 = .ok (.iconst 0, 1) := by decide +kernel
theorem d_Cd_findFactors_274 : decode prog_3_method_4_code 274 = .ok (.ireturn, 1) := by decide +kernel
theorem d_Cd_useFactors_0 : decode prog_3_method_5_code 0 = .ok (.aload_n 0, 1) := by decide +kernel
theorem d_Cd_useFactors_1 : decode prog_3_method_5_code 1 = .ok (.getfield 14, 3) := by decide +kernel
theorem d_Cd_useFactors_4 : decode prog_3_method_5_code 4 = .ok (.getfield 36, 3) := by decide +kernel
theorem d_Cd_useFactors_7 : decode prog_3_method_5_code 7 = .ok (.istore_n 1, 1) := by decide +kernel
theorem d_Cd_useFactors_8 : decode prog_3_method_5_code 8 = .ok (.aload_n 0, 1) := by decide +kernel
theorem d_Cd_useFactors_9 : decode prog_3_method_5_code 9 = .ok (.getfield 20, 3) := by decide +kernel
theorem d_Cd_useFactors_12 : decode prog_3_method_5_code 12 = .ok (.iload_n 1, 1) := by decide +kernel
theorem d_Cd_useFactors_13 : decode prog_3_method_5_code 13 = .ok (.invokevirtual 100, 3) := by decide +kernel
theorem d_Cd_useFactors_16 : decode prog_3_method_5_code 16 = .ok (.lconst 0, 1) := by decide +kernel
theorem d_Cd_useFactors_17 : decode prog_3_method_5_code 17 = .ok (.lstore_n 2, 1) := by decide +kernel
theorem d_Cd_useFactors_18 : decode prog_3_method_5_code 18 = .ok (.lconst 0, 1) := by decide +kernel
theorem d_Cd_useFactors_19 : decode prog_3_method_5_code 19 = .ok (.lstore 4, 2) := by decide +kernel
theorem d_Cd_useFactors_21 : decode prog_3_method_5_code 21 = .ok (.iconst 0, 1) := by decide +kernel
theorem d_Cd_useFactors_22 : decode prog_3_method_5_code 22 = .ok (.istore 6, 2) := by decide +kernel
theorem d_Cd_useFactors_24 : decode prog_3_method_5_code 24 = .ok (.iload 6, 2) := by decide +kernel
theorem d_Cd_useFactors_26 : decode prog_3_method_5_code 26 = .ok (.iload_n 1, 1) := by decide +kernel
theorem d_Cd_useFactors_27 : decode prog_3_method_5_code 27 = .ok (.if_icmp .ge 132, 3) := by decide +kernel
theorem d_Cd_useFactors_30 : decode prog_3_method_5_code 30 = .ok (.aload_n 0, 1) := by decide +kernel
theorem d_Cd_useFactors_31 : decode prog_3_method_5_code 31 = .ok (.getfield 14, 3) := by decide +kernel
theorem d_Cd_useFactors_34 : decode prog_3_method_5_code 34 = .ok (.getfield 103, 3) := by decide +kernel
theorem d_Cd_useFactors_37 : decode prog_3_method_5_code 37 = .ok (.iload 6, 2) := by decide +kernel
theorem d_Cd_useFactors_39 : decode prog_3_method_5_code 39 = .ok (.iaload, 1) := by decide +kernel
theorem d_Cd_useFactors_40 : decode prog_3_method_5_code 40 = .ok (.i2l, 1) := by decide +kernel
theorem d_Cd_useFactors_41 : decode prog_3_method_5_code 41 = .ok (.lstore 7, 2) := by decide +kernel
theorem d_Cd_useFactors_43 : decode prog_3_method_5_code 43 = .ok (.aload_n 0, 1) := by decide +kernel
theorem d_Cd_useFactors_44 : decode prog_3_method_5_code 44 = .ok (.getfield 20, 3) := by decide +kernel
theorem d_Cd_useFactors_47 : decode prog_3_method_5_code 47 = .ok (.getfield 103, 3) := by decide +kernel
theorem d_Cd_useFactors_50 : decode prog_3_method_5_code 50 = .ok (.iload 6, 2) := by decide +kernel
theorem d_Cd_useFactors_52 : decode prog_3_method_5_code 52 = .ok (.iaload, 1) := by decide +kernel
theorem d_Cd_useFactors_53 : decode prog_3_method_5_code 53 = .ok (.i2l, 1) := by decide +kernel
theorem d_Cd_useFactors_54 : decode prog_3_method_5_code 54 = .ok (.lstore 9, 2) := by decide +kernel
theorem d_Cd_useFactors_56 : decode prog_3_method_5_code 56 = .ok (.aload_n 0, 1) := by decide +kernel
theorem d_Cd_useFactors_57 : decode prog_3_method_5_code 57 = .ok (.getfield 79, 3) := by decide +kernel
theorem d_Cd_useFactors_60 : decode prog_3_method_5_code 60 = .ok (.lload 7, 2) := by decide +kernel
theorem d_Cd_useFactors_62 : decode prog_3_method_5_code 62 = .ok (.lmul, 1) := by decide +kernel
theorem d_Cd_useFactors_63 : decode prog_3_method_5_code 63 = .ok (.aload_n 0, 1) := by decide +kernel
theorem d_Cd_useFactors_64 : decode prog_3_method_5_code 64 = .ok (.getfield 83, 3) := by decide +kernel
theorem d_Cd_useFactors_67 : decode prog_3_method_5_code 67 = .ok (.lload 9, 2) := by decide +kernel
theorem d_Cd_useFactors_69 : decode prog_3_method_5_code 69 = .ok (.lmul, 1) := by decide +kernel
theorem d_Cd_useFactors_70 : decode prog_3_method_5_code 70 = .ok (.ladd, 1) := by decide +kernel
theorem d_Cd_useFactors_71 : decode prog_3_method_5_code 71 = .ok (.lload_n 2, 1) := by decide +kernel
theorem d_Cd_useFactors_72 : decode prog_3_method_5_code 72 = .ok (.ladd, 1) := by decide +kernel
theorem d_Cd_useFactors_73 : decode prog_3_method_5_code 73 = .ok (.lstore 11, 2) := by decide +kernel
theorem d_Cd_useFactors_75 : decode prog_3_method_5_code 75 = .ok (.aload_n 0, 1) := by decide +kernel
theorem d_Cd_useFactors_76 : decode prog_3_method_5_code 76 = .ok (.getfield 86, 3) := by decide +kernel
theorem d_Cd_useFactors_79 : decode prog_3_method_5_code 79 = .ok (.lload 7, 2) := by decide +kernel
theorem d_Cd_useFactors_81 : decode prog_3_method_5_code 81 = .ok (.lmul, 1) := by decide +kernel
theorem d_Cd_useFactors_82 : decode prog_3_method_5_code 82 = .ok (.aload_n 0, 1) := by decide +kernel
theorem d_Cd_useFactors_83 : decode prog_3_method_5_code 83 = .ok (.getfield 89, 3) := by decide +kernel
theorem d_Cd_useFactors_86 : decode prog_3_method_5_code 86 = .ok (.lload 9, 2) := by decide +kernel
theorem d_Cd_useFactors_88 : decode prog_3_method_5_code 88 = .ok (.lmul, 1) := by decide +kernel
theorem d_Cd_useFactors_89 : decode prog_3_method_5_code 89 = .ok (.ladd, 1) := by decide +kernel
theorem d_Cd_useFactors_90 : decode prog_3_method_5_code 90 = .ok (.lload 4, 2) := by decide +kernel
theorem d_Cd_useFactors_92 : decode prog_3_method_5_code 92 = .ok (.ladd, 1) := by decide +kernel
theorem d_Cd_useFactors_93 : decode prog_3_method_5_code 93 = .ok (.lstore 13, 2) := by decide +kernel
theorem d_Cd_useFactors_95 : decode prog_3_method_5_code 95 = .ok (.lload 11, 2) := by decide +kernel
theorem d_Cd_useFactors_97 : decode prog_3_method_5_code 97 = .ok (.ldc2_w 107, 3) := by decide +kernel
theorem d_Cd_useFactors_100 : decode prog_3_method_5_code 100 = .ok (.invokestatic 109, 3) := by decide +kernel
theorem d_Cd_useFactors_103 : decode prog_3_method_5_code 103 = .ok (.lstore_n 2, 1) := by decide +kernel
theorem d_Cd_useFactors_104 : decode prog_3_method_5_code 104 = .ok (.lload 13, 2) := by decide +kernel
theorem d_Cd_useFactors_106 : decode prog_3_method_5_code 106 = .ok (.ldc2_w 107, 3) := by decide +kernel
theorem d_Cd_useFactors_109 : decode prog_3_method_5_code 109 = .ok (.invokestatic 109, 3) := by decide +kernel
theorem d_Cd_useFactors_112 : decode prog_3_method_5_code 112 = .ok (.lstore 4, 2) := by decide +kernel
theorem d_Cd_useFactors_114 : decode prog_3_method_5_code 114 = .ok (.aload_n 0, 1) := by decide +kernel
theorem d_Cd_useFactors_115 : decode prog_3_method_5_code 115 = .ok (.getfield 14, 3) := by decide +kernel
theorem d_Cd_useFactors_118 : decode prog_3_method_5_code 118 = .ok (.getfield 103, 3) := by decide +kernel
theorem d_Cd_useFactors_121 : decode prog_3_method_5_code 121 = .ok (.iload 6, 2) := by decide +kernel
theorem d_Cd_useFactors_123 : decode prog_3_method_5_code 123 = .ok (.lload 11, 2) := by decide +kernel
theorem d_Cd_useFactors_125 : decode prog_3_method_5_code 125 = .ok (.lload_n 2, 1) := by decide +kernel
theorem d_Cd_useFactors_126 : decode prog_3_method_5_code 126 = .ok (.ldc2_w 107, 3) := by decide +kernel
theorem d_Cd_useFactors_129 : decode prog_3_method_5_code 129 = .ok (.lmul, 1) := by decide +kernel
theorem d_Cd_useFactors_130 : decode prog_3_method_5_code 130 = .ok (.lsub, 1) := by decide +kernel
theorem d_Cd_useFactors_131 : decode prog_3_method_5_code 131 = .ok (.l2i, 1) := by decide +kernel
theorem d_Cd_useFactors_132 : decode prog_3_method_5_code 132 = .ok (.iastore, 1) := by decide +kernel
theorem d_Cd_useFactors_133 : decode prog_3_method_5_code 133 = .ok (.aload_n 0, 1) := by decide +kernel
theorem d_Cd_useFactors_134 : decode prog_3_method_5_code 134 = .ok (.getfield 20, 3) := by decide +kernel
theorem d_Cd_useFactors_137 : decode prog_3_method_5_code 137 = .ok (.getfield 103, 3) := by decide +kernel
theorem d_Cd_useFactors_140 : decode prog_3_method_5_code 140 = .ok (.iload 6, 2) := by decide +kernel
theorem d_Cd_useFactors_142 : decode prog_3_method_5_code 142 = .ok (.lload 13, 2) := by decide +kernel
theorem d_Cd_useFactors_144 : decode prog_3_method_5_code 144 = .ok (.lload 4, 2) := by decide +kernel
theorem d_Cd_useFactors_146 : decode prog_3_method_5_code 146 = .ok (.ldc2_w 107, 3) := by decide +kernel
theorem d_Cd_useFactors_149 : decode prog_3_method_5_code 149 = .ok (.lmul, 1) := by decide +kernel
theorem d_Cd_useFactors_150 : decode prog_3_method_5_code 150 = .ok (.lsub, 1) := by decide +kernel
theorem d_Cd_useFactors_151 : decode prog_3_method_5_code 151 = .ok (.l2i, 1) := by decide +kernel
theorem d_Cd_useFactors_152 : decode prog_3_method_5_code 152 = .ok (.iastore, 1) := by decide +kernel
theorem d_Cd_useFactors_153 : decode prog_3_method_5_code 153 = .ok (.iinc 6 1, 3) := by decide +kernel
theorem d_Cd_useFactors_156 : decode prog_3_method_5_code 156 = .ok (.goto (-132), 3) := by decide +kernel
theorem d_Cd_useFactors_159 : decode prog_3_method_5_code 159 = .ok (.aload_n 0, 1) := by decide +kernel
theorem d_Cd_useFactors_160 : decode prog_3_method_5_code 160 = .ok (.getfield 14, 3) := by decide +kernel
theorem d_Cd_useFactors_163 : decode prog_3_method_5_code 163 = .ok (.invokevirtual 112, 3) := by decide +kernel
theorem d_Cd_useFactors_166 : decode prog_3_method_5_code 166 = .ok (.aload_n 0, 1) := by decide +kernel
theorem d_Cd_useFactors_167 : decode prog_3_method_5_code 167 = .ok (.getfield 20, 3) := by decide +kernel
theorem d_Cd_useFactors_170 : decode prog_3_method_5_code 170 = .ok (.invokevirtual 112, 3) := by decide +kernel
theorem d_Cd_useFactors_173 : decode prog_3_method_5_code 173 = .ok (.return_, 1) := by decide +kernel
