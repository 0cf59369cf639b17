theorem d_Ca_init_0 : decode prog_2_method_1_code 0 = .ok (.aload_n 0, 1) := by decide +kernel
theorem d_Ca_init_1 : decode prog_2_method_1_code 1 = .ok (.invokespecial 3, 3) := by decide +kernel
theorem d_Ca_init_4 : decode prog_2_method_1_code 4 = .ok (.aload_n 0, 1) := by decide +kernel
theorem d_Ca_init_5 : decode prog_2_method_1_code 5 = .ok (.new 9, 3) := by decide +kernel
theorem d_Ca_init_8 : decode prog_2_method_1_code 8 = .ok (.dup, 1) := by decide +kernel
theorem d_Ca_init_9 : decode prog_2_method_1_code 9 = .ok (.invokespecial 11, 3) := by decide +kernel
theorem d_Ca_init_12 : decode prog_2_method_1_code 12 = .ok (.putfield 12, 3) := by decide +kernel
theorem d_Ca_init_15 : decode prog_2_method_1_code 15 = .ok (.aload_n 0, 1) := by decide +kernel
theorem d_Ca_init_16 : decode prog_2_method_1_code 16 = .ok (.new 18, 3) := by decide +kernel
theorem d_Ca_init_19 : decode prog_2_method_1_code 19 = .ok (.dup, 1) := by decide +kernel
theorem d_Ca_init_20 : decode prog_2_method_1_code 20 = .ok (.aload_n 0, 1) := by decide +kernel
theorem d_Ca_init_21 : decode prog_2_method_1_code 21 = .ok (.getfield 12, 3) := by decide +kernel
theorem d_Ca_init_24 : decode prog_2_method_1_code 24 = .ok (.invokespecial 20, 3) := by decide +kernel
theorem d_Ca_init_27 : decode prog_2_method_1_code 27 = .ok (.putfield 23, 3) := by decide +kernel
theorem d_Ca_init_30 : decode prog_2_method_1_code 30 = .ok (.aload_n 0, 1) := by decide +kernel
theorem d_Ca_init_31 : decode prog_2_method_1_code 31 = .ok (.new 27, 3) := by decide +kernel
theorem d_Ca_init_34 : decode prog_2_method_1_code 34 = .ok (.dup, 1) := by decide +kernel
theorem d_Ca_init_35 : decode prog_2_method_1_code 35 = .ok (.bipush 24, 2) := by decide +kernel
theorem d_Ca_init_37 : decode prog_2_method_1_code 37 = .ok (.invokespecial 29, 3) := by decide +kernel
theorem d_Ca_init_40 : decode prog_2_method_1_code 40 = .ok (.putfield 32, 3) := by decide +kernel
theorem d_Ca_init_43 : decode prog_2_method_1_code 43 = .ok (.aload_n 0, 1) := by decide +kernel
theorem d_Ca_init_44 : decode prog_2_method_1_code 44 = .ok (.new 27, 3) := by decide +kernel
theorem d_Ca_init_47 : decode prog_2_method_1_code 47 = .ok (.dup, 1) := by decide +kernel
theorem d_Ca_init_48 : decode prog_2_method_1_code 48 = .ok (.bipush 24, 2) := by decide +kernel
theorem d_Ca_init_50 : decode prog_2_method_1_code 50 = .ok (.invokespecial 29, 3) := by decide +kernel
theorem d_Ca_init_53 : decode prog_2_method_1_code 53 = .ok (.putfield 36, 3) := by decide +kernel
theorem d_Ca_init_56 : decode prog_2_method_1_code 56 = .ok (.aload_n 0, 1) := by decide +kernel
theorem d_Ca_init_57 : decode prog_2_method_1_code 57 = .ok (.new 27, 3) := by decide +kernel
theorem d_Ca_init_60 : decode prog_2_method_1_code 60 = .ok (.dup, 1) := by decide +kernel
theorem d_Ca_init_61 : decode prog_2_method_1_code 61 = .ok (.bipush 24, 2) := by decide +kernel
theorem d_Ca_init_63 : decode prog_2_method_1_code 63 = .ok (.invokespecial 29, 3) := by decide +kernel
theorem d_Ca_init_66 : decode prog_2_method_1_code 66 = .ok (.putfield 39, 3) := by decide +kernel
theorem d_Ca_init_69 : decode prog_2_method_1_code 69 = .ok (.aload_n 0, 1) := by decide +kernel
theorem d_Ca_init_70 : decode prog_2_method_1_code 70 = .ok (.new 27, 3) := by decide +kernel
theorem d_Ca_init_73 : decode prog_2_method_1_code 73 = .ok (.dup, 1) := by decide +kernel
theorem d_Ca_init_74 : decode prog_2_method_1_code 74 = .ok (.bipush 24, 2) := by decide +kernel
theorem d_Ca_init_76 : decode prog_2_method_1_code 76 = .ok (.invokespecial 29, 3) := by decide +kernel
theorem d_Ca_init_79 : decode prog_2_method_1_code 79 = .ok (.putfield 42, 3) := by decide +kernel
theorem d_Ca_init_82 : decode prog_2_method_1_code 82 = .ok (.aload_n 0, 1) := by decide +kernel
theorem d_Ca_init_83 : decode prog_2_method_1_code 83 = .ok (.new 27, 3) := by decide +kernel
theorem d_Ca_init_86 : decode prog_2_method_1_code 86 = .ok (.dup, 1) := by decide +kernel
theorem d_Ca_init_87 : decode prog_2_method_1_code 87 = .ok (.bipush 24, 2) := by decide +kernel
theorem d_Ca_init_89 : decode prog_2_method_1_code 89 = .ok (.invokespecial 29, 3) := by decide +kernel
theorem d_Ca_init_92 : decode prog_2_method_1_code 92 = .ok (.putfield 45, 3) := by decide +kernel
theorem d_Ca_init_95 : decode prog_2_method_1_code 95 = .ok (.aload_n 0, 1) := by decide +kernel
theorem d_Ca_init_96 : decode prog_2_method_1_code 96 = .ok (.new 27, 3) := by decide +kernel
theorem d_Ca_init_99 : decode prog_2_method_1_code 99 = .ok (.dup, 1) := by decide +kernel
theorem d_Ca_init_100 : decode prog_2_method_1_code 100 = .ok (.bipush 24, 2) := by decide +kernel
theorem d_Ca_init_102 : decode prog_2_method_1_code 102 = .ok (.invokespecial 29, 3) := by decide +kernel
theorem d_Ca_init_105 : decode prog_2_method_1_code 105 = .ok (.putfield 48, 3) := by decide +kernel
theorem d_Ca_init_108 : decode prog_2_method_1_code 108 = .ok (.return_, 1) := by decide +kernel
theorem d_Ca_setRatio_0 : decode prog_2_method_2_code 0 = .ok (.aload_n 0, 1) := by decide +kernel
theorem d_Ca_setRatio_1 : decode prog_2_method_2_code 1 = .ok (.getfield 36, 3) := by decide +kernel
theorem d_Ca_setRatio_4 : decode prog_2_method_2_code 4 = .ok (.lload_n 2, 1) := by decide +kernel
theorem d_Ca_setRatio_5 : decode prog_2_method_2_code 5 = .ok (.invokevirtual 51, 3) := by decide +kernel
theorem d_Ca_setRatio_8 : decode prog_2_method_2_code 8 = .ok (.aload_n 0, 1) := by decide +kernel
theorem d_Ca_setRatio_9 : decode prog_2_method_2_code 9 = .ok (.getfield 39, 3) := by decide +kernel
theorem d_Ca_setRatio_12 : decode prog_2_method_2_code 12 = .ok (.lload 4, 2) := by decide +kernel
theorem d_Ca_setRatio_14 : decode prog_2_method_2_code 14 = .ok (.invokevirtual 51, 3) := by decide +kernel
theorem d_Ca_setRatio_17 : decode prog_2_method_2_code 17 = .ok (.aload_n 1, 1) := by decide +kernel
theorem d_Ca_setRatio_18 : decode prog_2_method_2_code 18 = .ok (.lload_n 2, 1) := by decide +kernel
theorem d_Ca_setRatio_19 : decode prog_2_method_2_code 19 = .ok (.lconst 0, 1) := by decide +kernel
theorem d_Ca_setRatio_20 : decode prog_2_method_2_code 20 = .ok (.lcmp, 1) := by decide +kernel
theorem d_Ca_setRatio_21 : decode prog_2_method_2_code 21 = .ok (.ifCond .ne 7, 3) := by decide +kernel
theorem d_Ca_setRatio_24 : decode prog_2_method_2_code 24 = .ok (.iconst 0, 1) := by decide +kernel
theorem d_Ca_setRatio_25 : decode prog_2_method_2_code 25 = .ok (.goto 34, 3) := by decide +kernel
theorem d_Ca_setRatio_28 : decode prog_2_method_2_code 28 = .ok (.lload_n 2, 1) := by decide +kernel
theorem d_Ca_setRatio_29 : decode prog_2_method_2_code 29 = .ok (.lconst 0, 1) := by decide +kernel
theorem d_Ca_setRatio_30 : decode prog_2_method_2_code 30 = .ok (.lcmp, 1) := by decide +kernel
theorem d_Ca_setRatio_31 : decode prog_2_method_2_code 31 = .ok (.ifCond .ge 7, 3) := by decide +kernel
theorem d_Ca_setRatio_34 : decode prog_2_method_2_code 34 = .ok (.iconst 1, 1) := by decide +kernel
theorem d_Ca_setRatio_35 : decode prog_2_method_2_code 35 = .ok (.goto 4, 3) := by decide +kernel
theorem d_Ca_setRatio_38 : decode prog_2_method_2_code 38 = .ok (.iconst 0, 1) := by decide +kernel
theorem d_Ca_setRatio_39 : decode prog_2_method_2_code 39 = .ok (.lload 4, 2) := by decide +kernel
theorem d_Ca_setRatio_41 : decode prog_2_method_2_code 41 = .ok (.lconst 0, 1) := by decide +kernel
theorem d_Ca_setRatio_42 : decode prog_2_method_2_code 42 = .ok (.lcmp, 1) := by decide +kernel
theorem d_Ca_setRatio_43 : decode prog_2_method_2_code 43 = .ok (.ifCond .ge 7, 3) := by decide +kernel
theorem d_Ca_setRatio_46 : decode prog_2_method_2_code 46 = .ok (.iconst 1, 1) := by decide +kernel
theorem d_Ca_setRatio_47 : decode prog_2_method_2_code 47 = .ok (.goto 4, 3) := by decide +kernel
theorem d_Ca_setRatio_50 : decode prog_2_method_2_code 50 = .ok (.iconst 0, 1) := by decide +kernel
theorem d_Ca_setRatio_51 : decode prog_2_method_2_code 51 = .ok (.if_icmp .ne 7, 3) := by decide +kernel
theorem d_Ca_setRatio_54 : decode prog_2_method_2_code 54 = .ok (.iconst 1, 1) := by decide +kernel
theorem d_Ca_setRatio_55 : decode prog_2_method_2_code 55 = .ok (.goto 4, 3) := by decide +kernel
theorem d_Ca_setRatio_58 : decode prog_2_method_2_code 58 = .ok (.iconst (-1), 1) := by decide +kernel
theorem d_Ca_setRatio_59 : decode prog_2_method_2_code 59 = .ok (.putfield 55, 3) := by decide +kernel
theorem d_Ca_setRatio_62 : decode prog_2_method_2_code 62 = .ok (.aload_n 0, 1) := by decide +kernel
theorem d_Ca_setRatio_63 : decode prog_2_method_2_code 63 = .ok (.aload_n 1, 1) := by decide +kernel
theorem d_Ca_setRatio_64 : decode prog_2_method_2_code 64 = .ok (.aload_n 0, 1) := by decide +kernel
theorem d_Ca_setRatio_65 : decode prog_2_method_2_code 65 = .ok (.getfield 36, 3) := by decide +kernel
theorem d_Ca_setRatio_68 : decode prog_2_method_2_code 68 = .ok (.aload_n 0, 1) := by decide +kernel
theorem d_Ca_setRatio_69 : decode prog_2_method_2_code 69 = .ok (.getfield 39, 3) := by decide +kernel
theorem d_Ca_setRatio_72 : decode prog_2_method_2_code 72 = .ok (.invokevirtual 61, 3) := by decide +kernel
theorem d_Ca_setRatio_75 : decode prog_2_method_2_code 75 = .ok (.return_, 1) := by decide +kernel
theorem d_Ca_setSum_0 : decode prog_2_method_3_code 0 = .ok (.aload_n 0, 1) := by decide +kernel
theorem d_Ca_setSum_1 : decode prog_2_method_3_code 1 = .ok (.getfield 32, 3) := by decide +kernel
theorem d_Ca_setSum_4 : decode prog_2_method_3_code 4 = .ok (.aload_n 0, 1) := by decide +kernel
theorem d_Ca_setSum_5 : decode prog_2_method_3_code 5 = .ok (.getfield 23, 3) := by decide +kernel
theorem d_Ca_setSum_8 : decode prog_2_method_3_code 8 = .ok (.aload_n 2, 1) := by decide +kernel
theorem d_Ca_setSum_9 : decode prog_2_method_3_code 9 = .ok (.getfield 65, 3) := by decide +kernel
theorem d_Ca_setSum_12 : decode prog_2_method_3_code 12 = .ok (.aload_n 3, 1) := by decide +kernel
theorem d_Ca_setSum_13 : decode prog_2_method_3_code 13 = .ok (.getfield 65, 3) := by decide +kernel
theorem d_Ca_setSum_16 : decode prog_2_method_3_code 16 = .ok (.invokevirtual 68, 3) := by decide +kernel
theorem d_Ca_setSum_19 : decode prog_2_method_3_code 19 = .ok (.invokevirtual 72, 3) := by decide +kernel
theorem d_Ca_setSum_22 : decode prog_2_method_3_code 22 = .ok (.aload_n 0, 1) := by decide +kernel
theorem d_Ca_setSum_23 : decode prog_2_method_3_code 23 = .ok (.aload_n 0, 1) := by decide +kernel
theorem d_Ca_setSum_24 : decode prog_2_method_3_code 24 = .ok (.getfield 39, 3) := by decide +kernel
theorem d_Ca_setSum_27 : decode prog_2_method_3_code 27 = .ok (.aload_n 2, 1) := by decide +kernel
theorem d_Ca_setSum_28 : decode prog_2_method_3_code 28 = .ok (.getfield 65, 3) := by decide +kernel
theorem d_Ca_setSum_31 : decode prog_2_method_3_code 31 = .ok (.aload_n 0, 1) := by decide +kernel
theorem d_Ca_setSum_32 : decode prog_2_method_3_code 32 = .ok (.getfield 32, 3) := by decide +kernel
theorem d_Ca_setSum_35 : decode prog_2_method_3_code 35 = .ok (.invokevirtual 76, 3) := by decide +kernel
theorem d_Ca_setSum_38 : decode prog_2_method_3_code 38 = .ok (.aload_n 0, 1) := by decide +kernel
theorem d_Ca_setSum_39 : decode prog_2_method_3_code 39 = .ok (.aload_n 0, 1) := by decide +kernel
theorem d_Ca_setSum_40 : decode prog_2_method_3_code 40 = .ok (.getfield 45, 3) := by decide +kernel
theorem d_Ca_setSum_43 : decode prog_2_method_3_code 43 = .ok (.aload_n 3, 1) := by decide +kernel
theorem d_Ca_setSum_44 : decode prog_2_method_3_code 44 = .ok (.getfield 65, 3) := by decide +kernel
theorem d_Ca_setSum_47 : decode prog_2_method_3_code 47 = .ok (.aload_n 0, 1) := by decide +kernel
theorem d_Ca_setSum_48 : decode prog_2_method_3_code 48 = .ok (.getfield 32, 3) := by decide +kernel
theorem d_Ca_setSum_51 : decode prog_2_method_3_code 51 = .ok (.invokevirtual 76, 3) := by decide +kernel
theorem d_Ca_setSum_54 : decode prog_2_method_3_code 54 = .ok (.aload_n 0, 1) := by decide +kernel
theorem d_Ca_setSum_55 : decode prog_2_method_3_code 55 = .ok (.getfield 36, 3) := by decide +kernel
theorem d_Ca_setSum_58 : decode prog_2_method_3_code 58 = .ok (.aload_n 2, 1) := by decide +kernel
theorem d_Ca_setSum_59 : decode prog_2_method_3_code 59 = .ok (.getfield 80, 3) := by decide +kernel
theorem d_Ca_setSum_62 : decode prog_2_method_3_code 62 = .ok (.aload_n 0, 1) := by decide +kernel
theorem d_Ca_setSum_63 : decode prog_2_method_3_code 63 = .ok (.getfield 45, 3) := by decide +kernel
theorem d_Ca_setSum_66 : decode prog_2_method_3_code 66 = .ok (.invokevirtual 83, 3) := by decide +kernel
theorem d_Ca_setSum_69 : decode prog_2_method_3_code 69 = .ok (.aload_n 0, 1) := by decide +kernel
theorem d_Ca_setSum_70 : decode prog_2_method_3_code 70 = .ok (.getfield 42, 3) := by decide +kernel
theorem d_Ca_setSum_73 : decode prog_2_method_3_code 73 = .ok (.aload_n 3, 1) := by decide +kernel
theorem d_Ca_setSum_74 : decode prog_2_method_3_code 74 = .ok (.getfield 80, 3) := by decide +kernel
theorem d_Ca_setSum_77 : decode prog_2_method_3_code 77 = .ok (.aload_n 0, 1) := by decide +kernel
theorem d_Ca_setSum_78 : decode prog_2_method_3_code 78 = .ok (.getfield 39, 3) := by decide +kernel
theorem d_Ca_setSum_81 : decode prog_2_method_3_code 81 = .ok (.invokevirtual 83, 3) := by decide +kernel
theorem d_Ca_setSum_84 : decode prog_2_method_3_code 84 = .ok (.aload_n 1, 1) := by decide +kernel
theorem d_Ca_setSum_85 : decode prog_2_method_3_code 85 = .ok (.aload_n 0, 1) := by decide +kernel
theorem d_Ca_setSum_86 : decode prog_2_method_3_code 86 = .ok (.aload_n 2, 1) := by decide +kernel
theorem d_Ca_setSum_87 : decode prog_2_method_3_code 87 = .ok (.getfield 55, 3) := by decide +kernel
theorem d_Ca_setSum_90 : decode prog_2_method_3_code 90 = .ok (.iload 4, 2) := by decide +kernel
theorem d_Ca_setSum_92 : decode prog_2_method_3_code 92 = .ok (.ifCond .eq 11, 3) := by decide +kernel
theorem d_Ca_setSum_95 : decode prog_2_method_3_code 95 = .ok (.aload_n 3, 1) := by decide +kernel
theorem d_Ca_setSum_96 : decode prog_2_method_3_code 96 = .ok (.getfield 55, 3) := by decide +kernel
theorem d_Ca_setSum_99 : decode prog_2_method_3_code 99 = .ok (.ineg, 1) := by decide +kernel
theorem d_Ca_setSum_100 : decode prog_2_method_3_code 100 = .ok (.goto 7, 3) := by decide +kernel
theorem d_Ca_setSum_103 : decode prog_2_method_3_code 103 = .ok (.aload_n 3, 1) := by decide +kernel
theorem d_Ca_setSum_104 : decode prog_2_method_3_code 104 = .ok (.getfield 55, 3) := by decide +kernel
theorem d_Ca_setSum_107 : decode prog_2_method_3_code 107 = .ok (.invokevirtual 87, 3) := by decide +kernel
theorem d_Ca_setSum_110 : decode prog_2_method_3_code 110 = .ok (.putfield 55, 3) := by decide +kernel
theorem d_Ca_setSum_113 : decode prog_2_method_3_code 113 = .ok (.aload_n 0, 1) := by decide +kernel
theorem d_Ca_setSum_114 : decode prog_2_method_3_code 114 = .ok (.getfield 23, 3) := by decide +kernel
theorem d_Ca_setSum_117 : decode prog_2_method_3_code 117 = .ok (.aload_n 0, 1) := by decide +kernel
theorem d_Ca_setSum_118 : decode prog_2_method_3_code 118 = .ok (.getfield 48, 3) := by decide +kernel
theorem d_Ca_setSum_121 : decode prog_2_method_3_code 121 = .ok (.aload_n 0, 1) := by decide +kernel
theorem d_Ca_setSum_122 : decode prog_2_method_3_code 122 = .ok (.getfield 32, 3) := by decide +kernel
theorem d_Ca_setSum_125 : decode prog_2_method_3_code 125 = .ok (.invokevirtual 68, 3) := by decide +kernel
theorem d_Ca_setSum_128 : decode prog_2_method_3_code 128 = .ok (.astore 5, 2) := by decide +kernel
theorem d_Ca_setSum_130 : decode prog_2_method_3_code 130 = .ok (.aload_n 0, 1) := by decide +kernel
theorem d_Ca_setSum_131 : decode prog_2_method_3_code 131 = .ok (.aload_n 1, 1) := by decide +kernel
theorem d_Ca_setSum_132 : decode prog_2_method_3_code 132 = .ok (.getfield 80, 3) := by decide +kernel
theorem d_Ca_setSum_135 : decode prog_2_method_3_code 135 = .ok (.aload_n 0, 1) := by decide +kernel
theorem d_Ca_setSum_136 : decode prog_2_method_3_code 136 = .ok (.getfield 48, 3) := by decide +kernel
theorem d_Ca_setSum_139 : decode prog_2_method_3_code 139 = .ok (.aload 5, 2) := by decide +kernel
theorem d_Ca_setSum_141 : decode prog_2_method_3_code 141 = .ok (.invokevirtual 76, 3) := by decide +kernel
theorem d_Ca_setSum_144 : decode prog_2_method_3_code 144 = .ok (.aload_n 0, 1) := by decide +kernel
theorem d_Ca_setSum_145 : decode prog_2_method_3_code 145 = .ok (.aload_n 0, 1) := by decide +kernel
theorem d_Ca_setSum_146 : decode prog_2_method_3_code 146 = .ok (.getfield 45, 3) := by decide +kernel
theorem d_Ca_setSum_149 : decode prog_2_method_3_code 149 = .ok (.aload_n 3, 1) := by decide +kernel
theorem d_Ca_setSum_150 : decode prog_2_method_3_code 150 = .ok (.getfield 65, 3) := by decide +kernel
theorem d_Ca_setSum_153 : decode prog_2_method_3_code 153 = .ok (.aload 5, 2) := by decide +kernel
theorem d_Ca_setSum_155 : decode prog_2_method_3_code 155 = .ok (.invokevirtual 76, 3) := by decide +kernel
theorem d_Ca_setSum_158 : decode prog_2_method_3_code 158 = .ok (.aload_n 1, 1) := by decide +kernel
theorem d_Ca_setSum_159 : decode prog_2_method_3_code 159 = .ok (.getfield 65, 3) := by decide +kernel
theorem d_Ca_setSum_162 : decode prog_2_method_3_code 162 = .ok (.aload_n 0, 1) := by decide +kernel
theorem d_Ca_setSum_163 : decode prog_2_method_3_code 163 = .ok (.getfield 39, 3) := by decide +kernel
theorem d_Ca_setSum_166 : decode prog_2_method_3_code 166 = .ok (.aload_n 0, 1) := by decide +kernel
theorem d_Ca_setSum_167 : decode prog_2_method_3_code 167 = .ok (.getfield 45, 3) := by decide +kernel
theorem d_Ca_setSum_170 : decode prog_2_method_3_code 170 = .ok (.invokevirtual 83, 3) := by decide +kernel
theorem d_Ca_setSum_173 : decode prog_2_method_3_code 173 = .ok (.return_, 1) := by decide +kernel
theorem d_Ca_setProduct_0 : decode prog_2_method_4_code 0 = .ok (.iload 4, 2) := by decide +kernel
theorem d_Ca_setProduct_2 : decode prog_2_method_4_code 2 = .ok (.ifCond .eq 10, 3) := by decide +kernel
theorem d_Ca_setProduct_5 : decode prog_2_method_4_code 5 = .ok (.aload_n 3, 1) := by decide +kernel
theorem d_Ca_setProduct_6 : decode prog_2_method_4_code 6 = .ok (.getfield 65, 3) := by decide +kernel
theorem d_Ca_setProduct_9 : decode prog_2_method_4_code 9 = .ok (.goto 7, 3) := by decide +kernel
theorem d_Ca_setProduct_12 : decode prog_2_method_4_code 12 = .ok (.aload_n 3, 1) := by decide +kernel
theorem d_Ca_setProduct_13 : decode prog_2_method_4_code 13 = .ok (.getfield 80, 3) := by decide +kernel
theorem d_Ca_setProduct_16 : decode prog_2_method_4_code 16 = .ok (.astore 5, 2) := by decide +kernel
theorem d_Ca_setProduct_18 : decode prog_2_method_4_code 18 = .ok (.iload 4, 2) := by decide +kernel
theorem d_Ca_setProduct_20 : decode prog_2_method_4_code 20 = .ok (.ifCond .eq 10, 3) := by decide +kernel
theorem d_Ca_setProduct_23 : decode prog_2_method_4_code 23 = .ok (.aload_n 3, 1) := by decide +kernel
theorem d_Ca_setProduct_24 : decode prog_2_method_4_code 24 = .ok (.getfield 80, 3) := by decide +kernel
theorem d_Ca_setProduct_27 : decode prog_2_method_4_code 27 = .ok (.goto 7, 3) := by decide +kernel
theorem d_Ca_setProduct_30 : decode prog_2_method_4_code 30 = .ok (.aload_n 3, 1) := by decide +kernel
theorem d_Ca_setProduct_31 : decode prog_2_method_4_code 31 = .ok (.getfield 65, 3) := by decide +kernel
theorem d_Ca_setProduct_34 : decode prog_2_method_4_code 34 = .ok (.astore 6, 2) := by decide +kernel
theorem d_Ca_setProduct_36 : decode prog_2_method_4_code 36 = .ok (.aload_n 0, 1) := by decide +kernel
theorem d_Ca_setProduct_37 : decode prog_2_method_4_code 37 = .ok (.getfield 23, 3) := by decide +kernel
theorem d_Ca_setProduct_40 : decode prog_2_method_4_code 40 = .ok (.aload_n 2, 1) := by decide +kernel
theorem d_Ca_setProduct_41 : decode prog_2_method_4_code 41 = .ok (.getfield 80, 3) := by decide +kernel
theorem d_Ca_setProduct_44 : decode prog_2_method_4_code 44 = .ok (.aload 6, 2) := by decide +kernel
theorem d_Ca_setProduct_46 : decode prog_2_method_4_code 46 = .ok (.invokevirtual 68, 3) := by decide +kernel
theorem d_Ca_setProduct_49 : decode prog_2_method_4_code 49 = .ok (.astore 7, 2) := by decide +kernel
theorem d_Ca_setProduct_51 : decode prog_2_method_4_code 51 = .ok (.aload_n 0, 1) := by decide +kernel
theorem d_Ca_setProduct_52 : decode prog_2_method_4_code 52 = .ok (.aload_n 0, 1) := by decide +kernel
theorem d_Ca_setProduct_53 : decode prog_2_method_4_code 53 = .ok (.getfield 36, 3) := by decide +kernel
theorem d_Ca_setProduct_56 : decode prog_2_method_4_code 56 = .ok (.aload_n 2, 1) := by decide +kernel
theorem d_Ca_setProduct_57 : decode prog_2_method_4_code 57 = .ok (.getfield 80, 3) := by decide +kernel
theorem d_Ca_setProduct_60 : decode prog_2_method_4_code 60 = .ok (.aload 7, 2) := by decide +kernel
theorem d_Ca_setProduct_62 : decode prog_2_method_4_code 62 = .ok (.invokevirtual 76, 3) := by decide +kernel
theorem d_Ca_setProduct_65 : decode prog_2_method_4_code 65 = .ok (.aload_n 0, 1) := by decide +kernel
theorem d_Ca_setProduct_66 : decode prog_2_method_4_code 66 = .ok (.aload_n 0, 1) := by decide +kernel
theorem d_Ca_setProduct_67 : decode prog_2_method_4_code 67 = .ok (.getfield 45, 3) := by decide +kernel
theorem d_Ca_setProduct_70 : decode prog_2_method_4_code 70 = .ok (.aload 6, 2) := by decide +kernel
theorem d_Ca_setProduct_72 : decode prog_2_method_4_code 72 = .ok (.aload 7, 2) := by decide +kernel
theorem d_Ca_setProduct_74 : decode prog_2_method_4_code 74 = .ok (.invokevirtual 76, 3) := by decide +kernel
theorem d_Ca_setProduct_77 : decode prog_2_method_4_code 77 = .ok (.aload_n 0, 1) := by decide +kernel
theorem d_Ca_setProduct_78 : decode prog_2_method_4_code 78 = .ok (.getfield 23, 3) := by decide +kernel
theorem d_Ca_setProduct_81 : decode prog_2_method_4_code 81 = .ok (.aload 5, 2) := by decide +kernel
theorem d_Ca_setProduct_83 : decode prog_2_method_4_code 83 = .ok (.aload_n 2, 1) := by decide +kernel
theorem d_Ca_setProduct_84 : decode prog_2_method_4_code 84 = .ok (.getfield 65, 3) := by decide +kernel
theorem d_Ca_setProduct_87 : decode prog_2_method_4_code 87 = .ok (.invokevirtual 68, 3) := by decide +kernel
theorem d_Ca_setProduct_90 : decode prog_2_method_4_code 90 = .ok (.astore 7, 2) := by decide +kernel
theorem d_Ca_setProduct_92 : decode prog_2_method_4_code 92 = .ok (.aload_n 0, 1) := by decide +kernel
theorem d_Ca_setProduct_93 : decode prog_2_method_4_code 93 = .ok (.aload_n 0, 1) := by decide +kernel
theorem d_Ca_setProduct_94 : decode prog_2_method_4_code 94 = .ok (.getfield 42, 3) := by decide +kernel
theorem d_Ca_setProduct_97 : decode prog_2_method_4_code 97 = .ok (.aload 5, 2) := by decide +kernel
theorem d_Ca_setProduct_99 : decode prog_2_method_4_code 99 = .ok (.aload 7, 2) := by decide +kernel
theorem d_Ca_setProduct_101 : decode prog_2_method_4_code 101 = .ok (.invokevirtual 76, 3) := by decide +kernel
theorem d_Ca_setProduct_104 : decode prog_2_method_4_code 104 = .ok (.aload_n 0, 1) := by decide +kernel
theorem d_Ca_setProduct_105 : decode prog_2_method_4_code 105 = .ok (.aload_n 0, 1) := by decide +kernel
theorem d_Ca_setProduct_106 : decode prog_2_method_4_code 106 = .ok (.getfield 39, 3) := by decide +kernel
theorem d_Ca_setProduct_109 : decode prog_2_method_4_code 109 = .ok (.aload_n 2, 1) := by decide +kernel
theorem d_Ca_setProduct_110 : decode prog_2_method_4_code 110 = .ok (.getfield 65, 3) := by decide +kernel
theorem d_Ca_setProduct_113 : decode prog_2_method_4_code 113 = .ok (.aload 7, 2) := by decide +kernel
theorem d_Ca_setProduct_115 : decode prog_2_method_4_code 115 = .ok (.invokevirtual 76, 3) := by decide +kernel
theorem d_Ca_setProduct_118 : decode prog_2_method_4_code 118 = .ok (.aload_n 1, 1) := by decide +kernel
theorem d_Ca_setProduct_119 : decode prog_2_method_4_code 119 = .ok (.aload_n 2, 1) := by decide +kernel
theorem d_Ca_setProduct_120 : decode prog_2_method_4_code 120 = .ok (.getfield 55, 3) := by decide +kernel
theorem d_Ca_setProduct_123 : decode prog_2_method_4_code 123 = .ok (.aload_n 3, 1) := by decide +kernel
theorem d_Ca_setProduct_124 : decode prog_2_method_4_code 124 = .ok (.getfield 55, 3) := by decide +kernel
theorem d_Ca_setProduct_127 : decode prog_2_method_4_code 127 = .ok (.imul, 1) := by decide +kernel
theorem d_Ca_setProduct_128 : decode prog_2_method_4_code 128 = .ok (.putfield 55, 3) := by decide +kernel
theorem d_Ca_setProduct_131 : decode prog_2_method_4_code 131 = .ok (.aload_n 1, 1) := by decide +kernel
theorem d_Ca_setProduct_132 : decode prog_2_method_4_code 132 = .ok (.getfield 80, 3) := by decide +kernel
theorem d_Ca_setProduct_135 : decode prog_2_method_4_code 135 = .ok (.aload_n 0, 1) := by decide +kernel
theorem d_Ca_setProduct_136 : decode prog_2_method_4_code 136 = .ok (.getfield 36, 3) := by decide +kernel
theorem d_Ca_setProduct_139 : decode prog_2_method_4_code 139 = .ok (.aload_n 0, 1) := by decide +kernel
theorem d_Ca_setProduct_140 : decode prog_2_method_4_code 140 = .ok (.getfield 42, 3) := by decide +kernel
theorem d_Ca_setProduct_143 : decode prog_2_method_4_code 143 = .ok (.invokevirtual 83, 3) := by decide +kernel
theorem d_Ca_setProduct_146 : decode prog_2_method_4_code 146 = .ok (.aload_n 1, 1) := by decide +kernel
theorem d_Ca_setProduct_147 : decode prog_2_method_4_code 147 = .ok (.getfield 65, 3) := by decide +kernel
theorem d_Ca_setProduct_150 : decode prog_2_method_4_code 150 = .ok (.aload_n 0, 1) := by decide +kernel
theorem d_Ca_setProduct_151 : decode prog_2_method_4_code 151 = .ok (.getfield 39, 3) := by decide +kernel
theorem d_Ca_setProduct_154 : decode prog_2_method_4_code 154 = .ok (.aload_n 0, 1) := by decide +kernel
theorem d_Ca_setProduct_155 : decode prog_2_method_4_code 155 = .ok (.getfield 45, 3) := by decide +kernel
theorem d_Ca_setProduct_158 : decode prog_2_method_4_code 158 = .ok (.invokevirtual 83, 3) := by decide +kernel
theorem d_Ca_setProduct_161 : decode prog_2_method_4_code 161 = .ok (.return_, 1) := by decide +kernel
theorem d_Ca_setRounded_0 : decode prog_2_method_5_code 0 = .ok (.aload_n 0, 1) := by decide +kernel
theorem d_Ca_setRounded_1 : decode prog_2_method_5_code 1 = .ok (.getfield 32, 3) := by decide +kernel
theorem d_Ca_setRounded_4 : decode prog_2_method_5_code 4 = .ok (.iload 4, 2) := by decide +kernel
theorem d_Ca_setRounded_6 : decode prog_2_method_5_code 6 = .ok (.i2l, 1) := by decide +kernel
theorem d_Ca_setRounded_7 : decode prog_2_method_5_code 7 = .ok (.invokevirtual 51, 3) := by decide +kernel
theorem d_Ca_setRounded_10 : decode prog_2_method_5_code 10 = .ok (.aload_n 0, 1) := by decide +kernel
theorem d_Ca_setRounded_11 : decode prog_2_method_5_code 11 = .ok (.getfield 36, 3) := by decide +kernel
theorem d_Ca_setRounded_14 : decode prog_2_method_5_code 14 = .ok (.aload_n 2, 1) := by decide +kernel
theorem d_Ca_setRounded_15 : decode prog_2_method_5_code 15 = .ok (.getfield 80, 3) := by decide +kernel
theorem d_Ca_setRounded_18 : decode prog_2_method_5_code 18 = .ok (.aload_n 0, 1) := by decide +kernel
theorem d_Ca_setRounded_19 : decode prog_2_method_5_code 19 = .ok (.getfield 32, 3) := by decide +kernel
theorem d_Ca_setRounded_22 : decode prog_2_method_5_code 22 = .ok (.invokevirtual 83, 3) := by decide +kernel
theorem d_Ca_setRounded_25 : decode prog_2_method_5_code 25 = .ok (.aload_n 0, 1) := by decide +kernel
theorem d_Ca_setRounded_26 : decode prog_2_method_5_code 26 = .ok (.getfield 12, 3) := by decide +kernel
theorem d_Ca_setRounded_29 : decode prog_2_method_5_code 29 = .ok (.aload_n 0, 1) := by decide +kernel
theorem d_Ca_setRounded_30 : decode prog_2_method_5_code 30 = .ok (.getfield 36, 3) := by decide +kernel
theorem d_Ca_setRounded_33 : decode prog_2_method_5_code 33 = .ok (.aload_n 2, 1) := by decide +kernel
theorem d_Ca_setRounded_34 : decode prog_2_method_5_code 34 = .ok (.getfield 65, 3) := by decide +kernel
theorem d_Ca_setRounded_37 : decode prog_2_method_5_code 37 = .ok (.invokevirtual 91, 3) := by decide +kernel
theorem d_Ca_setRounded_40 : decode prog_2_method_5_code 40 = .ok (.aload_n 0, 1) := by decide +kernel
theorem d_Ca_setRounded_41 : decode prog_2_method_5_code 41 = .ok (.getfield 48, 3) := by decide +kernel
theorem d_Ca_setRounded_44 : decode prog_2_method_5_code 44 = .ok (.aload_n 0, 1) := by decide +kernel
theorem d_Ca_setRounded_45 : decode prog_2_method_5_code 45 = .ok (.getfield 12, 3) := by decide +kernel
theorem d_Ca_setRounded_48 : decode prog_2_method_5_code 48 = .ok (.getfield 94, 3) := by decide +kernel
theorem d_Ca_setRounded_51 : decode prog_2_method_5_code 51 = .ok (.invokevirtual 72, 3) := by decide +kernel
theorem d_Ca_setRounded_54 : decode prog_2_method_5_code 54 = .ok (.aload_n 0, 1) := by decide +kernel
theorem d_Ca_setRounded_55 : decode prog_2_method_5_code 55 = .ok (.aload_n 2, 1) := by decide +kernel
theorem d_Ca_setRounded_56 : decode prog_2_method_5_code 56 = .ok (.iload_n 3, 1) := by decide +kernel
theorem d_Ca_setRounded_57 : decode prog_2_method_5_code 57 = .ok (.invokevirtual 97, 3) := by decide +kernel
theorem d_Ca_setRounded_60 : decode prog_2_method_5_code 60 = .ok (.ifCond .eq 10, 3) := by decide +kernel
theorem d_Ca_setRounded_63 : decode prog_2_method_5_code 63 = .ok (.aload_n 0, 1) := by decide +kernel
theorem d_Ca_setRounded_64 : decode prog_2_method_5_code 64 = .ok (.getfield 48, 3) := by decide +kernel
theorem d_Ca_setRounded_67 : decode prog_2_method_5_code 67 = .ok (.invokevirtual 101, 3) := by decide +kernel
theorem d_Ca_setRounded_70 : decode prog_2_method_5_code 70 = .ok (.aload_n 1, 1) := by decide +kernel
theorem d_Ca_setRounded_71 : decode prog_2_method_5_code 71 = .ok (.aload_n 0, 1) := by decide +kernel
theorem d_Ca_setRounded_72 : decode prog_2_method_5_code 72 = .ok (.getfield 48, 3) := by decide +kernel
theorem d_Ca_setRounded_75 : decode prog_2_method_5_code 75 = .ok (.getfield 104, 3) := by decide +kernel
theorem d_Ca_setRounded_78 : decode prog_2_method_5_code 78 = .ok (.ifCond .ne 7, 3) := by decide +kernel
theorem d_Ca_setRounded_81 : decode prog_2_method_5_code 81 = .ok (.iconst 0, 1) := by decide +kernel
theorem d_Ca_setRounded_82 : decode prog_2_method_5_code 82 = .ok (.goto 7, 3) := by decide +kernel
theorem d_Ca_setRounded_85 : decode prog_2_method_5_code 85 = .ok (.aload_n 2, 1) := by decide +kernel
theorem d_Ca_setRounded_86 : decode prog_2_method_5_code 86 = .ok (.getfield 55, 3) := by decide +kernel
theorem d_Ca_setRounded_89 : decode prog_2_method_5_code 89 = .ok (.putfield 55, 3) := by decide +kernel
theorem d_Ca_setRounded_92 : decode prog_2_method_5_code 92 = .ok (.aload_n 0, 1) := by decide +kernel
theorem d_Ca_setRounded_93 : decode prog_2_method_5_code 93 = .ok (.aload_n 1, 1) := by decide +kernel
theorem d_Ca_setRounded_94 : decode prog_2_method_5_code 94 = .ok (.aload_n 0, 1) := by decide +kernel
theorem d_Ca_setRounded_95 : decode prog_2_method_5_code 95 = .ok (.getfield 48, 3) := by decide +kernel
theorem d_Ca_setRounded_98 : decode prog_2_method_5_code 98 = .ok (.aload_n 0, 1) := by decide +kernel
theorem d_Ca_setRounded_99 : decode prog_2_method_5_code 99 = .ok (.getfield 32, 3) := by decide +kernel
theorem d_Ca_setRounded_102 : decode prog_2_method_5_code 102 = .ok (.invokevirtual 61, 3) := by decide +kernel
theorem d_Ca_setRounded_105 : decode prog_2_method_5_code 105 = .ok (.return_, 1) := by decide +kernel
theorem d_Ca_compare_0 : decode prog_2_method_6_code 0 = .ok (.aload_n 1, 1) := by decide +kernel
theorem d_Ca_compare_1 : decode prog_2_method_6_code 1 = .ok (.getfield 55, 3) := by decide +kernel
theorem d_Ca_compare_4 : decode prog_2_method_6_code 4 = .ok (.aload_n 2, 1) := by decide +kernel
theorem d_Ca_compare_5 : decode prog_2_method_6_code 5 = .ok (.getfield 55, 3) := by decide +kernel
theorem d_Ca_compare_8 : decode prog_2_method_6_code 8 = .ok (.if_icmp .eq 20, 3) := by decide +kernel
theorem d_Ca_compare_11 : decode prog_2_method_6_code 11 = .ok (.aload_n 1, 1) := by decide +kernel
theorem d_Ca_compare_12 : decode prog_2_method_6_code 12 = .ok (.getfield 55, 3) := by decide +kernel
theorem d_Ca_compare_15 : decode prog_2_method_6_code 15 = .ok (.aload_n 2, 1) := by decide +kernel
theorem d_Ca_compare_16 : decode prog_2_method_6_code 16 = .ok (.getfield 55, 3) := by decide +kernel
theorem d_Ca_compare_19 : decode prog_2_method_6_code 19 = .ok (.if_icmp .ge 7, 3) := by decide +kernel
theorem d_Ca_compare_22 : decode prog_2_method_6_code 22 = .ok (.iconst (-1), 1) := by decide +kernel
theorem d_Ca_compare_23 : decode prog_2_method_6_code 23 = .ok (.goto 4, 3) := by decide +kernel
theorem d_Ca_compare_26 : decode prog_2_method_6_code 26 = .ok (.iconst 1, 1) := by decide +kernel
theorem d_Ca_compare_27 : decode prog_2_method_6_code 27 = .ok (.ireturn, 1) := by decide +kernel
theorem d_Ca_compare_28 : decode prog_2_method_6_code 28 = .ok (.aload_n 0, 1) := by decide +kernel
theorem d_Ca_compare_29 : decode prog_2_method_6_code 29 = .ok (.getfield 36, 3) := by decide +kernel
theorem d_Ca_compare_32 : decode prog_2_method_6_code 32 = .ok (.aload_n 1, 1) := by decide +kernel
theorem d_Ca_compare_33 : decode prog_2_method_6_code 33 = .ok (.getfield 80, 3) := by decide +kernel
theorem d_Ca_compare_36 : decode prog_2_method_6_code 36 = .ok (.aload_n 2, 1) := by decide +kernel
theorem d_Ca_compare_37 : decode prog_2_method_6_code 37 = .ok (.getfield 65, 3) := by decide +kernel
theorem d_Ca_compare_40 : decode prog_2_method_6_code 40 = .ok (.invokevirtual 83, 3) := by decide +kernel
theorem d_Ca_compare_43 : decode prog_2_method_6_code 43 = .ok (.aload_n 0, 1) := by decide +kernel
theorem d_Ca_compare_44 : decode prog_2_method_6_code 44 = .ok (.getfield 42, 3) := by decide +kernel
theorem d_Ca_compare_47 : decode prog_2_method_6_code 47 = .ok (.aload_n 2, 1) := by decide +kernel
theorem d_Ca_compare_48 : decode prog_2_method_6_code 48 = .ok (.getfield 80, 3) := by decide +kernel
theorem d_Ca_compare_51 : decode prog_2_method_6_code 51 = .ok (.aload_n 1, 1) := by decide +kernel
theorem d_Ca_compare_52 : decode prog_2_method_6_code 52 = .ok (.getfield 65, 3) := by decide +kernel
theorem d_Ca_compare_55 : decode prog_2_method_6_code 55 = .ok (.invokevirtual 83, 3) := by decide +kernel
theorem d_Ca_compare_58 : decode prog_2_method_6_code 58 = .ok (.aload_n 0, 1) := by decide +kernel
theorem d_Ca_compare_59 : decode prog_2_method_6_code 59 = .ok (.getfield 36, 3) := by decide +kernel
theorem d_Ca_compare_62 : decode prog_2_method_6_code 62 = .ok (.aload_n 0, 1) := by decide +kernel
theorem d_Ca_compare_63 : decode prog_2_method_6_code 63 = .ok (.getfield 42, 3) := by decide +kernel
theorem d_Ca_compare_66 : decode prog_2_method_6_code 66 = .ok (.invokevirtual 107, 3) := by decide +kernel
theorem d_Ca_compare_69 : decode prog_2_method_6_code 69 = .ok (.istore_n 3, 1) := by decide +kernel
theorem d_Ca_compare_70 : decode prog_2_method_6_code 70 = .ok (.aload_n 1, 1) := by decide +kernel
theorem d_Ca_compare_71 : decode prog_2_method_6_code 71 = .ok (.getfield 55, 3) := by decide +kernel
theorem d_Ca_compare_74 : decode prog_2_method_6_code 74 = .ok (.ifCond .ge 8, 3) := by decide +kernel
theorem d_Ca_compare_77 : decode prog_2_method_6_code 77 = .ok (.iload_n 3, 1) := by decide +kernel
theorem d_Ca_compare_78 : decode prog_2_method_6_code 78 = .ok (.ineg, 1) := by decide +kernel
theorem d_Ca_compare_79 : decode prog_2_method_6_code 79 = .ok (.goto 4, 3) := by decide +kernel
theorem d_Ca_compare_82 : decode prog_2_method_6_code 82 = .ok (.iload_n 3, 1) := by decide +kernel
theorem d_Ca_compare_83 : decode prog_2_method_6_code 83 = .ok (.ireturn, 1) := by decide +kernel
theorem d_Ca_setReduced_0 : decode prog_2_method_7_code 0 = .ok (.aload_n 0, 1) := by decide +kernel
theorem d_Ca_setReduced_1 : decode prog_2_method_7_code 1 = .ok (.getfield 23, 3) := by decide +kernel
theorem d_Ca_setReduced_4 : decode prog_2_method_7_code 4 = .ok (.aload_n 2, 1) := by decide +kernel
theorem d_Ca_setReduced_5 : decode prog_2_method_7_code 5 = .ok (.aload_n 3, 1) := by decide +kernel
theorem d_Ca_setReduced_6 : decode prog_2_method_7_code 6 = .ok (.invokevirtual 68, 3) := by decide +kernel
theorem d_Ca_setReduced_9 : decode prog_2_method_7_code 9 = .ok (.astore 4, 2) := by decide +kernel
theorem d_Ca_setReduced_11 : decode prog_2_method_7_code 11 = .ok (.aload_n 0, 1) := by decide +kernel
theorem d_Ca_setReduced_12 : decode prog_2_method_7_code 12 = .ok (.aload_n 1, 1) := by decide +kernel
theorem d_Ca_setReduced_13 : decode prog_2_method_7_code 13 = .ok (.getfield 80, 3) := by decide +kernel
theorem d_Ca_setReduced_16 : decode prog_2_method_7_code 16 = .ok (.aload_n 2, 1) := by decide +kernel
theorem d_Ca_setReduced_17 : decode prog_2_method_7_code 17 = .ok (.aload 4, 2) := by decide +kernel
theorem d_Ca_setReduced_19 : decode prog_2_method_7_code 19 = .ok (.invokevirtual 76, 3) := by decide +kernel
theorem d_Ca_setReduced_22 : decode prog_2_method_7_code 22 = .ok (.aload_n 0, 1) := by decide +kernel
theorem d_Ca_setReduced_23 : decode prog_2_method_7_code 23 = .ok (.aload_n 1, 1) := by decide +kernel
theorem d_Ca_setReduced_24 : decode prog_2_method_7_code 24 = .ok (.getfield 65, 3) := by decide +kernel
theorem d_Ca_setReduced_27 : decode prog_2_method_7_code 27 = .ok (.aload_n 3, 1) := by decide +kernel
theorem d_Ca_setReduced_28 : decode prog_2_method_7_code 28 = .ok (.aload 4, 2) := by decide +kernel
theorem d_Ca_setReduced_30 : decode prog_2_method_7_code 30 = .ok (.invokevirtual 76, 3) := by decide +kernel
theorem d_Ca_setReduced_33 : decode prog_2_method_7_code 33 = .ok (.return_, 1) := by decide +kernel
theorem d_Ca_setQuotient_0 : decode prog_2_method_8_code 0 = .ok (.aload_n 0, 1) := by decide +kernel
theorem d_Ca_setQuotient_1 : decode prog_2_method_8_code 1 = .ok (.getfield 12, 3) := by decide +kernel
theorem d_Ca_setQuotient_4 : decode prog_2_method_8_code 4 = .ok (.aload_n 2, 1) := by decide +kernel
theorem d_Ca_setQuotient_5 : decode prog_2_method_8_code 5 = .ok (.aload_n 3, 1) := by decide +kernel
theorem d_Ca_setQuotient_6 : decode prog_2_method_8_code 6 = .ok (.invokevirtual 91, 3) := by decide +kernel
theorem d_Ca_setQuotient_9 : decode prog_2_method_8_code 9 = .ok (.aload_n 1, 1) := by decide +kernel
theorem d_Ca_setQuotient_10 : decode prog_2_method_8_code 10 = .ok (.aload_n 0, 1) := by decide +kernel
theorem d_Ca_setQuotient_11 : decode prog_2_method_8_code 11 = .ok (.getfield 12, 3) := by decide +kernel
theorem d_Ca_setQuotient_14 : decode prog_2_method_8_code 14 = .ok (.getfield 94, 3) := by decide +kernel
theorem d_Ca_setQuotient_17 : decode prog_2_method_8_code 17 = .ok (.invokevirtual 72, 3) := by decide +kernel
theorem d_Ca_setQuotient_20 : decode prog_2_method_8_code 20 = .ok (.return_, 1) := by decide +kernel
theorem d_Ca_joinParts_0 : decode prog_2_method_9_code 0 = .ok (.iload_n 1, 1) := by decide +kernel
theorem d_Ca_joinParts_1 : decode prog_2_method_9_code 1 = .ok (.iload_n 2, 1) := by decide +kernel
theorem d_Ca_joinParts_2 : decode prog_2_method_9_code 2 = .ok (.imul, 1) := by decide +kernel
theorem d_Ca_joinParts_3 : decode prog_2_method_9_code 3 = .ok (.ifCond .lt 28, 3) := by decide +kernel
theorem d_Ca_joinParts_6 : decode prog_2_method_9_code 6 = .ok (.aload_n 0, 1) := by decide +kernel
theorem d_Ca_joinParts_7 : decode prog_2_method_9_code 7 = .ok (.getfield 48, 3) := by decide +kernel
theorem d_Ca_joinParts_10 : decode prog_2_method_9_code 10 = .ok (.aload_n 0, 1) := by decide +kernel
theorem d_Ca_joinParts_11 : decode prog_2_method_9_code 11 = .ok (.getfield 36, 3) := by decide +kernel
theorem d_Ca_joinParts_14 : decode prog_2_method_9_code 14 = .ok (.aload_n 0, 1) := by decide +kernel
theorem d_Ca_joinParts_15 : decode prog_2_method_9_code 15 = .ok (.getfield 42, 3) := by decide +kernel
theorem d_Ca_joinParts_18 : decode prog_2_method_9_code 18 = .ok (.invokevirtual 111, 3) := by decide +kernel
theorem d_Ca_joinParts_21 : decode prog_2_method_9_code 21 = .ok (.iload_n 1, 1) := by decide +kernel
theorem d_Ca_joinParts_22 : decode prog_2_method_9_code 22 = .ok (.ifCond .eq 7, 3) := by decide +kernel
theorem d_Ca_joinParts_25 : decode prog_2_method_9_code 25 = .ok (.iload_n 1, 1) := by decide +kernel
theorem d_Ca_joinParts_26 : decode prog_2_method_9_code 26 = .ok (.goto 4, 3) := by decide +kernel
theorem d_Ca_joinParts_29 : decode prog_2_method_9_code 29 = .ok (.iload_n 2, 1) := by decide +kernel
theorem d_Ca_joinParts_30 : decode prog_2_method_9_code 30 = .ok (.ireturn, 1) := by decide +kernel
theorem d_Ca_joinParts_31 : decode prog_2_method_9_code 31 = .ok (.aload_n 0, 1) := by decide +kernel
theorem d_Ca_joinParts_32 : decode prog_2_method_9_code 32 = .ok (.getfield 36, 3) := by decide +kernel
theorem d_Ca_joinParts_35 : decode prog_2_method_9_code 35 = .ok (.aload_n 0, 1) := by decide +kernel
theorem d_Ca_joinParts_36 : decode prog_2_method_9_code 36 = .ok (.getfield 42, 3) := by decide +kernel
theorem d_Ca_joinParts_39 : decode prog_2_method_9_code 39 = .ok (.invokevirtual 107, 3) := by decide +kernel
theorem d_Ca_joinParts_42 : decode prog_2_method_9_code 42 = .ok (.istore_n 3, 1) := by decide +kernel
theorem d_Ca_joinParts_43 : decode prog_2_method_9_code 43 = .ok (.iload_n 3, 1) := by decide +kernel
theorem d_Ca_joinParts_44 : decode prog_2_method_9_code 44 = .ok (.ifCond .lt 21, 3) := by decide +kernel
theorem d_Ca_joinParts_47 : decode prog_2_method_9_code 47 = .ok (.aload_n 0, 1) := by decide +kernel
theorem d_Ca_joinParts_48 : decode prog_2_method_9_code 48 = .ok (.getfield 48, 3) := by decide +kernel
theorem d_Ca_joinParts_51 : decode prog_2_method_9_code 51 = .ok (.aload_n 0, 1) := by decide +kernel
theorem d_Ca_joinParts_52 : decode prog_2_method_9_code 52 = .ok (.getfield 36, 3) := by decide +kernel
theorem d_Ca_joinParts_55 : decode prog_2_method_9_code 55 = .ok (.aload_n 0, 1) := by decide +kernel
theorem d_Ca_joinParts_56 : decode prog_2_method_9_code 56 = .ok (.getfield 42, 3) := by decide +kernel
theorem d_Ca_joinParts_59 : decode prog_2_method_9_code 59 = .ok (.invokevirtual 114, 3) := by decide +kernel
theorem d_Ca_joinParts_62 : decode prog_2_method_9_code 62 = .ok (.goto 18, 3) := by decide +kernel
theorem d_Ca_joinParts_65 : decode prog_2_method_9_code 65 = .ok (.aload_n 0, 1) := by decide +kernel
theorem d_Ca_joinParts_66 : decode prog_2_method_9_code 66 = .ok (.getfield 48, 3) := by decide +kernel
theorem d_Ca_joinParts_69 : decode prog_2_method_9_code 69 = .ok (.aload_n 0, 1) := by decide +kernel
theorem d_Ca_joinParts_70 : decode prog_2_method_9_code 70 = .ok (.getfield 42, 3) := by decide +kernel
theorem d_Ca_joinParts_73 : decode prog_2_method_9_code 73 = .ok (.aload_n 0, 1) := by decide +kernel
theorem d_Ca_joinParts_74 : decode prog_2_method_9_code 74 = .ok (.getfield 36, 3) := by decide +kernel
theorem d_Ca_joinParts_77 : decode prog_2_method_9_code 77 = .ok (.invokevirtual 114, 3) := by decide +kernel
theorem d_Ca_joinParts_80 : decode prog_2_method_9_code 80 = .ok (.iload_n 3, 1) := by decide +kernel
theorem d_Ca_joinParts_81 : decode prog_2_method_9_code 81 = .ok (.iload_n 1, 1) := by decide +kernel
theorem d_Ca_joinParts_82 : decode prog_2_method_9_code 82 = .ok (.imul, 1) := by decide +kernel
theorem d_Ca_joinParts_83 : decode prog_2_method_9_code 83 = .ok (.ireturn, 1) := by decide +kernel
theorem d_Ca_goesFurther_0 : decode prog_2_method_10_code 0 = .ok (.aload_n 0, 1) := by decide +kernel
theorem d_Ca_goesFurther_1 : decode prog_2_method_10_code 1 = .ok (.getfield 12, 3) := by decide +kernel
theorem d_Ca_goesFurther_4 : decode prog_2_method_10_code 4 = .ok (.getfield 117, 3) := by decide +kernel
theorem d_Ca_goesFurther_7 : decode prog_2_method_10_code 7 = .ok (.getfield 104, 3) := by decide +kernel
theorem d_Ca_goesFurther_10 : decode prog_2_method_10_code 10 = .ok (.ifCond .ne 5, 3) := by decide +kernel
theorem d_Ca_goesFurther_13 : decode prog_2_method_10_code 13 = .ok (.iconst 0, 1) := by decide +kernel
theorem d_Ca_goesFurther_14 : decode prog_2_method_10_code 14 = .ok (.ireturn, 1) := by decide +kernel
theorem d_Ca_goesFurther_15 : decode prog_2_method_10_code 15 = .ok (.iload_n 2, 1) := by decide +kernel
theorem d_Ca_goesFurther_16 : decode prog_2_method_10_code 16 = .ok (.ifCond .ne 16, 3) := by decide +kernel
theorem d_Ca_goesFurther_19 : decode prog_2_method_10_code 19 = .ok (.aload_n 1, 1) := by decide +kernel
theorem d_Ca_goesFurther_20 : decode prog_2_method_10_code 20 = .ok (.getfield 55, 3) := by decide +kernel
theorem d_Ca_goesFurther_23 : decode prog_2_method_10_code 23 = .ok (.ifCond .ge 7, 3) := by decide +kernel
theorem d_Ca_goesFurther_26 : decode prog_2_method_10_code 26 = .ok (.iconst 1, 1) := by decide +kernel
theorem d_Ca_goesFurther_27 : decode prog_2_method_10_code 27 = .ok (.goto 4, 3) := by decide +kernel
theorem d_Ca_goesFurther_30 : decode prog_2_method_10_code 30 = .ok (.iconst 0, 1) := by decide +kernel
theorem d_Ca_goesFurther_31 : decode prog_2_method_10_code 31 = .ok (.ireturn, 1) := by decide +kernel
theorem d_Ca_goesFurther_32 : decode prog_2_method_10_code 32 = .ok (.iload_n 2, 1) := by decide +kernel
theorem d_Ca_goesFurther_33 : decode prog_2_method_10_code 33 = .ok (.iconst 1, 1) := by decide +kernel
theorem d_Ca_goesFurther_34 : decode prog_2_method_10_code 34 = .ok (.if_icmp .ne 16, 3) := by decide +kernel
theorem d_Ca_goesFurther_37 : decode prog_2_method_10_code 37 = .ok (.aload_n 1, 1) := by decide +kernel
theorem d_Ca_goesFurther_38 : decode prog_2_method_10_code 38 = .ok (.getfield 55, 3) := by decide +kernel
theorem d_Ca_goesFurther_41 : decode prog_2_method_10_code 41 = .ok (.ifCond .le 7, 3) := by decide +kernel
theorem d_Ca_goesFurther_44 : decode prog_2_method_10_code 44 = .ok (.iconst 1, 1) := by decide +kernel
theorem d_Ca_goesFurther_45 : decode prog_2_method_10_code 45 = .ok (.goto 4, 3) := by decide +kernel
theorem d_Ca_goesFurther_48 : decode prog_2_method_10_code 48 = .ok (.iconst 0, 1) := by decide +kernel
theorem d_Ca_goesFurther_49 : decode prog_2_method_10_code 49 = .ok (.ireturn, 1) := by decide +kernel
theorem d_Ca_goesFurther_50 : decode prog_2_method_10_code 50 = .ok (.aload_n 0, 1) := by decide +kernel
theorem d_Ca_goesFurther_51 : decode prog_2_method_10_code 51 = .ok (.getfield 42, 3) := by decide +kernel
theorem d_Ca_goesFurther_54 : decode prog_2_method_10_code 54 = .ok (.aload_n 0, 1) := by decide +kernel
theorem d_Ca_goesFurther_55 : decode prog_2_method_10_code 55 = .ok (.getfield 12, 3) := by decide +kernel
theorem d_Ca_goesFurther_58 : decode prog_2_method_10_code 58 = .ok (.getfield 117, 3) := by decide +kernel
theorem d_Ca_goesFurther_61 : decode prog_2_method_10_code 61 = .ok (.aload_n 0, 1) := by decide +kernel
theorem d_Ca_goesFurther_62 : decode prog_2_method_10_code 62 = .ok (.getfield 12, 3) := by decide +kernel
theorem d_Ca_goesFurther_65 : decode prog_2_method_10_code 65 = .ok (.getfield 117, 3) := by decide +kernel
theorem d_Ca_goesFurther_68 : decode prog_2_method_10_code 68 = .ok (.invokevirtual 111, 3) := by decide +kernel
theorem d_Ca_goesFurther_71 : decode prog_2_method_10_code 71 = .ok (.aload_n 0, 1) := by decide +kernel
theorem d_Ca_goesFurther_72 : decode prog_2_method_10_code 72 = .ok (.getfield 42, 3) := by decide +kernel
theorem d_Ca_goesFurther_75 : decode prog_2_method_10_code 75 = .ok (.aload_n 1, 1) := by decide +kernel
theorem d_Ca_goesFurther_76 : decode prog_2_method_10_code 76 = .ok (.getfield 65, 3) := by decide +kernel
theorem d_Ca_goesFurther_79 : decode prog_2_method_10_code 79 = .ok (.invokevirtual 107, 3) := by decide +kernel
theorem d_Ca_goesFurther_82 : decode prog_2_method_10_code 82 = .ok (.istore_n 3, 1) := by decide +kernel
theorem d_Ca_goesFurther_83 : decode prog_2_method_10_code 83 = .ok (.iload_n 3, 1) := by decide +kernel
theorem d_Ca_goesFurther_84 : decode prog_2_method_10_code 84 = .ok (.ifCond .eq 13, 3) := by decide +kernel
theorem d_Ca_goesFurther_87 : decode prog_2_method_10_code 87 = .ok (.iload_n 3, 1) := by decide +kernel
theorem d_Ca_goesFurther_88 : decode prog_2_method_10_code 88 = .ok (.ifCond .le 7, 3) := by decide +kernel
theorem d_Ca_goesFurther_91 : decode prog_2_method_10_code 91 = .ok (.iconst 1, 1) := by decide +kernel
theorem d_Ca_goesFurther_92 : decode prog_2_method_10_code 92 = .ok (.goto 4, 3) := by decide +kernel
theorem d_Ca_goesFurther_95 : decode prog_2_method_10_code 95 = .ok (.iconst 0, 1) := by decide +kernel
theorem d_Ca_goesFurther_96 : decode prog_2_method_10_code 96 = .ok (.ireturn, 1) := by decide +kernel
theorem d_Ca_goesFurther_97 : decode prog_2_method_10_code 97 = .ok (.iload_n 2, 1) := by decide +kernel
theorem d_Ca_goesFurther_98 : decode prog_2_method_10_code 98 = .ok (.iconst 2, 1) := by decide +kernel
theorem d_Ca_goesFurther_99 : decode prog_2_method_10_code 99 = .ok (.if_icmp .ne 18, 3) := by decide +kernel
theorem d_Ca_goesFurther_102 : decode prog_2_method_10_code 102 = .ok (.aload_n 1, 1) := by decide +kernel
theorem d_Ca_goesFurther_103 : decode prog_2_method_10_code 103 = .ok (.getfield 55, 3) := by decide +kernel
theorem d_Ca_goesFurther_106 : decode prog_2_method_10_code 106 = .ok (.ifCond .le 7, 3) := by decide +kernel
theorem d_Ca_goesFurther_109 : decode prog_2_method_10_code 109 = .ok (.iconst 1, 1) := by decide +kernel
theorem d_Ca_goesFurther_110 : decode prog_2_method_10_code 110 = .ok (.goto 17, 3) := by decide +kernel
theorem d_Ca_goesFurther_113 : decode prog_2_method_10_code 113 = .ok (.iconst 0, 1) := by decide +kernel
theorem d_Ca_goesFurther_114 : decode prog_2_method_10_code 114 = .ok (.goto 13, 3) := by decide +kernel
theorem d_Ca_goesFurther_117 : decode prog_2_method_10_code 117 = .ok (.aload_n 0, 1) := by decide +kernel
theorem d_Ca_goesFurther_118 : decode prog_2_method_10_code 118 = .ok (.getfield 12, 3) := by decide +kernel
theorem d_Ca_goesFurther_121 : decode prog_2_method_10_code 121 = .ok (.getfield 94, 3) := by decide +kernel
theorem d_Ca_goesFurther_124 : decode prog_2_method_10_code 124 = .ok (.invokevirtual 120, 3) := by decide +kernel
theorem d_Ca_goesFurther_127 : decode prog_2_method_10_code 127 = .ok (.ireturn, 1) := by decide +kernel
theorem d_Fr_init_0 : decode prog_5_method_1_code 0 = .ok (.aload_n 0, 1) := by decide +kernel
theorem d_Fr_init_1 : decode prog_5_method_1_code 1 = .ok (.invokespecial 3, 3) := by decide +kernel
theorem d_Fr_init_4 : decode prog_5_method_1_code 4 = .ok (.aload_n 0, 1) := by decide +kernel
theorem d_Fr_init_5 : decode prog_5_method_1_code 5 = .ok (.iconst 0, 1) := by decide +kernel
theorem d_Fr_init_6 : decode prog_5_method_1_code 6 = .ok (.putfield 9, 3) := by decide +kernel
theorem d_Fr_init_9 : decode prog_5_method_1_code 9 = .ok (.aload_n 0, 1) := by decide +kernel
theorem d_Fr_init_10 : decode prog_5_method_1_code 10 = .ok (.new 15, 3) := by decide +kernel
theorem d_Fr_init_13 : decode prog_5_method_1_code 13 = .ok (.dup, 1) := by decide +kernel
theorem d_Fr_init_14 : decode prog_5_method_1_code 14 = .ok (.iload_n 1, 1) := by decide +kernel
theorem d_Fr_init_15 : decode prog_5_method_1_code 15 = .ok (.invokespecial 17, 3) := by decide +kernel
theorem d_Fr_init_18 : decode prog_5_method_1_code 18 = .ok (.putfield 20, 3) := by decide +kernel
theorem d_Fr_init_21 : decode prog_5_method_1_code 21 = .ok (.aload_n 0, 1) := by decide +kernel
theorem d_Fr_init_22 : decode prog_5_method_1_code 22 = .ok (.new 15, 3) := by decide +kernel
theorem d_Fr_init_25 : decode prog_5_method_1_code 25 = .ok (.dup, 1) := by decide +kernel
theorem d_Fr_init_26 : decode prog_5_method_1_code 26 = .ok (.iload_n 2, 1) := by decide +kernel
theorem d_Fr_init_27 : decode prog_5_method_1_code 27 = .ok (.invokespecial 17, 3) := by decide +kernel
theorem d_Fr_init_30 : decode prog_5_method_1_code 30 = .ok (.putfield 24, 3) := by decide +kernel
theorem d_Fr_init_33 : decode prog_5_method_1_code 33 = .ok (.return_, 1) := by decide +kernel
theorem d_Fr_ofLowestTerms_0 : decode prog_5_method_2_code 0 = .ok (.new 10, 3) := by decide +kernel
theorem d_Fr_ofLowestTerms_3 : decode prog_5_method_2_code 3 = .ok (.dup, 1) := by decide +kernel
theorem d_Fr_ofLowestTerms_4 : decode prog_5_method_2_code 4 = .ok (.iconst 3, 1) := by decide +kernel
theorem d_Fr_ofLowestTerms_5 : decode prog_5_method_2_code 5 = .ok (.iconst 3, 1) := by decide +kernel
theorem d_Fr_ofLowestTerms_6 : decode prog_5_method_2_code 6 = .ok (.invokespecial 27, 3) := by decide +kernel
theorem d_Fr_ofLowestTerms_9 : decode prog_5_method_2_code 9 = .ok (.astore_n 2, 1) := by decide +kernel
theorem d_Fr_ofLowestTerms_10 : decode prog_5_method_2_code 10 = .ok (.aload_n 2, 1) := by decide +kernel
theorem d_Fr_ofLowestTerms_11 : decode prog_5_method_2_code 11 = .ok (.iload_n 0, 1) := by decide +kernel
theorem d_Fr_ofLowestTerms_12 : decode prog_5_method_2_code 12 = .ok (.ifCond .ne 7, 3) := by decide +kernel
theorem d_Fr_ofLowestTerms_15 : decode prog_5_method_2_code 15 = .ok (.iconst 0, 1) := by decide +kernel
theorem d_Fr_ofLowestTerms_16 : decode prog_5_method_2_code 16 = .ok (.goto 4, 3) := by decide +kernel
theorem d_Fr_ofLowestTerms_19 : decode prog_5_method_2_code 19 = .ok (.iconst 1, 1) := by decide +kernel
theorem d_Fr_ofLowestTerms_20 : decode prog_5_method_2_code 20 = .ok (.putfield 9, 3) := by decide +kernel
theorem d_Fr_ofLowestTerms_23 : decode prog_5_method_2_code 23 = .ok (.aload_n 2, 1) := by decide +kernel
theorem d_Fr_ofLowestTerms_24 : decode prog_5_method_2_code 24 = .ok (.getfield 20, 3) := by decide +kernel
theorem d_Fr_ofLowestTerms_27 : decode prog_5_method_2_code 27 = .ok (.iload_n 0, 1) := by decide +kernel
theorem d_Fr_ofLowestTerms_28 : decode prog_5_method_2_code 28 = .ok (.i2l, 1) := by decide +kernel
theorem d_Fr_ofLowestTerms_29 : decode prog_5_method_2_code 29 = .ok (.invokevirtual 30, 3) := by decide +kernel
theorem d_Fr_ofLowestTerms_32 : decode prog_5_method_2_code 32 = .ok (.aload_n 2, 1) := by decide +kernel
theorem d_Fr_ofLowestTerms_33 : decode prog_5_method_2_code 33 = .ok (.getfield 24, 3) := by decide +kernel
theorem d_Fr_ofLowestTerms_36 : decode prog_5_method_2_code 36 = .ok (.iload_n 1, 1) := by decide +kernel
theorem d_Fr_ofLowestTerms_37 : decode prog_5_method_2_code 37 = .ok (.i2l, 1) := by decide +kernel
theorem d_Fr_ofLowestTerms_38 : decode prog_5_method_2_code 38 = .ok (.invokevirtual 30, 3) := by decide +kernel
theorem d_Fr_ofLowestTerms_41 : decode prog_5_method_2_code 41 = .ok (.aload_n 2, 1) := by decide +kernel
theorem d_Fr_ofLowestTerms_42 : decode prog_5_method_2_code 42 = .ok (.areturn, 1) := by decide +kernel
theorem d_Fr_setTo_0 : decode prog_5_method_3_code 0 = .ok (.aload_n 0, 1) := by decide +kernel
theorem d_Fr_setTo_1 : decode prog_5_method_3_code 1 = .ok (.aload_n 1, 1) := by decide +kernel
theorem d_Fr_setTo_2 : decode prog_5_method_3_code 2 = .ok (.getfield 9, 3) := by decide +kernel
theorem d_Fr_setTo_5 : decode prog_5_method_3_code 5 = .ok (.putfield 9, 3) := by decide +kernel
theorem d_Fr_setTo_8 : decode prog_5_method_3_code 8 = .ok (.aload_n 0, 1) := by decide +kernel
theorem d_Fr_setTo_9 : decode prog_5_method_3_code 9 = .ok (.getfield 20, 3) := by decide +kernel
theorem d_Fr_setTo_12 : decode prog_5_method_3_code 12 = .ok (.aload_n 1, 1) := by decide +kernel
theorem d_Fr_setTo_13 : decode prog_5_method_3_code 13 = .ok (.getfield 20, 3) := by decide +kernel
theorem d_Fr_setTo_16 : decode prog_5_method_3_code 16 = .ok (.invokevirtual 34, 3) := by decide +kernel
theorem d_Fr_setTo_19 : decode prog_5_method_3_code 19 = .ok (.aload_n 0, 1) := by decide +kernel
theorem d_Fr_setTo_20 : decode prog_5_method_3_code 20 = .ok (.getfield 24, 3) := by decide +kernel
theorem d_Fr_setTo_23 : decode prog_5_method_3_code 23 = .ok (.aload_n 1, 1) := by decide +kernel
theorem d_Fr_setTo_24 : decode prog_5_method_3_code 24 = .ok (.getfield 24, 3) := by decide +kernel
theorem d_Fr_setTo_27 : decode prog_5_method_3_code 27 = .ok (.invokevirtual 34, 3) := by decide +kernel
theorem d_Fr_setTo_30 : decode prog_5_method_3_code 30 = .ok (.return_, 1) := by decide +kernel
theorem d_Fr_copy_0 : decode prog_5_method_4_code 0 = .ok (.new 10, 3) := by decide +kernel
theorem d_Fr_copy_3 : decode prog_5_method_4_code 3 = .ok (.dup, 1) := by decide +kernel
theorem d_Fr_copy_4 : decode prog_5_method_4_code 4 = .ok (.aload_n 0, 1) := by decide +kernel
theorem d_Fr_copy_5 : decode prog_5_method_4_code 5 = .ok (.getfield 20, 3) := by decide +kernel
theorem d_Fr_copy_8 : decode prog_5_method_4_code 8 = .ok (.getfield 38, 3) := by decide +kernel
theorem d_Fr_copy_11 : decode prog_5_method_4_code 11 = .ok (.aload_n 0, 1) := by decide +kernel
theorem d_Fr_copy_12 : decode prog_5_method_4_code 12 = .ok (.getfield 24, 3) := by decide +kernel
theorem d_Fr_copy_15 : decode prog_5_method_4_code 15 = .ok (.getfield 38, 3) := by decide +kernel
theorem d_Fr_copy_18 : decode prog_5_method_4_code 18 = .ok (.invokespecial 27, 3) := by decide +kernel
theorem d_Fr_copy_21 : decode prog_5_method_4_code 21 = .ok (.astore_n 1, 1) := by decide +kernel
theorem d_Fr_copy_22 : decode prog_5_method_4_code 22 = .ok (.aload_n 1, 1) := by decide +kernel
theorem d_Fr_copy_23 : decode prog_5_method_4_code 23 = .ok (.aload_n 0, 1) := by decide +kernel
theorem d_Fr_copy_24 : decode prog_5_method_4_code 24 = .ok (.invokevirtual 41, 3) := by decide +kernel
theorem d_Fr_copy_27 : decode prog_5_method_4_code 27 = .ok (.aload_n 1, 1) := by decide +kernel
theorem d_Fr_copy_28 : decode prog_5_method_4_code 28 = .ok (.areturn, 1) := by decide +kernel
theorem d_Fr_isLong_0 : decode prog_5_method_5_code 0 = .ok (.aload_n 0, 1) := by decide +kernel
theorem d_Fr_isLong_1 : decode prog_5_method_5_code 1 = .ok (.getfield 20, 3) := by decide +kernel
theorem d_Fr_isLong_4 : decode prog_5_method_5_code 4 = .ok (.invokevirtual 44, 3) := by decide +kernel
theorem d_Fr_isLong_7 : decode prog_5_method_5_code 7 = .ok (.sipush 900, 3) := by decide +kernel
theorem d_Fr_isLong_10 : decode prog_5_method_5_code 10 = .ok (.if_icmp .gt 16, 3) := by decide +kernel
theorem d_Fr_isLong_13 : decode prog_5_method_5_code 13 = .ok (.aload_n 0, 1) := by decide +kernel
theorem d_Fr_isLong_14 : decode prog_5_method_5_code 14 = .ok (.getfield 24, 3) := by decide +kernel
theorem d_Fr_isLong_17 : decode prog_5_method_5_code 17 = .ok (.invokevirtual 44, 3) := by decide +kernel
theorem d_Fr_isLong_20 : decode prog_5_method_5_code 20 = .ok (.sipush 900, 3) := by decide +kernel
theorem d_Fr_isLong_23 : decode prog_5_method_5_code 23 = .ok (.if_icmp .le 7, 3) := by decide +kernel
theorem d_Fr_isLong_26 : decode prog_5_method_5_code 26 = .ok (.iconst 1, 1) := by decide +kernel
theorem d_Fr_isLong_27 : decode prog_5_method_5_code 27 = .ok (.goto 4, 3) := by decide +kernel
theorem d_Fr_isLong_30 : decode prog_5_method_5_code 30 = .ok (.iconst 0, 1) := by decide +kernel
theorem d_Fr_isLong_31 : decode prog_5_method_5_code 31 = .ok (.ireturn, 1) := by decide +kernel
