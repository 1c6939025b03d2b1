theorem d_X1_init_0 : decode prog_3_method_1_code 0 = .ok (.aload_n 0, 1) := by decide +kernel
theorem d_X1_init_1 : decode prog_3_method_1_code 1 = .ok (.invokespecial 3, 3) := by decide +kernel
theorem d_X1_init_4 : decode prog_3_method_1_code 4 = .ok (.aload_n 0, 1) := by decide +kernel
theorem d_X1_init_5 : decode prog_3_method_1_code 5 = .ok (.bipush 6, 2) := by decide +kernel
theorem d_X1_init_7 : decode prog_3_method_1_code 7 = .ok (.anewarray 9, 3) := by decide +kernel
theorem d_X1_init_10 : decode prog_3_method_1_code 10 = .ok (.putfield 11, 3) := by decide +kernel
theorem d_X1_init_13 : decode prog_3_method_1_code 13 = .ok (.aload_n 0, 1) := by decide +kernel
theorem d_X1_init_14 : decode prog_3_method_1_code 14 = .ok (.bipush 6, 2) := by decide +kernel
theorem d_X1_init_16 : decode prog_3_method_1_code 16 = .ok (.newarray .int, 2) := by decide +kernel
theorem d_X1_init_18 : decode prog_3_method_1_code 18 = .ok (.putfield 19, 3) := by decide +kernel
theorem d_X1_init_21 : decode prog_3_method_1_code 21 = .ok (.aload_n 0, 1) := by decide +kernel
theorem d_X1_init_22 : decode prog_3_method_1_code 22 = .ok (.bipush 40, 2) := by decide +kernel
theorem d_X1_init_24 : decode prog_3_method_1_code 24 = .ok (.newarray .int, 2) := by decide +kernel
theorem d_X1_init_26 : decode prog_3_method_1_code 26 = .ok (.putfield 23, 3) := by decide +kernel
theorem d_X1_init_29 : decode prog_3_method_1_code 29 = .ok (.return_, 1) := by decide +kernel
theorem d_X3_init_0 : decode prog_5_method_1_code 0 = .ok (.aload_n 0, 1) := by decide +kernel
theorem d_X3_init_1 : decode prog_5_method_1_code 1 = .ok (.invokespecial 3, 3) := by decide +kernel
theorem d_X3_init_4 : decode prog_5_method_1_code 4 = .ok (.aload_n 0, 1) := by decide +kernel
theorem d_X3_init_5 : decode prog_5_method_1_code 5 = .ok (.sipush 160, 3) := by decide +kernel
theorem d_X3_init_8 : decode prog_5_method_1_code 8 = .ok (.newarray .int, 2) := by decide +kernel
theorem d_X3_init_10 : decode prog_5_method_1_code 10 = .ok (.putfield 9, 3) := by decide +kernel
theorem d_X3_init_13 : decode prog_5_method_1_code 13 = .ok (.aload_n 0, 1) := by decide +kernel
theorem d_X3_init_14 : decode prog_5_method_1_code 14 = .ok (.sipush 160, 3) := by decide +kernel
theorem d_X3_init_17 : decode prog_5_method_1_code 17 = .ok (.newarray .int, 2) := by decide +kernel
theorem d_X3_init_19 : decode prog_5_method_1_code 19 = .ok (.putfield 15, 3) := by decide +kernel
theorem d_X3_init_22 : decode prog_5_method_1_code 22 = .ok (.aload_n 0, 1) := by decide +kernel
theorem d_X3_init_23 : decode prog_5_method_1_code 23 = .ok (.iconst 3, 1) := by decide +kernel
theorem d_X3_init_24 : decode prog_5_method_1_code 24 = .ok (.newarray .int, 2) := by decide +kernel
theorem d_X3_init_26 : decode prog_5_method_1_code 26 = .ok (.putfield 18, 3) := by decide +kernel
theorem d_X3_init_29 : decode prog_5_method_1_code 29 = .ok (.return_, 1) := by decide +kernel
theorem d_X0_init_0 : decode prog_2_method_1_code 0 = .ok (.aload_n 0, 1) := by decide +kernel
theorem d_X0_init_1 : decode prog_2_method_1_code 1 = .ok (.invokespecial 3, 3) := by decide +kernel
theorem d_X0_init_4 : decode prog_2_method_1_code 4 = .ok (.aload_n 0, 1) := by decide +kernel
theorem d_X0_init_5 : decode prog_2_method_1_code 5 = .ok (.bipush 6, 2) := by decide +kernel
theorem d_X0_init_7 : decode prog_2_method_1_code 7 = .ok (.newarray .int, 2) := by decide +kernel
theorem d_X0_init_9 : decode prog_2_method_1_code 9 = .ok (.putfield 9, 3) := by decide +kernel
theorem d_X0_init_12 : decode prog_2_method_1_code 12 = .ok (.aload_n 0, 1) := by decide +kernel
theorem d_X0_init_13 : decode prog_2_method_1_code 13 = .ok (.bipush 6, 2) := by decide +kernel
theorem d_X0_init_15 : decode prog_2_method_1_code 15 = .ok (.newarray .int, 2) := by decide +kernel
theorem d_X0_init_17 : decode prog_2_method_1_code 17 = .ok (.putfield 15, 3) := by decide +kernel
theorem d_X0_init_20 : decode prog_2_method_1_code 20 = .ok (.aload_n 0, 1) := by decide +kernel
theorem d_X0_init_21 : decode prog_2_method_1_code 21 = .ok (.bipush 6, 2) := by decide +kernel
theorem d_X0_init_23 : decode prog_2_method_1_code 23 = .ok (.newarray .int, 2) := by decide +kernel
theorem d_X0_init_25 : decode prog_2_method_1_code 25 = .ok (.putfield 18, 3) := by decide +kernel
theorem d_X0_init_28 : decode prog_2_method_1_code 28 = .ok (.aload_n 0, 1) := by decide +kernel
theorem d_X0_init_29 : decode prog_2_method_1_code 29 = .ok (.bipush 6, 2) := by decide +kernel
theorem d_X0_init_31 : decode prog_2_method_1_code 31 = .ok (.newarray .int, 2) := by decide +kernel
theorem d_X0_init_33 : decode prog_2_method_1_code 33 = .ok (.putfield 21, 3) := by decide +kernel
theorem d_X0_init_36 : decode prog_2_method_1_code 36 = .ok (.aload_n 0, 1) := by decide +kernel
theorem d_X0_init_37 : decode prog_2_method_1_code 37 = .ok (.bipush 10, 2) := by decide +kernel
theorem d_X0_init_39 : decode prog_2_method_1_code 39 = .ok (.newarray .int, 2) := by decide +kernel
theorem d_X0_init_41 : decode prog_2_method_1_code 41 = .ok (.putfield 24, 3) := by decide +kernel
theorem d_X0_init_44 : decode prog_2_method_1_code 44 = .ok (.aload_n 0, 1) := by decide +kernel
theorem d_X0_init_45 : decode prog_2_method_1_code 45 = .ok (.bipush 10, 2) := by decide +kernel
theorem d_X0_init_47 : decode prog_2_method_1_code 47 = .ok (.newarray .int, 2) := by decide +kernel
theorem d_X0_init_49 : decode prog_2_method_1_code 49 = .ok (.putfield 27, 3) := by decide +kernel
theorem d_X0_init_52 : decode prog_2_method_1_code 52 = .ok (.aload_n 0, 1) := by decide +kernel
theorem d_X0_init_53 : decode prog_2_method_1_code 53 = .ok (.bipush 10, 2) := by decide +kernel
theorem d_X0_init_55 : decode prog_2_method_1_code 55 = .ok (.newarray .int, 2) := by decide +kernel
theorem d_X0_init_57 : decode prog_2_method_1_code 57 = .ok (.putfield 30, 3) := by decide +kernel
theorem d_X0_init_60 : decode prog_2_method_1_code 60 = .ok (.aload_n 0, 1) := by decide +kernel
theorem d_X0_init_61 : decode prog_2_method_1_code 61 = .ok (.aload_n 1, 1) := by decide +kernel
theorem d_X0_init_62 : decode prog_2_method_1_code 62 = .ok (.putfield 33, 3) := by decide +kernel
theorem d_X0_init_65 : decode prog_2_method_1_code 65 = .ok (.aload_n 0, 1) := by decide +kernel
theorem d_X0_init_66 : decode prog_2_method_1_code 66 = .ok (.getfield 24, 3) := by decide +kernel
theorem d_X0_init_69 : decode prog_2_method_1_code 69 = .ok (.iconst (-1), 1) := by decide +kernel
theorem d_X0_init_70 : decode prog_2_method_1_code 70 = .ok (.invokestatic 37, 3) := by decide +kernel
theorem d_X0_init_73 : decode prog_2_method_1_code 73 = .ok (.return_, 1) := by decide +kernel
theorem d_X2_init_0 : decode prog_4_method_1_code 0 = .ok (.aload_n 0, 1) := by decide +kernel
theorem d_X2_init_1 : decode prog_4_method_1_code 1 = .ok (.invokespecial 3, 3) := by decide +kernel
theorem d_X2_init_4 : decode prog_4_method_1_code 4 = .ok (.aload_n 0, 1) := by decide +kernel
theorem d_X2_init_5 : decode prog_4_method_1_code 5 = .ok (.iconst (-1), 1) := by decide +kernel
theorem d_X2_init_6 : decode prog_4_method_1_code 6 = .ok (.putfield 9, 3) := by decide +kernel
theorem d_X2_init_9 : decode prog_4_method_1_code 9 = .ok (.aload_n 0, 1) := by decide +kernel
theorem d_X2_init_10 : decode prog_4_method_1_code 10 = .ok (.bipush 40, 2) := by decide +kernel
theorem d_X2_init_12 : decode prog_4_method_1_code 12 = .ok (.newarray .int, 2) := by decide +kernel
theorem d_X2_init_14 : decode prog_4_method_1_code 14 = .ok (.putfield 15, 3) := by decide +kernel
theorem d_X2_init_17 : decode prog_4_method_1_code 17 = .ok (.return_, 1) := by decide +kernel
theorem d_X5_init_0 : decode prog_1_method_1_code 0 = .ok (.aload_n 0, 1) := by decide +kernel
theorem d_X5_init_1 : decode prog_1_method_1_code 1 = .ok (.invokespecial 1, 3) := by decide +kernel
theorem d_X5_init_4 : decode prog_1_method_1_code 4 = .ok (.aload_n 0, 1) := by decide +kernel
theorem d_X5_init_5 : decode prog_1_method_1_code 5 = .ok (.new 7, 3) := by decide +kernel
theorem d_X5_init_8 : decode prog_1_method_1_code 8 = .ok (.dup, 1) := by decide +kernel
theorem d_X5_init_9 : decode prog_1_method_1_code 9 = .ok (.invokespecial 9, 3) := by decide +kernel
theorem d_X5_init_12 : decode prog_1_method_1_code 12 = .ok (.putfield 10, 3) := by decide +kernel
theorem d_X5_init_15 : decode prog_1_method_1_code 15 = .ok (.aload_n 0, 1) := by decide +kernel
theorem d_X5_init_16 : decode prog_1_method_1_code 16 = .ok (.new 16, 3) := by decide +kernel
theorem d_X5_init_19 : decode prog_1_method_1_code 19 = .ok (.dup, 1) := by decide +kernel
theorem d_X5_init_20 : decode prog_1_method_1_code 20 = .ok (.invokespecial 18, 3) := by decide +kernel
theorem d_X5_init_23 : decode prog_1_method_1_code 23 = .ok (.putfield 19, 3) := by decide +kernel
theorem d_X5_init_26 : decode prog_1_method_1_code 26 = .ok (.aload_n 0, 1) := by decide +kernel
theorem d_X5_init_27 : decode prog_1_method_1_code 27 = .ok (.new 23, 3) := by decide +kernel
theorem d_X5_init_30 : decode prog_1_method_1_code 30 = .ok (.dup, 1) := by decide +kernel
theorem d_X5_init_31 : decode prog_1_method_1_code 31 = .ok (.aload_n 0, 1) := by decide +kernel
theorem d_X5_init_32 : decode prog_1_method_1_code 32 = .ok (.getfield 10, 3) := by decide +kernel
theorem d_X5_init_35 : decode prog_1_method_1_code 35 = .ok (.invokespecial 25, 3) := by decide +kernel
theorem d_X5_init_38 : decode prog_1_method_1_code 38 = .ok (.putfield 28, 3) := by decide +kernel
theorem d_X5_init_41 : decode prog_1_method_1_code 41 = .ok (.aload_n 0, 1) := by decide +kernel
theorem d_X5_init_42 : decode prog_1_method_1_code 42 = .ok (.new 23, 3) := by decide +kernel
theorem d_X5_init_45 : decode prog_1_method_1_code 45 = .ok (.dup, 1) := by decide +kernel
theorem d_X5_init_46 : decode prog_1_method_1_code 46 = .ok (.aload_n 0, 1) := by decide +kernel
theorem d_X5_init_47 : decode prog_1_method_1_code 47 = .ok (.getfield 10, 3) := by decide +kernel
theorem d_X5_init_50 : decode prog_1_method_1_code 50 = .ok (.invokespecial 25, 3) := by decide +kernel
theorem d_X5_init_53 : decode prog_1_method_1_code 53 = .ok (.putfield 32, 3) := by decide +kernel
theorem d_X5_init_56 : decode prog_1_method_1_code 56 = .ok (.aload_n 0, 1) := by decide +kernel
theorem d_X5_init_57 : decode prog_1_method_1_code 57 = .ok (.new 23, 3) := by decide +kernel
theorem d_X5_init_60 : decode prog_1_method_1_code 60 = .ok (.dup, 1) := by decide +kernel
theorem d_X5_init_61 : decode prog_1_method_1_code 61 = .ok (.aload_n 0, 1) := by decide +kernel
theorem d_X5_init_62 : decode prog_1_method_1_code 62 = .ok (.getfield 10, 3) := by decide +kernel
theorem d_X5_init_65 : decode prog_1_method_1_code 65 = .ok (.invokespecial 25, 3) := by decide +kernel
theorem d_X5_init_68 : decode prog_1_method_1_code 68 = .ok (.putfield 35, 3) := by decide +kernel
theorem d_X5_init_71 : decode prog_1_method_1_code 71 = .ok (.aload_n 0, 1) := by decide +kernel
theorem d_X5_init_72 : decode prog_1_method_1_code 72 = .ok (.iconst 0, 1) := by decide +kernel
theorem d_X5_init_73 : decode prog_1_method_1_code 73 = .ok (.putfield 38, 3) := by decide +kernel
theorem d_X5_init_76 : decode prog_1_method_1_code 76 = .ok (.aload_n 0, 1) := by decide +kernel
theorem d_X5_init_77 : decode prog_1_method_1_code 77 = .ok (.iconst 4, 1) := by decide +kernel
theorem d_X5_init_78 : decode prog_1_method_1_code 78 = .ok (.anewarray 42, 3) := by decide +kernel
theorem d_X5_init_81 : decode prog_1_method_1_code 81 = .ok (.putfield 44, 3) := by decide +kernel
theorem d_X5_init_84 : decode prog_1_method_1_code 84 = .ok (.iconst 0, 1) := by decide +kernel
theorem d_X5_init_85 : decode prog_1_method_1_code 85 = .ok (.istore_n 1, 1) := by decide +kernel
theorem d_X5_init_86 : decode prog_1_method_1_code 86 = .ok (.iload_n 1, 1) := by decide +kernel
theorem d_X5_init_87 : decode prog_1_method_1_code 87 = .ok (.iconst 4, 1) := by decide +kernel
theorem d_X5_init_88 : decode prog_1_method_1_code 88 = .ok (.if_icmp .ge 22, 3) := by decide +kernel
theorem d_X5_init_91 : decode prog_1_method_1_code 91 = .ok (.aload_n 0, 1) := by decide +kernel
theorem d_X5_init_92 : decode prog_1_method_1_code 92 = .ok (.getfield 44, 3) := by decide +kernel
theorem d_X5_init_95 : decode prog_1_method_1_code 95 = .ok (.iload_n 1, 1) := by decide +kernel
theorem d_X5_init_96 : decode prog_1_method_1_code 96 = .ok (.new 42, 3) := by decide +kernel
theorem d_X5_init_99 : decode prog_1_method_1_code 99 = .ok (.dup, 1) := by decide +kernel
theorem d_X5_init_100 : decode prog_1_method_1_code 100 = .ok (.invokespecial 48, 3) := by decide +kernel
theorem d_X5_init_103 : decode prog_1_method_1_code 103 = .ok (.aastore, 1) := by decide +kernel
theorem d_X5_init_104 : decode prog_1_method_1_code 104 = .ok (.iinc 1 1, 3) := by decide +kernel
theorem d_X5_init_107 : decode prog_1_method_1_code 107 = .ok (.goto (-21), 3) := by decide +kernel
theorem d_X5_init_110 : decode prog_1_method_1_code 110 = .ok (.iconst 0, 1) := by decide +kernel
theorem d_X5_init_111 : decode prog_1_method_1_code 111 = .ok (.istore_n 1, 1) := by decide +kernel
theorem d_X5_init_112 : decode prog_1_method_1_code 112 = .ok (.iload_n 1, 1) := by decide +kernel
theorem d_X5_init_113 : decode prog_1_method_1_code 113 = .ok (.ldc 49, 2) := by decide +kernel
theorem d_X5_init_115 : decode prog_1_method_1_code 115 = .ok (.invokevirtual 51, 3) := by decide +kernel
theorem d_X5_init_118 : decode prog_1_method_1_code 118 = .ok (.if_icmp .ge 22, 3) := by decide +kernel
theorem d_X5_init_121 : decode prog_1_method_1_code 121 = .ok (.aload_n 0, 1) := by decide +kernel
theorem d_X5_init_122 : decode prog_1_method_1_code 122 = .ok (.getfield 19, 3) := by decide +kernel
theorem d_X5_init_125 : decode prog_1_method_1_code 125 = .ok (.ldc 49, 2) := by decide +kernel
theorem d_X5_init_127 : decode prog_1_method_1_code 127 = .ok (.iload_n 1, 1) := by decide +kernel
theorem d_X5_init_128 : decode prog_1_method_1_code 128 = .ok (.invokevirtual 57, 3) := by decide +kernel
theorem d_X5_init_131 : decode prog_1_method_1_code 131 = .ok (.invokevirtual 61, 3) := by decide +kernel
theorem d_X5_init_134 : decode prog_1_method_1_code 134 = .ok (.iinc 1 1, 3) := by decide +kernel
theorem d_X5_init_137 : decode prog_1_method_1_code 137 = .ok (.goto (-25), 3) := by decide +kernel
theorem d_X5_init_140 : decode prog_1_method_1_code 140 = .ok (.aload_n 0, 1) := by decide +kernel
theorem d_X5_init_141 : decode prog_1_method_1_code 141 = .ok (.getfield 19, 3) := by decide +kernel
theorem d_X5_init_144 : decode prog_1_method_1_code 144 = .ok (.invokevirtual 65, 3) := by decide +kernel
theorem d_X5_init_147 : decode prog_1_method_1_code 147 = .ok (.ifCond .eq 18, 3) := by decide +kernel
theorem d_X5_init_150 : decode prog_1_method_1_code 150 = .ok (.aload_n 0, 1) := by decide +kernel
theorem d_X5_init_151 : decode prog_1_method_1_code 151 = .ok (.getfield 10, 3) := by decide +kernel
theorem d_X5_init_154 : decode prog_1_method_1_code 154 = .ok (.aload_n 0, 1) := by decide +kernel
theorem d_X5_init_155 : decode prog_1_method_1_code 155 = .ok (.getfield 19, 3) := by decide +kernel
theorem d_X5_init_158 : decode prog_1_method_1_code 158 = .ok (.invokevirtual 69, 3) := by decide +kernel
theorem d_X5_init_161 : decode prog_1_method_1_code 161 = .ok (.invokevirtual 73, 3) := by decide +kernel
theorem d_X5_init_164 : decode prog_1_method_1_code 164 = .ok (.pop, 1) := by decide +kernel
theorem d_X5_init_165 : decode prog_1_method_1_code 165 = .ok (.aload_n 0, 1) := by decide +kernel
theorem d_X5_init_166 : decode prog_1_method_1_code 166 = .ok (.getfield 19, 3) := by decide +kernel
theorem d_X5_init_169 : decode prog_1_method_1_code 169 = .ok (.invokevirtual 76, 3) := by decide +kernel
theorem d_X5_init_172 : decode prog_1_method_1_code 172 = .ok (.return_, 1) := by decide +kernel
