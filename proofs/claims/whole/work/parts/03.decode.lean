/-! decode rows -/
theorem zd_H_init_0 : decode I_H_init.2.1 0 = .ok (.aload_n 0, 1) := by decide +kernel
theorem zd_H_init_1 : decode I_H_init.2.1 1 = .ok (.invokespecial 1, 3) := by decide +kernel
theorem zd_H_init_4 : decode I_H_init.2.1 4 = .ok (.aload_n 0, 1) := by decide +kernel
theorem zd_H_init_5 : decode I_H_init.2.1 5 = .ok (.bipush 6, 2) := by decide +kernel
theorem zd_H_init_7 : decode I_H_init.2.1 7 = .ok (.newarray .int, 2) := by decide +kernel
theorem zd_H_init_9 : decode I_H_init.2.1 9 = .ok (.putfield 9, 3) := by decide +kernel
theorem zd_H_init_12 : decode I_H_init.2.1 12 = .ok (.aload_n 0, 1) := by decide +kernel
theorem zd_H_init_13 : decode I_H_init.2.1 13 = .ok (.bipush 6, 2) := by decide +kernel
theorem zd_H_init_15 : decode I_H_init.2.1 15 = .ok (.newarray .int, 2) := by decide +kernel
theorem zd_H_init_17 : decode I_H_init.2.1 17 = .ok (.putfield 13, 3) := by decide +kernel
theorem zd_H_init_20 : decode I_H_init.2.1 20 = .ok (.aload_n 0, 1) := by decide +kernel
theorem zd_H_init_21 : decode I_H_init.2.1 21 = .ok (.new 16, 3) := by decide +kernel
theorem zd_H_init_24 : decode I_H_init.2.1 24 = .ok (.dup, 1) := by decide +kernel
theorem zd_H_init_25 : decode I_H_init.2.1 25 = .ok (.invokespecial 18, 3) := by decide +kernel
theorem zd_H_init_28 : decode I_H_init.2.1 28 = .ok (.putfield 19, 3) := by decide +kernel
theorem zd_H_init_31 : decode I_H_init.2.1 31 = .ok (.aload_n 0, 1) := by decide +kernel
theorem zd_H_init_32 : decode I_H_init.2.1 32 = .ok (.new 16, 3) := by decide +kernel
theorem zd_H_init_35 : decode I_H_init.2.1 35 = .ok (.dup, 1) := by decide +kernel
theorem zd_H_init_36 : decode I_H_init.2.1 36 = .ok (.invokespecial 18, 3) := by decide +kernel
theorem zd_H_init_39 : decode I_H_init.2.1 39 = .ok (.putfield 23, 3) := by decide +kernel
theorem zd_H_init_42 : decode I_H_init.2.1 42 = .ok (.aload_n 0, 1) := by decide +kernel
theorem zd_H_init_43 : decode I_H_init.2.1 43 = .ok (.new 16, 3) := by decide +kernel
theorem zd_H_init_46 : decode I_H_init.2.1 46 = .ok (.dup, 1) := by decide +kernel
theorem zd_H_init_47 : decode I_H_init.2.1 47 = .ok (.invokespecial 18, 3) := by decide +kernel
theorem zd_H_init_50 : decode I_H_init.2.1 50 = .ok (.putfield 26, 3) := by decide +kernel
theorem zd_H_init_53 : decode I_H_init.2.1 53 = .ok (.aload_n 0, 1) := by decide +kernel
theorem zd_H_init_54 : decode I_H_init.2.1 54 = .ok (.new 16, 3) := by decide +kernel
theorem zd_H_init_57 : decode I_H_init.2.1 57 = .ok (.dup, 1) := by decide +kernel
theorem zd_H_init_58 : decode I_H_init.2.1 58 = .ok (.invokespecial 18, 3) := by decide +kernel
theorem zd_H_init_61 : decode I_H_init.2.1 61 = .ok (.putfield 29, 3) := by decide +kernel
theorem zd_H_init_64 : decode I_H_init.2.1 64 = .ok (.aload_n 0, 1) := by decide +kernel
theorem zd_H_init_65 : decode I_H_init.2.1 65 = .ok (.new 32, 3) := by decide +kernel
theorem zd_H_init_68 : decode I_H_init.2.1 68 = .ok (.dup, 1) := by decide +kernel
theorem zd_H_init_69 : decode I_H_init.2.1 69 = .ok (.invokespecial 34, 3) := by decide +kernel
theorem zd_H_init_72 : decode I_H_init.2.1 72 = .ok (.putfield 35, 3) := by decide +kernel
theorem zd_H_init_75 : decode I_H_init.2.1 75 = .ok (.aload_n 0, 1) := by decide +kernel
theorem zd_H_init_76 : decode I_H_init.2.1 76 = .ok (.new 39, 3) := by decide +kernel
theorem zd_H_init_79 : decode I_H_init.2.1 79 = .ok (.dup, 1) := by decide +kernel
theorem zd_H_init_80 : decode I_H_init.2.1 80 = .ok (.invokespecial 41, 3) := by decide +kernel
theorem zd_H_init_83 : decode I_H_init.2.1 83 = .ok (.putfield 42, 3) := by decide +kernel
theorem zd_H_init_86 : decode I_H_init.2.1 86 = .ok (.aload_n 0, 1) := by decide +kernel
theorem zd_H_init_87 : decode I_H_init.2.1 87 = .ok (.new 46, 3) := by decide +kernel
theorem zd_H_init_90 : decode I_H_init.2.1 90 = .ok (.dup, 1) := by decide +kernel
theorem zd_H_init_91 : decode I_H_init.2.1 91 = .ok (.invokespecial 48, 3) := by decide +kernel
theorem zd_H_init_94 : decode I_H_init.2.1 94 = .ok (.putfield 49, 3) := by decide +kernel
theorem zd_H_init_97 : decode I_H_init.2.1 97 = .ok (.aload_n 0, 1) := by decide +kernel
theorem zd_H_init_98 : decode I_H_init.2.1 98 = .ok (.new 53, 3) := by decide +kernel
theorem zd_H_init_101 : decode I_H_init.2.1 101 = .ok (.dup, 1) := by decide +kernel
theorem zd_H_init_102 : decode I_H_init.2.1 102 = .ok (.invokespecial 55, 3) := by decide +kernel
theorem zd_H_init_105 : decode I_H_init.2.1 105 = .ok (.putfield 56, 3) := by decide +kernel
theorem zd_H_init_108 : decode I_H_init.2.1 108 = .ok (.aload_n 0, 1) := by decide +kernel
theorem zd_H_init_109 : decode I_H_init.2.1 109 = .ok (.new 60, 3) := by decide +kernel
theorem zd_H_init_112 : decode I_H_init.2.1 112 = .ok (.dup, 1) := by decide +kernel
theorem zd_H_init_113 : decode I_H_init.2.1 113 = .ok (.invokespecial 62, 3) := by decide +kernel
theorem zd_H_init_116 : decode I_H_init.2.1 116 = .ok (.putfield 63, 3) := by decide +kernel
theorem zd_H_init_119 : decode I_H_init.2.1 119 = .ok (.aload_n 0, 1) := by decide +kernel
theorem zd_H_init_120 : decode I_H_init.2.1 120 = .ok (.bipush 7, 2) := by decide +kernel
theorem zd_H_init_122 : decode I_H_init.2.1 122 = .ok (.newarray .int, 2) := by decide +kernel
theorem zd_H_init_124 : decode I_H_init.2.1 124 = .ok (.putfield 67, 3) := by decide +kernel
theorem zd_H_init_127 : decode I_H_init.2.1 127 = .ok (.aload_n 0, 1) := by decide +kernel
theorem zd_H_init_128 : decode I_H_init.2.1 128 = .ok (.iconst 0, 1) := by decide +kernel
theorem zd_H_init_129 : decode I_H_init.2.1 129 = .ok (.putfield 70, 3) := by decide +kernel
theorem zd_H_init_132 : decode I_H_init.2.1 132 = .ok (.aload_n 0, 1) := by decide +kernel
theorem zd_H_init_133 : decode I_H_init.2.1 133 = .ok (.iconst 4, 1) := by decide +kernel
theorem zd_H_init_134 : decode I_H_init.2.1 134 = .ok (.putfield 74, 3) := by decide +kernel
theorem zd_H_init_137 : decode I_H_init.2.1 137 = .ok (.aload_n 0, 1) := by decide +kernel
theorem zd_H_init_138 : decode I_H_init.2.1 138 = .ok (.bipush 9, 2) := by decide +kernel
theorem zd_H_init_140 : decode I_H_init.2.1 140 = .ok (.putfield 77, 3) := by decide +kernel
theorem zd_H_init_143 : decode I_H_init.2.1 143 = .ok (.iconst 0, 1) := by decide +kernel
theorem zd_H_init_144 : decode I_H_init.2.1 144 = .ok (.istore_n 1, 1) := by decide +kernel
theorem zd_H_init_145 : decode I_H_init.2.1 145 = .ok (.iload_n 1, 1) := by decide +kernel
theorem zd_H_init_146 : decode I_H_init.2.1 146 = .ok (.bipush 6, 2) := by decide +kernel
theorem zd_H_init_148 : decode I_H_init.2.1 148 = .ok (.if_icmp .ge 19, 3) := by decide +kernel
theorem zd_H_init_151 : decode I_H_init.2.1 151 = .ok (.aload_n 0, 1) := by decide +kernel
theorem zd_H_init_152 : decode I_H_init.2.1 152 = .ok (.getfield 9, 3) := by decide +kernel
theorem zd_H_init_155 : decode I_H_init.2.1 155 = .ok (.iload_n 1, 1) := by decide +kernel
theorem zd_H_init_156 : decode I_H_init.2.1 156 = .ok (.bipush 40, 2) := by decide +kernel
theorem zd_H_init_158 : decode I_H_init.2.1 158 = .ok (.iload_n 1, 1) := by decide +kernel
theorem zd_H_init_159 : decode I_H_init.2.1 159 = .ok (.imul, 1) := by decide +kernel
theorem zd_H_init_160 : decode I_H_init.2.1 160 = .ok (.iastore, 1) := by decide +kernel
theorem zd_H_init_161 : decode I_H_init.2.1 161 = .ok (.iinc 1 1, 3) := by decide +kernel
theorem zd_H_init_164 : decode I_H_init.2.1 164 = .ok (.goto (-19), 3) := by decide +kernel
theorem zd_H_init_167 : decode I_H_init.2.1 167 = .ok (.return_, 1) := by decide +kernel
theorem zd_AL_init_0 : decode I_AL_init.2.1 0 = .ok (.aload_n 0, 1) := by decide +kernel
theorem zd_AL_init_1 : decode I_AL_init.2.1 1 = .ok (.invokespecial 1, 3) := by decide +kernel
theorem zd_AL_init_4 : decode I_AL_init.2.1 4 = .ok (.aload_n 0, 1) := by decide +kernel
theorem zd_AL_init_5 : decode I_AL_init.2.1 5 = .ok (.getstatic 39, 3) := by decide +kernel
theorem zd_AL_init_8 : decode I_AL_init.2.1 8 = .ok (.putfield 9, 3) := by decide +kernel
theorem zd_AL_init_11 : decode I_AL_init.2.1 11 = .ok (.return_, 1) := by decide +kernel
theorem zd_AB_init_0 : decode I_AB_init.2.1 0 = .ok (.aload_n 0, 1) := by decide +kernel
theorem zd_AB_init_1 : decode I_AB_init.2.1 1 = .ok (.invokespecial 1, 3) := by decide +kernel
theorem zd_AB_init_4 : decode I_AB_init.2.1 4 = .ok (.aload_n 0, 1) := by decide +kernel
theorem zd_AB_init_5 : decode I_AB_init.2.1 5 = .ok (.iconst 0, 1) := by decide +kernel
theorem zd_AB_init_6 : decode I_AB_init.2.1 6 = .ok (.putfield 7, 3) := by decide +kernel
theorem zd_AB_init_9 : decode I_AB_init.2.1 9 = .ok (.return_, 1) := by decide +kernel
theorem zd_AC_init_0 : decode I_AC_init.2.1 0 = .ok (.aload_n 0, 1) := by decide +kernel
theorem zd_AC_init_1 : decode I_AC_init.2.1 1 = .ok (.invokespecial 1, 3) := by decide +kernel
theorem zd_AC_init_4 : decode I_AC_init.2.1 4 = .ok (.return_, 1) := by decide +kernel
theorem zd_T_init_0 : decode I_T_init.2.1 0 = .ok (.aload_n 0, 1) := by decide +kernel
theorem zd_T_init_1 : decode I_T_init.2.1 1 = .ok (.invokespecial 1, 3) := by decide +kernel
theorem zd_T_init_4 : decode I_T_init.2.1 4 = .ok (.aload_n 0, 1) := by decide +kernel
theorem zd_T_init_5 : decode I_T_init.2.1 5 = .ok (.bipush 25, 2) := by decide +kernel
theorem zd_T_init_7 : decode I_T_init.2.1 7 = .ok (.newarray .int, 2) := by decide +kernel
theorem zd_T_init_9 : decode I_T_init.2.1 9 = .ok (.putfield 9, 3) := by decide +kernel
theorem zd_T_init_12 : decode I_T_init.2.1 12 = .ok (.aload_n 0, 1) := by decide +kernel
theorem zd_T_init_13 : decode I_T_init.2.1 13 = .ok (.iconst 0, 1) := by decide +kernel
theorem zd_T_init_14 : decode I_T_init.2.1 14 = .ok (.putfield 13, 3) := by decide +kernel
theorem zd_T_init_17 : decode I_T_init.2.1 17 = .ok (.aload_n 0, 1) := by decide +kernel
theorem zd_T_init_18 : decode I_T_init.2.1 18 = .ok (.getfield 9, 3) := by decide +kernel
theorem zd_T_init_21 : decode I_T_init.2.1 21 = .ok (.iconst (-1), 1) := by decide +kernel
theorem zd_T_init_22 : decode I_T_init.2.1 22 = .ok (.invokestatic 17, 3) := by decide +kernel
theorem zd_T_init_25 : decode I_T_init.2.1 25 = .ok (.return_, 1) := by decide +kernel
theorem zd_AR_fill_0 : decode I_AR_fill.2.1 0 = .ok (.iconst 0, 1) := by decide +kernel
theorem zd_AR_fill_1 : decode I_AR_fill.2.1 1 = .ok (.istore_n 2, 1) := by decide +kernel
theorem zd_AR_fill_2 : decode I_AR_fill.2.1 2 = .ok (.aload_n 0, 1) := by decide +kernel
theorem zd_AR_fill_3 : decode I_AR_fill.2.1 3 = .ok (.arraylength, 1) := by decide +kernel
theorem zd_AR_fill_4 : decode I_AR_fill.2.1 4 = .ok (.istore_n 3, 1) := by decide +kernel
theorem zd_AR_fill_5 : decode I_AR_fill.2.1 5 = .ok (.iload_n 2, 1) := by decide +kernel
theorem zd_AR_fill_6 : decode I_AR_fill.2.1 6 = .ok (.iload_n 3, 1) := by decide +kernel
theorem zd_AR_fill_7 : decode I_AR_fill.2.1 7 = .ok (.if_icmp .ge 13, 3) := by decide +kernel
theorem zd_AR_fill_10 : decode I_AR_fill.2.1 10 = .ok (.aload_n 0, 1) := by decide +kernel
theorem zd_AR_fill_11 : decode I_AR_fill.2.1 11 = .ok (.iload_n 2, 1) := by decide +kernel
theorem zd_AR_fill_12 : decode I_AR_fill.2.1 12 = .ok (.iload_n 1, 1) := by decide +kernel
theorem zd_AR_fill_13 : decode I_AR_fill.2.1 13 = .ok (.iastore, 1) := by decide +kernel
theorem zd_AR_fill_14 : decode I_AR_fill.2.1 14 = .ok (.iinc 2 1, 3) := by decide +kernel
theorem zd_AR_fill_17 : decode I_AR_fill.2.1 17 = .ok (.goto (-12), 3) := by decide +kernel
theorem zd_AR_fill_20 : decode I_AR_fill.2.1 20 = .ok (.return_, 1) := by decide +kernel
theorem zd_R_init_0 : decode I_R_init.2.1 0 = .ok (.aload_n 0, 1) := by decide +kernel
theorem zd_R_init_1 : decode I_R_init.2.1 1 = .ok (.invokespecial 3, 3) := by decide +kernel
theorem zd_R_init_4 : decode I_R_init.2.1 4 = .ok (.aload_n 0, 1) := by decide +kernel
theorem zd_R_init_5 : decode I_R_init.2.1 5 = .ok (.sipush 1323, 3) := by decide +kernel
theorem zd_R_init_8 : decode I_R_init.2.1 8 = .ok (.newarray .int, 2) := by decide +kernel
theorem zd_R_init_10 : decode I_R_init.2.1 10 = .ok (.putfield 11, 3) := by decide +kernel
theorem zd_R_init_13 : decode I_R_init.2.1 13 = .ok (.aload_n 0, 1) := by decide +kernel
theorem zd_R_init_14 : decode I_R_init.2.1 14 = .ok (.iconst 0, 1) := by decide +kernel
theorem zd_R_init_15 : decode I_R_init.2.1 15 = .ok (.putfield 15, 3) := by decide +kernel
theorem zd_R_init_18 : decode I_R_init.2.1 18 = .ok (.return_, 1) := by decide +kernel
theorem zd_P_init_0 : decode I_P_init.2.1 0 = .ok (.aload_n 0, 1) := by decide +kernel
theorem zd_P_init_1 : decode I_P_init.2.1 1 = .ok (.invokespecial 3, 3) := by decide +kernel
theorem zd_P_init_4 : decode I_P_init.2.1 4 = .ok (.aload_n 0, 1) := by decide +kernel
theorem zd_P_init_5 : decode I_P_init.2.1 5 = .ok (.bipush (-9), 2) := by decide +kernel
theorem zd_P_init_7 : decode I_P_init.2.1 7 = .ok (.putfield 9, 3) := by decide +kernel
theorem zd_P_init_10 : decode I_P_init.2.1 10 = .ok (.aload_n 0, 1) := by decide +kernel
theorem zd_P_init_11 : decode I_P_init.2.1 11 = .ok (.bipush (-9), 2) := by decide +kernel
theorem zd_P_init_13 : decode I_P_init.2.1 13 = .ok (.putfield 15, 3) := by decide +kernel
theorem zd_P_init_16 : decode I_P_init.2.1 16 = .ok (.aload_n 0, 1) := by decide +kernel
theorem zd_P_init_17 : decode I_P_init.2.1 17 = .ok (.bipush (-9), 2) := by decide +kernel
theorem zd_P_init_19 : decode I_P_init.2.1 19 = .ok (.putfield 18, 3) := by decide +kernel
theorem zd_P_init_22 : decode I_P_init.2.1 22 = .ok (.aload_n 0, 1) := by decide +kernel
theorem zd_P_init_23 : decode I_P_init.2.1 23 = .ok (.iconst 0, 1) := by decide +kernel
theorem zd_P_init_24 : decode I_P_init.2.1 24 = .ok (.putfield 21, 3) := by decide +kernel
theorem zd_P_init_27 : decode I_P_init.2.1 27 = .ok (.return_, 1) := by decide +kernel
theorem zd_F_init_0 : decode I_F_init.2.1 0 = .ok (.aload_n 0, 1) := by decide +kernel
theorem zd_F_init_1 : decode I_F_init.2.1 1 = .ok (.invokespecial 3, 3) := by decide +kernel
theorem zd_F_init_4 : decode I_F_init.2.1 4 = .ok (.aload_n 0, 1) := by decide +kernel
theorem zd_F_init_5 : decode I_F_init.2.1 5 = .ok (.bipush 6, 2) := by decide +kernel
theorem zd_F_init_7 : decode I_F_init.2.1 7 = .ok (.newarray .int, 2) := by decide +kernel
theorem zd_F_init_9 : decode I_F_init.2.1 9 = .ok (.putfield 9, 3) := by decide +kernel
theorem zd_F_init_12 : decode I_F_init.2.1 12 = .ok (.aload_n 0, 1) := by decide +kernel
theorem zd_F_init_13 : decode I_F_init.2.1 13 = .ok (.iconst 0, 1) := by decide +kernel
theorem zd_F_init_14 : decode I_F_init.2.1 14 = .ok (.putfield 15, 3) := by decide +kernel
theorem zd_F_init_17 : decode I_F_init.2.1 17 = .ok (.aload_n 0, 1) := by decide +kernel
theorem zd_F_init_18 : decode I_F_init.2.1 18 = .ok (.iconst 0, 1) := by decide +kernel
theorem zd_F_init_19 : decode I_F_init.2.1 19 = .ok (.putfield 19, 3) := by decide +kernel
theorem zd_F_init_22 : decode I_F_init.2.1 22 = .ok (.aload_n 0, 1) := by decide +kernel
theorem zd_F_init_23 : decode I_F_init.2.1 23 = .ok (.bipush 6, 2) := by decide +kernel
theorem zd_F_init_25 : decode I_F_init.2.1 25 = .ok (.newarray .int, 2) := by decide +kernel
theorem zd_F_init_27 : decode I_F_init.2.1 27 = .ok (.putfield 22, 3) := by decide +kernel
theorem zd_F_init_30 : decode I_F_init.2.1 30 = .ok (.aload_n 0, 1) := by decide +kernel
theorem zd_F_init_31 : decode I_F_init.2.1 31 = .ok (.bipush 6, 2) := by decide +kernel
theorem zd_F_init_33 : decode I_F_init.2.1 33 = .ok (.newarray .int, 2) := by decide +kernel
theorem zd_F_init_35 : decode I_F_init.2.1 35 = .ok (.putfield 25, 3) := by decide +kernel
theorem zd_F_init_38 : decode I_F_init.2.1 38 = .ok (.aload_n 0, 1) := by decide +kernel
theorem zd_F_init_39 : decode I_F_init.2.1 39 = .ok (.bipush 6, 2) := by decide +kernel
theorem zd_F_init_41 : decode I_F_init.2.1 41 = .ok (.newarray .boolean, 2) := by decide +kernel
theorem zd_F_init_43 : decode I_F_init.2.1 43 = .ok (.putfield 28, 3) := by decide +kernel
theorem zd_F_init_46 : decode I_F_init.2.1 46 = .ok (.aload_n 0, 1) := by decide +kernel
theorem zd_F_init_47 : decode I_F_init.2.1 47 = .ok (.bipush 6, 2) := by decide +kernel
theorem zd_F_init_49 : decode I_F_init.2.1 49 = .ok (.newarray .int, 2) := by decide +kernel
theorem zd_F_init_51 : decode I_F_init.2.1 51 = .ok (.putfield 32, 3) := by decide +kernel
theorem zd_F_init_54 : decode I_F_init.2.1 54 = .ok (.return_, 1) := by decide +kernel
theorem zd_S_init_0 : decode I_S_init.2.1 0 = .ok (.aload_n 0, 1) := by decide +kernel
theorem zd_S_init_1 : decode I_S_init.2.1 1 = .ok (.invokespecial 3, 3) := by decide +kernel
theorem zd_S_init_4 : decode I_S_init.2.1 4 = .ok (.aload_n 0, 1) := by decide +kernel
theorem zd_S_init_5 : decode I_S_init.2.1 5 = .ok (.bipush 12, 2) := by decide +kernel
theorem zd_S_init_7 : decode I_S_init.2.1 7 = .ok (.newarray .int, 2) := by decide +kernel
theorem zd_S_init_9 : decode I_S_init.2.1 9 = .ok (.putfield 9, 3) := by decide +kernel
theorem zd_S_init_12 : decode I_S_init.2.1 12 = .ok (.aload_n 0, 1) := by decide +kernel
theorem zd_S_init_13 : decode I_S_init.2.1 13 = .ok (.bipush 20, 2) := by decide +kernel
theorem zd_S_init_15 : decode I_S_init.2.1 15 = .ok (.newarray .int, 2) := by decide +kernel
theorem zd_S_init_17 : decode I_S_init.2.1 17 = .ok (.putfield 15, 3) := by decide +kernel
theorem zd_S_init_20 : decode I_S_init.2.1 20 = .ok (.aload_n 0, 1) := by decide +kernel
theorem zd_S_init_21 : decode I_S_init.2.1 21 = .ok (.iconst 0, 1) := by decide +kernel
theorem zd_S_init_22 : decode I_S_init.2.1 22 = .ok (.putfield 18, 3) := by decide +kernel
theorem zd_S_init_25 : decode I_S_init.2.1 25 = .ok (.aload_n 0, 1) := by decide +kernel
theorem zd_S_init_26 : decode I_S_init.2.1 26 = .ok (.bipush 12, 2) := by decide +kernel
theorem zd_S_init_28 : decode I_S_init.2.1 28 = .ok (.newarray .int, 2) := by decide +kernel
theorem zd_S_init_30 : decode I_S_init.2.1 30 = .ok (.putfield 22, 3) := by decide +kernel
theorem zd_S_init_33 : decode I_S_init.2.1 33 = .ok (.return_, 1) := by decide +kernel
theorem zd_H_station_0 : decode I_H_station.2.1 0 = .ok (.iload_n 1, 1) := by decide +kernel
theorem zd_H_station_1 : decode I_H_station.2.1 1 = .ok (.invokestatic 80, 3) := by decide +kernel
theorem zd_H_station_4 : decode I_H_station.2.1 4 = .ok (.ifCond .ne 9, 3) := by decide +kernel
theorem zd_H_station_7 : decode I_H_station.2.1 7 = .ok (.aload_n 0, 1) := by decide +kernel
theorem zd_H_station_8 : decode I_H_station.2.1 8 = .ok (.iconst (-1), 1) := by decide +kernel
theorem zd_H_station_9 : decode I_H_station.2.1 9 = .ok (.invokevirtual 84, 3) := by decide +kernel
theorem zd_H_station_12 : decode I_H_station.2.1 12 = .ok (.ireturn, 1) := by decide +kernel
theorem zd_H_station_13 : decode I_H_station.2.1 13 = .ok (.iload_n 2, 1) := by decide +kernel
theorem zd_H_station_14 : decode I_H_station.2.1 14 = .ok (.ifCond .eq 15, 3) := by decide +kernel
theorem zd_H_station_17 : decode I_H_station.2.1 17 = .ok (.iload_n 2, 1) := by decide +kernel
theorem zd_H_station_18 : decode I_H_station.2.1 18 = .ok (.iconst 1, 1) := by decide +kernel
theorem zd_H_station_19 : decode I_H_station.2.1 19 = .ok (.if_icmp .eq 10, 3) := by decide +kernel
theorem zd_H_station_22 : decode I_H_station.2.1 22 = .ok (.aload_n 0, 1) := by decide +kernel
theorem zd_H_station_23 : decode I_H_station.2.1 23 = .ok (.bipush (-2), 2) := by decide +kernel
theorem zd_H_station_25 : decode I_H_station.2.1 25 = .ok (.invokevirtual 84, 3) := by decide +kernel
theorem zd_H_station_28 : decode I_H_station.2.1 28 = .ok (.ireturn, 1) := by decide +kernel
theorem zd_H_station_29 : decode I_H_station.2.1 29 = .ok (.iload_n 3, 1) := by decide +kernel
theorem zd_H_station_30 : decode I_H_station.2.1 30 = .ok (.iconst 0, 1) := by decide +kernel
theorem zd_H_station_31 : decode I_H_station.2.1 31 = .ok (.iload_n 2, 1) := by decide +kernel
theorem zd_H_station_32 : decode I_H_station.2.1 32 = .ok (.ifCond .ne 9, 3) := by decide +kernel
theorem zd_H_station_35 : decode I_H_station.2.1 35 = .ok (.sipush 300, 3) := by decide +kernel
theorem zd_H_station_38 : decode I_H_station.2.1 38 = .ok (.goto 5, 3) := by decide +kernel
theorem zd_H_station_41 : decode I_H_station.2.1 41 = .ok (.bipush 12, 2) := by decide +kernel
theorem zd_H_station_43 : decode I_H_station.2.1 43 = .ok (.invokestatic 88, 3) := by decide +kernel
theorem zd_H_station_46 : decode I_H_station.2.1 46 = .ok (.istore 4, 2) := by decide +kernel
theorem zd_H_station_48 : decode I_H_station.2.1 48 = .ok (.iload 4, 2) := by decide +kernel
theorem zd_H_station_50 : decode I_H_station.2.1 50 = .ok (.ifCond .eq 10, 3) := by decide +kernel
theorem zd_H_station_53 : decode I_H_station.2.1 53 = .ok (.aload_n 0, 1) := by decide +kernel
theorem zd_H_station_54 : decode I_H_station.2.1 54 = .ok (.iload 4, 2) := by decide +kernel
theorem zd_H_station_56 : decode I_H_station.2.1 56 = .ok (.invokevirtual 84, 3) := by decide +kernel
theorem zd_H_station_59 : decode I_H_station.2.1 59 = .ok (.ireturn, 1) := by decide +kernel
theorem zd_H_station_60 : decode I_H_station.2.1 60 = .ok (.iload_n 2, 1) := by decide +kernel
theorem zd_H_station_61 : decode I_H_station.2.1 61 = .ok (.ifCond .ne 10, 3) := by decide +kernel
theorem zd_H_station_64 : decode I_H_station.2.1 64 = .ok (.aload_n 0, 1) := by decide +kernel
theorem zd_H_station_65 : decode I_H_station.2.1 65 = .ok (.getfield 9, 3) := by decide +kernel
theorem zd_H_station_68 : decode I_H_station.2.1 68 = .ok (.goto 7, 3) := by decide +kernel
theorem zd_H_station_71 : decode I_H_station.2.1 71 = .ok (.aload_n 0, 1) := by decide +kernel
theorem zd_H_station_72 : decode I_H_station.2.1 72 = .ok (.getfield 13, 3) := by decide +kernel
theorem zd_H_station_75 : decode I_H_station.2.1 75 = .ok (.astore 5, 2) := by decide +kernel
theorem zd_H_station_77 : decode I_H_station.2.1 77 = .ok (.aload 5, 2) := by decide +kernel
theorem zd_H_station_79 : decode I_H_station.2.1 79 = .ok (.iload_n 1, 1) := by decide +kernel
theorem zd_H_station_80 : decode I_H_station.2.1 80 = .ok (.iaload, 1) := by decide +kernel
theorem zd_H_station_81 : decode I_H_station.2.1 81 = .ok (.istore 6, 2) := by decide +kernel
theorem zd_H_station_83 : decode I_H_station.2.1 83 = .ok (.aload 5, 2) := by decide +kernel
theorem zd_H_station_85 : decode I_H_station.2.1 85 = .ok (.iload_n 1, 1) := by decide +kernel
theorem zd_H_station_86 : decode I_H_station.2.1 86 = .ok (.iload_n 3, 1) := by decide +kernel
theorem zd_H_station_87 : decode I_H_station.2.1 87 = .ok (.iastore, 1) := by decide +kernel
theorem zd_H_station_88 : decode I_H_station.2.1 88 = .ok (.iload 6, 2) := by decide +kernel
theorem zd_H_station_90 : decode I_H_station.2.1 90 = .ok (.ireturn, 1) := by decide +kernel
theorem zd_H_isStation_0 : decode I_H_isStation.2.1 0 = .ok (.iload_n 0, 1) := by decide +kernel
theorem zd_H_isStation_1 : decode I_H_isStation.2.1 1 = .ok (.ifCond .lt 13, 3) := by decide +kernel
theorem zd_H_isStation_4 : decode I_H_isStation.2.1 4 = .ok (.iload_n 0, 1) := by decide +kernel
theorem zd_H_isStation_5 : decode I_H_isStation.2.1 5 = .ok (.bipush 6, 2) := by decide +kernel
theorem zd_H_isStation_7 : decode I_H_isStation.2.1 7 = .ok (.if_icmp .ge 7, 3) := by decide +kernel
theorem zd_H_isStation_10 : decode I_H_isStation.2.1 10 = .ok (.iconst 1, 1) := by decide +kernel
theorem zd_H_isStation_11 : decode I_H_isStation.2.1 11 = .ok (.goto 4, 3) := by decide +kernel
theorem zd_H_isStation_14 : decode I_H_isStation.2.1 14 = .ok (.iconst 0, 1) := by decide +kernel
theorem zd_H_isStation_15 : decode I_H_isStation.2.1 15 = .ok (.ireturn, 1) := by decide +kernel
theorem zd_H_refuse_0 : decode I_H_refuse.2.1 0 = .ok (.iload_n 1, 1) := by decide +kernel
theorem zd_H_refuse_1 : decode I_H_refuse.2.1 1 = .ok (.ifCond .ge 20, 3) := by decide +kernel
theorem zd_H_refuse_4 : decode I_H_refuse.2.1 4 = .ok (.iload_n 1, 1) := by decide +kernel
theorem zd_H_refuse_5 : decode I_H_refuse.2.1 5 = .ok (.bipush (-6), 2) := by decide +kernel
theorem zd_H_refuse_7 : decode I_H_refuse.2.1 7 = .ok (.if_icmp .lt 14, 3) := by decide +kernel
theorem zd_H_refuse_10 : decode I_H_refuse.2.1 10 = .ok (.aload_n 0, 1) := by decide +kernel
theorem zd_H_refuse_11 : decode I_H_refuse.2.1 11 = .ok (.getfield 67, 3) := by decide +kernel
theorem zd_H_refuse_14 : decode I_H_refuse.2.1 14 = .ok (.iload_n 1, 1) := by decide +kernel
theorem zd_H_refuse_15 : decode I_H_refuse.2.1 15 = .ok (.ineg, 1) := by decide +kernel
theorem zd_H_refuse_16 : decode I_H_refuse.2.1 16 = .ok (.dup2, 1) := by decide +kernel
theorem zd_H_refuse_17 : decode I_H_refuse.2.1 17 = .ok (.iaload, 1) := by decide +kernel
theorem zd_H_refuse_18 : decode I_H_refuse.2.1 18 = .ok (.iconst 1, 1) := by decide +kernel
theorem zd_H_refuse_19 : decode I_H_refuse.2.1 19 = .ok (.iadd, 1) := by decide +kernel
theorem zd_H_refuse_20 : decode I_H_refuse.2.1 20 = .ok (.iastore, 1) := by decide +kernel
theorem zd_H_refuse_21 : decode I_H_refuse.2.1 21 = .ok (.iload_n 1, 1) := by decide +kernel
theorem zd_H_refuse_22 : decode I_H_refuse.2.1 22 = .ok (.ireturn, 1) := by decide +kernel
theorem zd_H_outside_0 : decode I_H_outside.2.1 0 = .ok (.iload_n 0, 1) := by decide +kernel
theorem zd_H_outside_1 : decode I_H_outside.2.1 1 = .ok (.iload_n 1, 1) := by decide +kernel
theorem zd_H_outside_2 : decode I_H_outside.2.1 2 = .ok (.if_icmp .ge 6, 3) := by decide +kernel
theorem zd_H_outside_5 : decode I_H_outside.2.1 5 = .ok (.bipush (-4), 2) := by decide +kernel
theorem zd_H_outside_7 : decode I_H_outside.2.1 7 = .ok (.ireturn, 1) := by decide +kernel
theorem zd_H_outside_8 : decode I_H_outside.2.1 8 = .ok (.iload_n 0, 1) := by decide +kernel
theorem zd_H_outside_9 : decode I_H_outside.2.1 9 = .ok (.iload_n 2, 1) := by decide +kernel
theorem zd_H_outside_10 : decode I_H_outside.2.1 10 = .ok (.if_icmp .le 8, 3) := by decide +kernel
theorem zd_H_outside_13 : decode I_H_outside.2.1 13 = .ok (.bipush (-6), 2) := by decide +kernel
theorem zd_H_outside_15 : decode I_H_outside.2.1 15 = .ok (.goto 4, 3) := by decide +kernel
theorem zd_H_outside_18 : decode I_H_outside.2.1 18 = .ok (.iconst 0, 1) := by decide +kernel
theorem zd_H_outside_19 : decode I_H_outside.2.1 19 = .ok (.ireturn, 1) := by decide +kernel
theorem zd_H_person_0 : decode I_H_person.2.1 0 = .ok (.iload_n 1, 1) := by decide +kernel
theorem zd_H_person_1 : decode I_H_person.2.1 1 = .ok (.invokestatic 80, 3) := by decide +kernel
theorem zd_H_person_4 : decode I_H_person.2.1 4 = .ok (.ifCond .ne 9, 3) := by decide +kernel
theorem zd_H_person_7 : decode I_H_person.2.1 7 = .ok (.aload_n 0, 1) := by decide +kernel
theorem zd_H_person_8 : decode I_H_person.2.1 8 = .ok (.iconst (-1), 1) := by decide +kernel
theorem zd_H_person_9 : decode I_H_person.2.1 9 = .ok (.invokevirtual 84, 3) := by decide +kernel
theorem zd_H_person_12 : decode I_H_person.2.1 12 = .ok (.ireturn, 1) := by decide +kernel
theorem zd_H_person_13 : decode I_H_person.2.1 13 = .ok (.iload_n 2, 1) := by decide +kernel
theorem zd_H_person_14 : decode I_H_person.2.1 14 = .ok (.ifCond .lt 7, 3) := by decide +kernel
theorem zd_H_person_17 : decode I_H_person.2.1 17 = .ok (.iload_n 3, 1) := by decide +kernel
theorem zd_H_person_18 : decode I_H_person.2.1 18 = .ok (.ifCond .ge 10, 3) := by decide +kernel
theorem zd_H_person_21 : decode I_H_person.2.1 21 = .ok (.aload_n 0, 1) := by decide +kernel
theorem zd_H_person_22 : decode I_H_person.2.1 22 = .ok (.bipush (-4), 2) := by decide +kernel
theorem zd_H_person_24 : decode I_H_person.2.1 24 = .ok (.invokevirtual 84, 3) := by decide +kernel
theorem zd_H_person_27 : decode I_H_person.2.1 27 = .ok (.ireturn, 1) := by decide +kernel
theorem zd_H_person_28 : decode I_H_person.2.1 28 = .ok (.iload_n 2, 1) := by decide +kernel
theorem zd_H_person_29 : decode I_H_person.2.1 29 = .ok (.bipush 15, 2) := by decide +kernel
theorem zd_H_person_31 : decode I_H_person.2.1 31 = .ok (.if_icmp .gt 22, 3) := by decide +kernel
theorem zd_H_person_34 : decode I_H_person.2.1 34 = .ok (.iload_n 3, 1) := by decide +kernel
theorem zd_H_person_35 : decode I_H_person.2.1 35 = .ok (.sipush 200, 3) := by decide +kernel
theorem zd_H_person_38 : decode I_H_person.2.1 38 = .ok (.if_icmp .gt 15, 3) := by decide +kernel
theorem zd_H_person_41 : decode I_H_person.2.1 41 = .ok (.aload_n 0, 1) := by decide +kernel
theorem zd_H_person_42 : decode I_H_person.2.1 42 = .ok (.getfield 19, 3) := by decide +kernel
theorem zd_H_person_45 : decode I_H_person.2.1 45 = .ok (.invokevirtual 92, 3) := by decide +kernel
theorem zd_H_person_48 : decode I_H_person.2.1 48 = .ok (.bipush 40, 2) := by decide +kernel
theorem zd_H_person_50 : decode I_H_person.2.1 50 = .ok (.if_icmp .lt 10, 3) := by decide +kernel
theorem zd_H_person_53 : decode I_H_person.2.1 53 = .ok (.aload_n 0, 1) := by decide +kernel
theorem zd_H_person_54 : decode I_H_person.2.1 54 = .ok (.bipush (-6), 2) := by decide +kernel
theorem zd_H_person_56 : decode I_H_person.2.1 56 = .ok (.invokevirtual 84, 3) := by decide +kernel
theorem zd_H_person_59 : decode I_H_person.2.1 59 = .ok (.ireturn, 1) := by decide +kernel
theorem zd_H_person_60 : decode I_H_person.2.1 60 = .ok (.aload_n 0, 1) := by decide +kernel
theorem zd_H_person_61 : decode I_H_person.2.1 61 = .ok (.getfield 19, 3) := by decide +kernel
theorem zd_H_person_64 : decode I_H_person.2.1 64 = .ok (.new 95, 3) := by decide +kernel
theorem zd_H_person_67 : decode I_H_person.2.1 67 = .ok (.dup, 1) := by decide +kernel
theorem zd_H_person_68 : decode I_H_person.2.1 68 = .ok (.iload_n 1, 1) := by decide +kernel
theorem zd_H_person_69 : decode I_H_person.2.1 69 = .ok (.iload_n 2, 1) := by decide +kernel
theorem zd_H_person_70 : decode I_H_person.2.1 70 = .ok (.iload_n 3, 1) := by decide +kernel
theorem zd_H_person_71 : decode I_H_person.2.1 71 = .ok (.invokespecial 97, 3) := by decide +kernel
theorem zd_H_person_74 : decode I_H_person.2.1 74 = .ok (.invokevirtual 100, 3) := by decide +kernel
theorem zd_H_person_77 : decode I_H_person.2.1 77 = .ok (.pop, 1) := by decide +kernel
theorem zd_H_person_78 : decode I_H_person.2.1 78 = .ok (.aload_n 0, 1) := by decide +kernel
theorem zd_H_person_79 : decode I_H_person.2.1 79 = .ok (.getfield 19, 3) := by decide +kernel
theorem zd_H_person_82 : decode I_H_person.2.1 82 = .ok (.invokevirtual 92, 3) := by decide +kernel
theorem zd_H_person_85 : decode I_H_person.2.1 85 = .ok (.iconst 1, 1) := by decide +kernel
theorem zd_H_person_86 : decode I_H_person.2.1 86 = .ok (.isub, 1) := by decide +kernel
theorem zd_H_person_87 : decode I_H_person.2.1 87 = .ok (.ireturn, 1) := by decide +kernel
theorem zd_AL_size_0 : decode I_AL_size.2.1 0 = .ok (.aload_n 0, 1) := by decide +kernel
theorem zd_AL_size_1 : decode I_AL_size.2.1 1 = .ok (.getfield 48, 3) := by decide +kernel
theorem zd_AL_size_4 : decode I_AL_size.2.1 4 = .ok (.ireturn, 1) := by decide +kernel
theorem zd_Q_init_0 : decode I_Q_init.2.1 0 = .ok (.aload_n 0, 1) := by decide +kernel
theorem zd_Q_init_1 : decode I_Q_init.2.1 1 = .ok (.invokespecial 3, 3) := by decide +kernel
theorem zd_Q_init_4 : decode I_Q_init.2.1 4 = .ok (.aload_n 0, 1) := by decide +kernel
theorem zd_Q_init_5 : decode I_Q_init.2.1 5 = .ok (.bipush 8, 2) := by decide +kernel
theorem zd_Q_init_7 : decode I_Q_init.2.1 7 = .ok (.newarray .int, 2) := by decide +kernel
theorem zd_Q_init_9 : decode I_Q_init.2.1 9 = .ok (.putfield 9, 3) := by decide +kernel
theorem zd_Q_init_12 : decode I_Q_init.2.1 12 = .ok (.aload_n 0, 1) := by decide +kernel
theorem zd_Q_init_13 : decode I_Q_init.2.1 13 = .ok (.bipush 8, 2) := by decide +kernel
theorem zd_Q_init_15 : decode I_Q_init.2.1 15 = .ok (.newarray .int, 2) := by decide +kernel
theorem zd_Q_init_17 : decode I_Q_init.2.1 17 = .ok (.putfield 15, 3) := by decide +kernel
theorem zd_Q_init_20 : decode I_Q_init.2.1 20 = .ok (.aload_n 0, 1) := by decide +kernel
theorem zd_Q_init_21 : decode I_Q_init.2.1 21 = .ok (.iconst 0, 1) := by decide +kernel
theorem zd_Q_init_22 : decode I_Q_init.2.1 22 = .ok (.putfield 18, 3) := by decide +kernel
theorem zd_Q_init_25 : decode I_Q_init.2.1 25 = .ok (.aload_n 0, 1) := by decide +kernel
theorem zd_Q_init_26 : decode I_Q_init.2.1 26 = .ok (.iload_n 1, 1) := by decide +kernel
theorem zd_Q_init_27 : decode I_Q_init.2.1 27 = .ok (.putfield 22, 3) := by decide +kernel
theorem zd_Q_init_30 : decode I_Q_init.2.1 30 = .ok (.aload_n 0, 1) := by decide +kernel
theorem zd_Q_init_31 : decode I_Q_init.2.1 31 = .ok (.iload_n 2, 1) := by decide +kernel
theorem zd_Q_init_32 : decode I_Q_init.2.1 32 = .ok (.putfield 25, 3) := by decide +kernel
theorem zd_Q_init_35 : decode I_Q_init.2.1 35 = .ok (.aload_n 0, 1) := by decide +kernel
theorem zd_Q_init_36 : decode I_Q_init.2.1 36 = .ok (.iload_n 3, 1) := by decide +kernel
theorem zd_Q_init_37 : decode I_Q_init.2.1 37 = .ok (.putfield 28, 3) := by decide +kernel
theorem zd_Q_init_40 : decode I_Q_init.2.1 40 = .ok (.return_, 1) := by decide +kernel
theorem zd_AL_add1_0 : decode I_AL_add1.2.1 0 = .ok (.aload_n 0, 1) := by decide +kernel
theorem zd_AL_add1_1 : decode I_AL_add1.2.1 1 = .ok (.dup, 1) := by decide +kernel
theorem zd_AL_add1_2 : decode I_AL_add1.2.1 2 = .ok (.getfield 63, 3) := by decide +kernel
theorem zd_AL_add1_5 : decode I_AL_add1.2.1 5 = .ok (.iconst 1, 1) := by decide +kernel
theorem zd_AL_add1_6 : decode I_AL_add1.2.1 6 = .ok (.iadd, 1) := by decide +kernel
theorem zd_AL_add1_7 : decode I_AL_add1.2.1 7 = .ok (.putfield 63, 3) := by decide +kernel
theorem zd_AL_add1_10 : decode I_AL_add1.2.1 10 = .ok (.aload_n 0, 1) := by decide +kernel
theorem zd_AL_add1_11 : decode I_AL_add1.2.1 11 = .ok (.aload_n 1, 1) := by decide +kernel
theorem zd_AL_add1_12 : decode I_AL_add1.2.1 12 = .ok (.aload_n 0, 1) := by decide +kernel
theorem zd_AL_add1_13 : decode I_AL_add1.2.1 13 = .ok (.getfield 9, 3) := by decide +kernel
theorem zd_AL_add1_16 : decode I_AL_add1.2.1 16 = .ok (.aload_n 0, 1) := by decide +kernel
theorem zd_AL_add1_17 : decode I_AL_add1.2.1 17 = .ok (.getfield 48, 3) := by decide +kernel
theorem zd_AL_add1_20 : decode I_AL_add1.2.1 20 = .ok (.invokevirtual 131, 3) := by decide +kernel
theorem zd_AL_add1_23 : decode I_AL_add1.2.1 23 = .ok (.iconst 1, 1) := by decide +kernel
theorem zd_AL_add1_24 : decode I_AL_add1.2.1 24 = .ok (.ireturn, 1) := by decide +kernel
theorem zd_AL_add3_0 : decode I_AL_add3.2.1 0 = .ok (.iload_n 3, 1) := by decide +kernel
theorem zd_AL_add3_1 : decode I_AL_add3.2.1 1 = .ok (.aload_n 2, 1) := by decide +kernel
theorem zd_AL_add3_2 : decode I_AL_add3.2.1 2 = .ok (.arraylength, 1) := by decide +kernel
theorem zd_AL_add3_3 : decode I_AL_add3.2.1 3 = .ok (.if_icmp .ne 8, 3) := by decide +kernel
theorem zd_AL_add3_6 : decode I_AL_add3.2.1 6 = .ok (.aload_n 0, 1) := by decide +kernel
theorem zd_AL_add3_7 : decode I_AL_add3.2.1 7 = .ok (.invokevirtual 129, 3) := by decide +kernel
theorem zd_AL_add3_10 : decode I_AL_add3.2.1 10 = .ok (.astore_n 2, 1) := by decide +kernel
theorem zd_AL_add3_11 : decode I_AL_add3.2.1 11 = .ok (.aload_n 2, 1) := by decide +kernel
theorem zd_AL_add3_12 : decode I_AL_add3.2.1 12 = .ok (.iload_n 3, 1) := by decide +kernel
theorem zd_AL_add3_13 : decode I_AL_add3.2.1 13 = .ok (.aload_n 1, 1) := by decide +kernel
theorem zd_AL_add3_14 : decode I_AL_add3.2.1 14 = .ok (.aastore, 1) := by decide +kernel
theorem zd_AL_add3_15 : decode I_AL_add3.2.1 15 = .ok (.aload_n 0, 1) := by decide +kernel
theorem zd_AL_add3_16 : decode I_AL_add3.2.1 16 = .ok (.iload_n 3, 1) := by decide +kernel
theorem zd_AL_add3_17 : decode I_AL_add3.2.1 17 = .ok (.iconst 1, 1) := by decide +kernel
theorem zd_AL_add3_18 : decode I_AL_add3.2.1 18 = .ok (.iadd, 1) := by decide +kernel
theorem zd_AL_add3_19 : decode I_AL_add3.2.1 19 = .ok (.putfield 48, 3) := by decide +kernel
theorem zd_AL_add3_22 : decode I_AL_add3.2.1 22 = .ok (.return_, 1) := by decide +kernel
theorem zd_AL_grow0_0 : decode I_AL_grow0.2.1 0 = .ok (.aload_n 0, 1) := by decide +kernel
theorem zd_AL_grow0_1 : decode I_AL_grow0.2.1 1 = .ok (.aload_n 0, 1) := by decide +kernel
theorem zd_AL_grow0_2 : decode I_AL_grow0.2.1 2 = .ok (.getfield 48, 3) := by decide +kernel
theorem zd_AL_grow0_5 : decode I_AL_grow0.2.1 5 = .ok (.iconst 1, 1) := by decide +kernel
theorem zd_AL_grow0_6 : decode I_AL_grow0.2.1 6 = .ok (.iadd, 1) := by decide +kernel
theorem zd_AL_grow0_7 : decode I_AL_grow0.2.1 7 = .ok (.invokevirtual 69, 3) := by decide +kernel
theorem zd_AL_grow0_10 : decode I_AL_grow0.2.1 10 = .ok (.areturn, 1) := by decide +kernel
theorem zd_AL_grow1_0 : decode I_AL_grow1.2.1 0 = .ok (.aload_n 0, 1) := by decide +kernel
theorem zd_AL_grow1_1 : decode I_AL_grow1.2.1 1 = .ok (.getfield 9, 3) := by decide +kernel
theorem zd_AL_grow1_4 : decode I_AL_grow1.2.1 4 = .ok (.arraylength, 1) := by decide +kernel
theorem zd_AL_grow1_5 : decode I_AL_grow1.2.1 5 = .ok (.istore_n 2, 1) := by decide +kernel
theorem zd_AL_grow1_6 : decode I_AL_grow1.2.1 6 = .ok (.iload_n 2, 1) := by decide +kernel
theorem zd_AL_grow1_7 : decode I_AL_grow1.2.1 7 = .ok (.ifCond .gt 13, 3) := by decide +kernel
theorem zd_AL_grow1_10 : decode I_AL_grow1.2.1 10 = .ok (.aload_n 0, 1) := by decide +kernel
theorem zd_AL_grow1_11 : decode I_AL_grow1.2.1 11 = .ok (.getfield 9, 3) := by decide +kernel
theorem zd_AL_grow1_14 : decode I_AL_grow1.2.1 14 = .ok (.getstatic 39, 3) := by decide +kernel
theorem zd_AL_grow1_17 : decode I_AL_grow1.2.1 17 = .ok (.if_acmp .eq 28, 3) := by decide +kernel
theorem zd_AL_grow1_20 : decode I_AL_grow1.2.1 20 = .ok (.iload_n 2, 1) := by decide +kernel
theorem zd_AL_grow1_21 : decode I_AL_grow1.2.1 21 = .ok (.iload_n 1, 1) := by decide +kernel
theorem zd_AL_grow1_22 : decode I_AL_grow1.2.1 22 = .ok (.iload_n 2, 1) := by decide +kernel
theorem zd_AL_grow1_23 : decode I_AL_grow1.2.1 23 = .ok (.isub, 1) := by decide +kernel
theorem zd_AL_grow1_24 : decode I_AL_grow1.2.1 24 = .ok (.iload_n 2, 1) := by decide +kernel
theorem zd_AL_grow1_25 : decode I_AL_grow1.2.1 25 = .ok (.iconst 1, 1) := by decide +kernel
theorem zd_AL_grow1_26 : decode I_AL_grow1.2.1 26 = .ok (.ishr, 1) := by decide +kernel
theorem zd_AL_grow1_27 : decode I_AL_grow1.2.1 27 = .ok (.invokestatic 73, 3) := by decide +kernel
theorem zd_AL_grow1_30 : decode I_AL_grow1.2.1 30 = .ok (.istore_n 3, 1) := by decide +kernel
theorem zd_AL_grow1_31 : decode I_AL_grow1.2.1 31 = .ok (.aload_n 0, 1) := by decide +kernel
theorem zd_AL_grow1_32 : decode I_AL_grow1.2.1 32 = .ok (.aload_n 0, 1) := by decide +kernel
theorem zd_AL_grow1_33 : decode I_AL_grow1.2.1 33 = .ok (.getfield 9, 3) := by decide +kernel
theorem zd_AL_grow1_36 : decode I_AL_grow1.2.1 36 = .ok (.iload_n 3, 1) := by decide +kernel
theorem zd_AL_grow1_37 : decode I_AL_grow1.2.1 37 = .ok (.invokestatic 66, 3) := by decide +kernel
theorem zd_AL_grow1_40 : decode I_AL_grow1.2.1 40 = .ok (.dup_x1, 1) := by decide +kernel
theorem zd_AL_grow1_41 : decode I_AL_grow1.2.1 41 = .ok (.putfield 9, 3) := by decide +kernel
theorem zd_AL_grow1_44 : decode I_AL_grow1.2.1 44 = .ok (.areturn, 1) := by decide +kernel
theorem zd_AL_grow1_45 : decode I_AL_grow1.2.1 45 = .ok (.aload_n 0, 1) := by decide +kernel
theorem zd_AL_grow1_46 : decode I_AL_grow1.2.1 46 = .ok (.bipush 10, 2) := by decide +kernel
theorem zd_AL_grow1_48 : decode I_AL_grow1.2.1 48 = .ok (.iload_n 1, 1) := by decide +kernel
theorem zd_AL_grow1_49 : decode I_AL_grow1.2.1 49 = .ok (.invokestatic 79, 3) := by decide +kernel
theorem zd_AL_grow1_52 : decode I_AL_grow1.2.1 52 = .ok (.anewarray 7, 3) := by decide +kernel
theorem zd_AL_grow1_55 : decode I_AL_grow1.2.1 55 = .ok (.dup_x1, 1) := by decide +kernel
theorem zd_AL_grow1_56 : decode I_AL_grow1.2.1 56 = .ok (.putfield 9, 3) := by decide +kernel
theorem zd_AL_grow1_59 : decode I_AL_grow1.2.1 59 = .ok (.areturn, 1) := by decide +kernel
theorem zd_AS_newLength_0 : decode I_AS_newLength.2.1 0 = .ok (.iload_n 0, 1) := by decide +kernel
theorem zd_AS_newLength_1 : decode I_AS_newLength.2.1 1 = .ok (.iload_n 1, 1) := by decide +kernel
theorem zd_AS_newLength_2 : decode I_AS_newLength.2.1 2 = .ok (.iload_n 2, 1) := by decide +kernel
theorem zd_AS_newLength_3 : decode I_AS_newLength.2.1 3 = .ok (.invokestatic 194, 3) := by decide +kernel
theorem zd_AS_newLength_6 : decode I_AS_newLength.2.1 6 = .ok (.iadd, 1) := by decide +kernel
theorem zd_AS_newLength_7 : decode I_AS_newLength.2.1 7 = .ok (.istore_n 3, 1) := by decide +kernel
theorem zd_AS_newLength_8 : decode I_AS_newLength.2.1 8 = .ok (.iconst 0, 1) := by decide +kernel
theorem zd_AS_newLength_9 : decode I_AS_newLength.2.1 9 = .ok (.iload_n 3, 1) := by decide +kernel
theorem zd_AS_newLength_10 : decode I_AS_newLength.2.1 10 = .ok (.if_icmp .ge 11, 3) := by decide +kernel
theorem zd_AS_newLength_13 : decode I_AS_newLength.2.1 13 = .ok (.iload_n 3, 1) := by decide +kernel
theorem zd_AS_newLength_14 : decode I_AS_newLength.2.1 14 = .ok (.ldc 200, 2) := by decide +kernel
theorem zd_AS_newLength_16 : decode I_AS_newLength.2.1 16 = .ok (.if_icmp .gt 5, 3) := by decide +kernel
theorem zd_AS_newLength_19 : decode I_AS_newLength.2.1 19 = .ok (.iload_n 3, 1) := by decide +kernel
theorem zd_AS_newLength_20 : decode I_AS_newLength.2.1 20 = .ok (.ireturn, 1) := by decide +kernel
theorem zd_AS_newLength_21 : decode I_AS_newLength.2.1 21 = .ok (.iload_n 0, 1) := by decide +kernel
theorem zd_AS_newLength_22 : decode I_AS_newLength.2.1 22 = .ok (.iload_n 1, 1) := by decide +kernel
theorem zd_AS_newLength_23 : decode I_AS_newLength.2.1 23 = .ok (.invokestatic 201, 3) := by decide +kernel
theorem zd_AS_newLength_26 : decode I_AS_newLength.2.1 26 = .ok (.ireturn, 1) := by decide +kernel
theorem zd_MA_max_0 : decode I_MA_max.2.1 0 = .ok (.iload_n 0, 1) := by decide +kernel
theorem zd_MA_max_1 : decode I_MA_max.2.1 1 = .ok (.iload_n 1, 1) := by decide +kernel
theorem zd_MA_max_2 : decode I_MA_max.2.1 2 = .ok (.if_icmp .lt 7, 3) := by decide +kernel
theorem zd_MA_max_5 : decode I_MA_max.2.1 5 = .ok (.iload_n 0, 1) := by decide +kernel
theorem zd_MA_max_6 : decode I_MA_max.2.1 6 = .ok (.goto 4, 3) := by decide +kernel
theorem zd_MA_max_9 : decode I_MA_max.2.1 9 = .ok (.iload_n 1, 1) := by decide +kernel
theorem zd_MA_max_10 : decode I_MA_max.2.1 10 = .ok (.ireturn, 1) := by decide +kernel
theorem zd_AS_hugeLength_0 : decode I_AS_hugeLength.2.1 0 = .ok (.iload_n 0, 1) := by decide +kernel
theorem zd_AS_hugeLength_1 : decode I_AS_hugeLength.2.1 1 = .ok (.iload_n 1, 1) := by decide +kernel
theorem zd_AS_hugeLength_2 : decode I_AS_hugeLength.2.1 2 = .ok (.iadd, 1) := by decide +kernel
theorem zd_AS_hugeLength_3 : decode I_AS_hugeLength.2.1 3 = .ok (.istore_n 2, 1) := by decide +kernel
theorem zd_AS_hugeLength_4 : decode I_AS_hugeLength.2.1 4 = .ok (.iload_n 2, 1) := by decide +kernel
theorem zd_AS_hugeLength_5 : decode I_AS_hugeLength.2.1 5 = .ok (.ifCond .ge 44, 3) := by decide +kernel
theorem zd_AS_hugeLength_8 : decode I_AS_hugeLength.2.1 8 = .ok (.new 204, 3) := by decide +kernel
theorem zd_AS_hugeLength_11 : decode I_AS_hugeLength.2.1 11 = .ok (.dup, 1) := by decide +kernel
theorem zd_AS_hugeLength_12 : decode I_AS_hugeLength.2.1 12 = .ok (.new 89, 3) := by decide +kernel
theorem zd_AS_hugeLength_15 : decode I_AS_hugeLength.2.1 15 = .ok (.dup, 1) := by decide +kernel
theorem zd_AS_hugeLength_16 : decode I_AS_hugeLength.2.1 16 = .ok (.invokespecial 91, 3) := by decide +kernel
theorem zd_AS_hugeLength_19 : decode I_AS_hugeLength.2.1 19 = .ok (.ldc 206, 2) := by decide +kernel
theorem zd_AS_hugeLength_21 : decode I_AS_hugeLength.2.1 21 = .ok (.invokevirtual 94, 3) := by decide +kernel
theorem zd_AS_hugeLength_24 : decode I_AS_hugeLength.2.1 24 = .ok (.iload_n 0, 1) := by decide +kernel
theorem zd_AS_hugeLength_25 : decode I_AS_hugeLength.2.1 25 = .ok (.invokevirtual 98, 3) := by decide +kernel
theorem zd_AS_hugeLength_28 : decode I_AS_hugeLength.2.1 28 = .ok (.ldc 208, 2) := by decide +kernel
theorem zd_AS_hugeLength_30 : decode I_AS_hugeLength.2.1 30 = .ok (.invokevirtual 94, 3) := by decide +kernel
theorem zd_AS_hugeLength_33 : decode I_AS_hugeLength.2.1 33 = .ok (.iload_n 1, 1) := by decide +kernel
theorem zd_AS_hugeLength_34 : decode I_AS_hugeLength.2.1 34 = .ok (.invokevirtual 98, 3) := by decide +kernel
theorem zd_AS_hugeLength_37 : decode I_AS_hugeLength.2.1 37 = .ok (.ldc 210, 2) := by decide +kernel
theorem zd_AS_hugeLength_39 : decode I_AS_hugeLength.2.1 39 = .ok (.invokevirtual 94, 3) := by decide +kernel
theorem zd_AS_hugeLength_42 : decode I_AS_hugeLength.2.1 42 = .ok (.invokevirtual 101, 3) := by decide +kernel
theorem zd_AS_hugeLength_45 : decode I_AS_hugeLength.2.1 45 = .ok (.invokespecial 212, 3) := by decide +kernel
theorem zd_AS_hugeLength_48 : decode I_AS_hugeLength.2.1 48 = .ok (.athrow, 1) := by decide +kernel
theorem zd_AS_hugeLength_49 : decode I_AS_hugeLength.2.1 49 = .ok (.iload_n 2, 1) := by decide +kernel
theorem zd_AS_hugeLength_50 : decode I_AS_hugeLength.2.1 50 = .ok (.ldc 200, 2) := by decide +kernel
theorem zd_AS_hugeLength_52 : decode I_AS_hugeLength.2.1 52 = .ok (.if_icmp .gt 6, 3) := by decide +kernel
theorem zd_AS_hugeLength_55 : decode I_AS_hugeLength.2.1 55 = .ok (.ldc 200, 2) := by decide +kernel
theorem zd_AS_hugeLength_57 : decode I_AS_hugeLength.2.1 57 = .ok (.ireturn, 1) := by decide +kernel
theorem zd_AS_hugeLength_58 : decode I_AS_hugeLength.2.1 58 = .ok (.iload_n 2, 1) := by decide +kernel
theorem zd_AS_hugeLength_59 : decode I_AS_hugeLength.2.1 59 = .ok (.ireturn, 1) := by decide +kernel
theorem zd_AR_copyOf2_0 : decode I_AR_copyOf2.2.1 0 = .ok (.aload_n 0, 1) := by decide +kernel
theorem zd_AR_copyOf2_1 : decode I_AR_copyOf2.2.1 1 = .ok (.iload_n 1, 1) := by decide +kernel
theorem zd_AR_copyOf2_2 : decode I_AR_copyOf2.2.1 2 = .ok (.aload_n 0, 1) := by decide +kernel
theorem zd_AR_copyOf2_3 : decode I_AR_copyOf2.2.1 3 = .ok (.invokevirtual 86, 3) := by decide +kernel
theorem zd_AR_copyOf2_6 : decode I_AR_copyOf2.2.1 6 = .ok (.invokestatic 300, 3) := by decide +kernel
theorem zd_AR_copyOf2_9 : decode I_AR_copyOf2.2.1 9 = .ok (.areturn, 1) := by decide +kernel
theorem zd_AR_copyOf3_0 : decode I_AR_copyOf3.2.1 0 = .ok (.aload_n 2, 1) := by decide +kernel
theorem zd_AR_copyOf3_1 : decode I_AR_copyOf3.2.1 1 = .ok (.ldc 110, 2) := by decide +kernel
theorem zd_AR_copyOf3_3 : decode I_AR_copyOf3.2.1 3 = .ok (.if_acmp .ne 10, 3) := by decide +kernel
theorem zd_AR_copyOf3_6 : decode I_AR_copyOf3.2.1 6 = .ok (.iload_n 1, 1) := by decide +kernel
theorem zd_AR_copyOf3_7 : decode I_AR_copyOf3.2.1 7 = .ok (.anewarray 2, 3) := by decide +kernel
theorem zd_AR_copyOf3_10 : decode I_AR_copyOf3.2.1 10 = .ok (.goto 14, 3) := by decide +kernel
theorem zd_AR_copyOf3_13 : decode I_AR_copyOf3.2.1 13 = .ok (.aload_n 2, 1) := by decide +kernel
theorem zd_AR_copyOf3_14 : decode I_AR_copyOf3.2.1 14 = .ok (.invokevirtual 90, 3) := by decide +kernel
theorem zd_AR_copyOf3_17 : decode I_AR_copyOf3.2.1 17 = .ok (.iload_n 1, 1) := by decide +kernel
theorem zd_AR_copyOf3_18 : decode I_AR_copyOf3.2.1 18 = .ok (.invokestatic 95, 3) := by decide +kernel
theorem zd_AR_copyOf3_21 : decode I_AR_copyOf3.2.1 21 = .ok (.checkcast 110, 3) := by decide +kernel
theorem zd_AR_copyOf3_24 : decode I_AR_copyOf3.2.1 24 = .ok (.astore_n 3, 1) := by decide +kernel
theorem zd_AR_copyOf3_25 : decode I_AR_copyOf3.2.1 25 = .ok (.aload_n 0, 1) := by decide +kernel
theorem zd_AR_copyOf3_26 : decode I_AR_copyOf3.2.1 26 = .ok (.iconst 0, 1) := by decide +kernel
theorem zd_AR_copyOf3_27 : decode I_AR_copyOf3.2.1 27 = .ok (.aload_n 3, 1) := by decide +kernel
theorem zd_AR_copyOf3_28 : decode I_AR_copyOf3.2.1 28 = .ok (.iconst 0, 1) := by decide +kernel
theorem zd_AR_copyOf3_29 : decode I_AR_copyOf3.2.1 29 = .ok (.aload_n 0, 1) := by decide +kernel
theorem zd_AR_copyOf3_30 : decode I_AR_copyOf3.2.1 30 = .ok (.arraylength, 1) := by decide +kernel
theorem zd_AR_copyOf3_31 : decode I_AR_copyOf3.2.1 31 = .ok (.iload_n 1, 1) := by decide +kernel
theorem zd_AR_copyOf3_32 : decode I_AR_copyOf3.2.1 32 = .ok (.invokestatic 304, 3) := by decide +kernel
theorem zd_AR_copyOf3_35 : decode I_AR_copyOf3.2.1 35 = .ok (.invokestatic 150, 3) := by decide +kernel
theorem zd_AR_copyOf3_38 : decode I_AR_copyOf3.2.1 38 = .ok (.aload_n 3, 1) := by decide +kernel
theorem zd_AR_copyOf3_39 : decode I_AR_copyOf3.2.1 39 = .ok (.areturn, 1) := by decide +kernel
theorem zd_MA_min_0 : decode I_MA_min.2.1 0 = .ok (.iload_n 0, 1) := by decide +kernel
theorem zd_MA_min_1 : decode I_MA_min.2.1 1 = .ok (.iload_n 1, 1) := by decide +kernel
theorem zd_MA_min_2 : decode I_MA_min.2.1 2 = .ok (.if_icmp .gt 7, 3) := by decide +kernel
theorem zd_MA_min_5 : decode I_MA_min.2.1 5 = .ok (.iload_n 0, 1) := by decide +kernel
theorem zd_MA_min_6 : decode I_MA_min.2.1 6 = .ok (.goto 4, 3) := by decide +kernel
theorem zd_MA_min_9 : decode I_MA_min.2.1 9 = .ok (.iload_n 1, 1) := by decide +kernel
theorem zd_MA_min_10 : decode I_MA_min.2.1 10 = .ok (.ireturn, 1) := by decide +kernel
theorem zd_H_papers_0 : decode I_H_papers.2.1 0 = .ok (.aload_n 0, 1) := by decide +kernel
theorem zd_H_papers_1 : decode I_H_papers.2.1 1 = .ok (.iload_n 1, 1) := by decide +kernel
theorem zd_H_papers_2 : decode I_H_papers.2.1 2 = .ok (.invokevirtual 104, 3) := by decide +kernel
theorem zd_H_papers_5 : decode I_H_papers.2.1 5 = .ok (.astore_n 3, 1) := by decide +kernel
theorem zd_H_papers_6 : decode I_H_papers.2.1 6 = .ok (.aload_n 3, 1) := by decide +kernel
theorem zd_H_papers_7 : decode I_H_papers.2.1 7 = .ok (.ifnonnull 9, 3) := by decide +kernel
theorem zd_H_papers_10 : decode I_H_papers.2.1 10 = .ok (.aload_n 0, 1) := by decide +kernel
theorem zd_H_papers_11 : decode I_H_papers.2.1 11 = .ok (.iconst (-1), 1) := by decide +kernel
theorem zd_H_papers_12 : decode I_H_papers.2.1 12 = .ok (.invokevirtual 84, 3) := by decide +kernel
theorem zd_H_papers_15 : decode I_H_papers.2.1 15 = .ok (.ireturn, 1) := by decide +kernel
theorem zd_H_papers_16 : decode I_H_papers.2.1 16 = .ok (.iload_n 2, 1) := by decide +kernel
theorem zd_H_papers_17 : decode I_H_papers.2.1 17 = .ok (.iconst 0, 1) := by decide +kernel
theorem zd_H_papers_18 : decode I_H_papers.2.1 18 = .ok (.sipush 200, 3) := by decide +kernel
theorem zd_H_papers_21 : decode I_H_papers.2.1 21 = .ok (.invokestatic 88, 3) := by decide +kernel
theorem zd_H_papers_24 : decode I_H_papers.2.1 24 = .ok (.istore 4, 2) := by decide +kernel
theorem zd_H_papers_26 : decode I_H_papers.2.1 26 = .ok (.iload 4, 2) := by decide +kernel
theorem zd_H_papers_28 : decode I_H_papers.2.1 28 = .ok (.ifCond .eq 10, 3) := by decide +kernel
theorem zd_H_papers_31 : decode I_H_papers.2.1 31 = .ok (.aload_n 0, 1) := by decide +kernel
theorem zd_H_papers_32 : decode I_H_papers.2.1 32 = .ok (.iload 4, 2) := by decide +kernel
theorem zd_H_papers_34 : decode I_H_papers.2.1 34 = .ok (.invokevirtual 84, 3) := by decide +kernel
theorem zd_H_papers_37 : decode I_H_papers.2.1 37 = .ok (.ireturn, 1) := by decide +kernel
theorem zd_H_papers_38 : decode I_H_papers.2.1 38 = .ok (.aload_n 3, 1) := by decide +kernel
theorem zd_H_papers_39 : decode I_H_papers.2.1 39 = .ok (.getfield 108, 3) := by decide +kernel
theorem zd_H_papers_42 : decode I_H_papers.2.1 42 = .ok (.istore 5, 2) := by decide +kernel
theorem zd_H_papers_44 : decode I_H_papers.2.1 44 = .ok (.aload_n 3, 1) := by decide +kernel
theorem zd_H_papers_45 : decode I_H_papers.2.1 45 = .ok (.iload_n 2, 1) := by decide +kernel
theorem zd_H_papers_46 : decode I_H_papers.2.1 46 = .ok (.putfield 108, 3) := by decide +kernel
theorem zd_H_papers_49 : decode I_H_papers.2.1 49 = .ok (.iload 5, 2) := by decide +kernel
theorem zd_H_papers_51 : decode I_H_papers.2.1 51 = .ok (.ireturn, 1) := by decide +kernel
theorem zd_H_personAt_0 : decode I_H_personAt.2.1 0 = .ok (.iload_n 1, 1) := by decide +kernel
theorem zd_H_personAt_1 : decode I_H_personAt.2.1 1 = .ok (.ifCond .lt 28, 3) := by decide +kernel
theorem zd_H_personAt_4 : decode I_H_personAt.2.1 4 = .ok (.iload_n 1, 1) := by decide +kernel
theorem zd_H_personAt_5 : decode I_H_personAt.2.1 5 = .ok (.aload_n 0, 1) := by decide +kernel
theorem zd_H_personAt_6 : decode I_H_personAt.2.1 6 = .ok (.getfield 19, 3) := by decide +kernel
theorem zd_H_personAt_9 : decode I_H_personAt.2.1 9 = .ok (.invokevirtual 92, 3) := by decide +kernel
theorem zd_H_personAt_12 : decode I_H_personAt.2.1 12 = .ok (.if_icmp .ge 17, 3) := by decide +kernel
theorem zd_H_personAt_15 : decode I_H_personAt.2.1 15 = .ok (.aload_n 0, 1) := by decide +kernel
theorem zd_H_personAt_16 : decode I_H_personAt.2.1 16 = .ok (.getfield 19, 3) := by decide +kernel
theorem zd_H_personAt_19 : decode I_H_personAt.2.1 19 = .ok (.iload_n 1, 1) := by decide +kernel
theorem zd_H_personAt_20 : decode I_H_personAt.2.1 20 = .ok (.invokevirtual 134, 3) := by decide +kernel
theorem zd_H_personAt_23 : decode I_H_personAt.2.1 23 = .ok (.checkcast 95, 3) := by decide +kernel
theorem zd_H_personAt_26 : decode I_H_personAt.2.1 26 = .ok (.goto 4, 3) := by decide +kernel
theorem zd_H_personAt_29 : decode I_H_personAt.2.1 29 = .ok (.aconst_null, 1) := by decide +kernel
theorem zd_H_personAt_30 : decode I_H_personAt.2.1 30 = .ok (.areturn, 1) := by decide +kernel
theorem zd_AL_get_0 : decode I_AL_get.2.1 0 = .ok (.iload_n 1, 1) := by decide +kernel
theorem zd_AL_get_1 : decode I_AL_get.2.1 1 = .ok (.aload_n 0, 1) := by decide +kernel
theorem zd_AL_get_2 : decode I_AL_get.2.1 2 = .ok (.getfield 48, 3) := by decide +kernel
theorem zd_AL_get_5 : decode I_AL_get.2.1 5 = .ok (.invokestatic 118, 3) := by decide +kernel
theorem zd_AL_get_8 : decode I_AL_get.2.1 8 = .ok (.pop, 1) := by decide +kernel
theorem zd_AL_get_9 : decode I_AL_get.2.1 9 = .ok (.aload_n 0, 1) := by decide +kernel
theorem zd_AL_get_10 : decode I_AL_get.2.1 10 = .ok (.iload_n 1, 1) := by decide +kernel
theorem zd_AL_get_11 : decode I_AL_get.2.1 11 = .ok (.invokevirtual 123, 3) := by decide +kernel
theorem zd_AL_get_14 : decode I_AL_get.2.1 14 = .ok (.areturn, 1) := by decide +kernel
theorem zd_OB_checkIndex_0 : decode I_OB_checkIndex.2.1 0 = .ok (.iload_n 0, 1) := by decide +kernel
theorem zd_OB_checkIndex_1 : decode I_OB_checkIndex.2.1 1 = .ok (.iload_n 1, 1) := by decide +kernel
theorem zd_OB_checkIndex_2 : decode I_OB_checkIndex.2.1 2 = .ok (.aconst_null, 1) := by decide +kernel
theorem zd_OB_checkIndex_3 : decode I_OB_checkIndex.2.1 3 = .ok (.invokestatic 105, 3) := by decide +kernel
theorem zd_OB_checkIndex_6 : decode I_OB_checkIndex.2.1 6 = .ok (.ireturn, 1) := by decide +kernel
theorem zd_PC_checkIndex_0 : decode I_PC_checkIndex.2.1 0 = .ok (.iload_n 0, 1) := by decide +kernel
theorem zd_PC_checkIndex_1 : decode I_PC_checkIndex.2.1 1 = .ok (.ifCond .lt 8, 3) := by decide +kernel
theorem zd_PC_checkIndex_4 : decode I_PC_checkIndex.2.1 4 = .ok (.iload_n 0, 1) := by decide +kernel
theorem zd_PC_checkIndex_5 : decode I_PC_checkIndex.2.1 5 = .ok (.iload_n 1, 1) := by decide +kernel
theorem zd_PC_checkIndex_6 : decode I_PC_checkIndex.2.1 6 = .ok (.if_icmp .lt 10, 3) := by decide +kernel
theorem zd_PC_checkIndex_9 : decode I_PC_checkIndex.2.1 9 = .ok (.aload_n 2, 1) := by decide +kernel
theorem zd_PC_checkIndex_10 : decode I_PC_checkIndex.2.1 10 = .ok (.iload_n 0, 1) := by decide +kernel
theorem zd_PC_checkIndex_11 : decode I_PC_checkIndex.2.1 11 = .ok (.iload_n 1, 1) := by decide +kernel
theorem zd_PC_checkIndex_12 : decode I_PC_checkIndex.2.1 12 = .ok (.invokestatic 95, 3) := by decide +kernel
theorem zd_PC_checkIndex_15 : decode I_PC_checkIndex.2.1 15 = .ok (.athrow, 1) := by decide +kernel
theorem zd_PC_checkIndex_16 : decode I_PC_checkIndex.2.1 16 = .ok (.iload_n 0, 1) := by decide +kernel
theorem zd_PC_checkIndex_17 : decode I_PC_checkIndex.2.1 17 = .ok (.ireturn, 1) := by decide +kernel
theorem zd_AL_elementData_0 : decode I_AL_elementData.2.1 0 = .ok (.aload_n 0, 1) := by decide +kernel
theorem zd_AL_elementData_1 : decode I_AL_elementData.2.1 1 = .ok (.getfield 9, 3) := by decide +kernel
theorem zd_AL_elementData_4 : decode I_AL_elementData.2.1 4 = .ok (.iload_n 1, 1) := by decide +kernel
theorem zd_AL_elementData_5 : decode I_AL_elementData.2.1 5 = .ok (.aaload, 1) := by decide +kernel
theorem zd_AL_elementData_6 : decode I_AL_elementData.2.1 6 = .ok (.areturn, 1) := by decide +kernel
theorem zd_H_page_0 : decode I_H_page.2.1 0 = .ok (.aload_n 0, 1) := by decide +kernel
theorem zd_H_page_1 : decode I_H_page.2.1 1 = .ok (.iload_n 1, 1) := by decide +kernel
theorem zd_H_page_2 : decode I_H_page.2.1 2 = .ok (.invokevirtual 104, 3) := by decide +kernel
theorem zd_H_page_5 : decode I_H_page.2.1 5 = .ok (.astore_n 3, 1) := by decide +kernel
theorem zd_H_page_6 : decode I_H_page.2.1 6 = .ok (.aload_n 3, 1) := by decide +kernel
theorem zd_H_page_7 : decode I_H_page.2.1 7 = .ok (.ifnonnull 9, 3) := by decide +kernel
theorem zd_H_page_10 : decode I_H_page.2.1 10 = .ok (.aload_n 0, 1) := by decide +kernel
theorem zd_H_page_11 : decode I_H_page.2.1 11 = .ok (.iconst (-1), 1) := by decide +kernel
theorem zd_H_page_12 : decode I_H_page.2.1 12 = .ok (.invokevirtual 84, 3) := by decide +kernel
theorem zd_H_page_15 : decode I_H_page.2.1 15 = .ok (.ireturn, 1) := by decide +kernel
theorem zd_H_page_16 : decode I_H_page.2.1 16 = .ok (.aload_n 0, 1) := by decide +kernel
theorem zd_H_page_17 : decode I_H_page.2.1 17 = .ok (.invokevirtual 111, 3) := by decide +kernel
theorem zd_H_page_20 : decode I_H_page.2.1 20 = .ok (.istore 4, 2) := by decide +kernel
theorem zd_H_page_22 : decode I_H_page.2.1 22 = .ok (.aload_n 3, 1) := by decide +kernel
theorem zd_H_page_23 : decode I_H_page.2.1 23 = .ok (.getfield 114, 3) := by decide +kernel
theorem zd_H_page_26 : decode I_H_page.2.1 26 = .ok (.iload 4, 2) := by decide +kernel
theorem zd_H_page_28 : decode I_H_page.2.1 28 = .ok (.iaload, 1) := by decide +kernel
theorem zd_H_page_29 : decode I_H_page.2.1 29 = .ok (.sipush 200, 3) := by decide +kernel
theorem zd_H_page_32 : decode I_H_page.2.1 32 = .ok (.if_icmp .lt 10, 3) := by decide +kernel
theorem zd_H_page_35 : decode I_H_page.2.1 35 = .ok (.aload_n 0, 1) := by decide +kernel
theorem zd_H_page_36 : decode I_H_page.2.1 36 = .ok (.bipush (-6), 2) := by decide +kernel
theorem zd_H_page_38 : decode I_H_page.2.1 38 = .ok (.invokevirtual 84, 3) := by decide +kernel
theorem zd_H_page_41 : decode I_H_page.2.1 41 = .ok (.ireturn, 1) := by decide +kernel
theorem zd_H_page_42 : decode I_H_page.2.1 42 = .ok (.aload_n 3, 1) := by decide +kernel
theorem zd_H_page_43 : decode I_H_page.2.1 43 = .ok (.getfield 114, 3) := by decide +kernel
theorem zd_H_page_46 : decode I_H_page.2.1 46 = .ok (.iload 4, 2) := by decide +kernel
theorem zd_H_page_48 : decode I_H_page.2.1 48 = .ok (.dup2, 1) := by decide +kernel
theorem zd_H_page_49 : decode I_H_page.2.1 49 = .ok (.iaload, 1) := by decide +kernel
theorem zd_H_page_50 : decode I_H_page.2.1 50 = .ok (.iconst 1, 1) := by decide +kernel
theorem zd_H_page_51 : decode I_H_page.2.1 51 = .ok (.iadd, 1) := by decide +kernel
theorem zd_H_page_52 : decode I_H_page.2.1 52 = .ok (.iastore, 1) := by decide +kernel
theorem zd_H_page_53 : decode I_H_page.2.1 53 = .ok (.iload_n 2, 1) := by decide +kernel
theorem zd_H_page_54 : decode I_H_page.2.1 54 = .ok (.ifCond .eq 14, 3) := by decide +kernel
theorem zd_H_page_57 : decode I_H_page.2.1 57 = .ok (.aload_n 3, 1) := by decide +kernel
theorem zd_H_page_58 : decode I_H_page.2.1 58 = .ok (.getfield 117, 3) := by decide +kernel
theorem zd_H_page_61 : decode I_H_page.2.1 61 = .ok (.iload 4, 2) := by decide +kernel
theorem zd_H_page_63 : decode I_H_page.2.1 63 = .ok (.dup2, 1) := by decide +kernel
theorem zd_H_page_64 : decode I_H_page.2.1 64 = .ok (.iaload, 1) := by decide +kernel
theorem zd_H_page_65 : decode I_H_page.2.1 65 = .ok (.iconst 1, 1) := by decide +kernel
theorem zd_H_page_66 : decode I_H_page.2.1 66 = .ok (.iadd, 1) := by decide +kernel
theorem zd_H_page_67 : decode I_H_page.2.1 67 = .ok (.iastore, 1) := by decide +kernel
theorem zd_H_page_68 : decode I_H_page.2.1 68 = .ok (.aload_n 3, 1) := by decide +kernel
theorem zd_H_page_69 : decode I_H_page.2.1 69 = .ok (.getfield 114, 3) := by decide +kernel
theorem zd_H_page_72 : decode I_H_page.2.1 72 = .ok (.iload 4, 2) := by decide +kernel
theorem zd_H_page_74 : decode I_H_page.2.1 74 = .ok (.iaload, 1) := by decide +kernel
theorem zd_H_page_75 : decode I_H_page.2.1 75 = .ok (.ireturn, 1) := by decide +kernel
theorem zd_H_bandNow_0 : decode I_H_bandNow.2.1 0 = .ok (.aload_n 0, 1) := by decide +kernel
theorem zd_H_bandNow_1 : decode I_H_bandNow.2.1 1 = .ok (.getfield 70, 3) := by decide +kernel
theorem zd_H_bandNow_4 : decode I_H_bandNow.2.1 4 = .ok (.bipush 60, 2) := by decide +kernel
theorem zd_H_bandNow_6 : decode I_H_bandNow.2.1 6 = .ok (.idiv, 1) := by decide +kernel
theorem zd_H_bandNow_7 : decode I_H_bandNow.2.1 7 = .ok (.istore_n 1, 1) := by decide +kernel
theorem zd_H_bandNow_8 : decode I_H_bandNow.2.1 8 = .ok (.iload_n 1, 1) := by decide +kernel
theorem zd_H_bandNow_9 : decode I_H_bandNow.2.1 9 = .ok (.bipush 24, 2) := by decide +kernel
theorem zd_H_bandNow_11 : decode I_H_bandNow.2.1 11 = .ok (.irem, 1) := by decide +kernel
theorem zd_H_bandNow_12 : decode I_H_bandNow.2.1 12 = .ok (.bipush 6, 2) := by decide +kernel
theorem zd_H_bandNow_14 : decode I_H_bandNow.2.1 14 = .ok (.idiv, 1) := by decide +kernel
theorem zd_H_bandNow_15 : decode I_H_bandNow.2.1 15 = .ok (.istore_n 2, 1) := by decide +kernel
theorem zd_H_bandNow_16 : decode I_H_bandNow.2.1 16 = .ok (.iload_n 1, 1) := by decide +kernel
theorem zd_H_bandNow_17 : decode I_H_bandNow.2.1 17 = .ok (.bipush 24, 2) := by decide +kernel
theorem zd_H_bandNow_19 : decode I_H_bandNow.2.1 19 = .ok (.idiv, 1) := by decide +kernel
theorem zd_H_bandNow_20 : decode I_H_bandNow.2.1 20 = .ok (.bipush 7, 2) := by decide +kernel
theorem zd_H_bandNow_22 : decode I_H_bandNow.2.1 22 = .ok (.irem, 1) := by decide +kernel
theorem zd_H_bandNow_23 : decode I_H_bandNow.2.1 23 = .ok (.iconst 5, 1) := by decide +kernel
theorem zd_H_bandNow_24 : decode I_H_bandNow.2.1 24 = .ok (.if_icmp .lt 9, 3) := by decide +kernel
theorem zd_H_bandNow_27 : decode I_H_bandNow.2.1 27 = .ok (.iload_n 2, 1) := by decide +kernel
theorem zd_H_bandNow_28 : decode I_H_bandNow.2.1 28 = .ok (.iconst 4, 1) := by decide +kernel
theorem zd_H_bandNow_29 : decode I_H_bandNow.2.1 29 = .ok (.iadd, 1) := by decide +kernel
theorem zd_H_bandNow_30 : decode I_H_bandNow.2.1 30 = .ok (.goto 4, 3) := by decide +kernel
theorem zd_H_bandNow_33 : decode I_H_bandNow.2.1 33 = .ok (.iload_n 2, 1) := by decide +kernel
theorem zd_H_bandNow_34 : decode I_H_bandNow.2.1 34 = .ok (.ireturn, 1) := by decide +kernel
theorem zd_H_partOf_0 : decode I_H_partOf.2.1 0 = .ok (.aload_n 0, 1) := by decide +kernel
theorem zd_H_partOf_1 : decode I_H_partOf.2.1 1 = .ok (.iload_n 1, 1) := by decide +kernel
theorem zd_H_partOf_2 : decode I_H_partOf.2.1 2 = .ok (.invokevirtual 104, 3) := by decide +kernel
theorem zd_H_partOf_5 : decode I_H_partOf.2.1 5 = .ok (.astore_n 3, 1) := by decide +kernel
theorem zd_H_partOf_6 : decode I_H_partOf.2.1 6 = .ok (.aload_n 3, 1) := by decide +kernel
theorem zd_H_partOf_7 : decode I_H_partOf.2.1 7 = .ok (.ifnull 10, 3) := by decide +kernel
theorem zd_H_partOf_10 : decode I_H_partOf.2.1 10 = .ok (.iload_n 2, 1) := by decide +kernel
theorem zd_H_partOf_11 : decode I_H_partOf.2.1 11 = .ok (.invokestatic 120, 3) := by decide +kernel
theorem zd_H_partOf_14 : decode I_H_partOf.2.1 14 = .ok (.ifCond .ne 9, 3) := by decide +kernel
theorem zd_H_partOf_17 : decode I_H_partOf.2.1 17 = .ok (.aload_n 0, 1) := by decide +kernel
theorem zd_H_partOf_18 : decode I_H_partOf.2.1 18 = .ok (.iconst (-1), 1) := by decide +kernel
theorem zd_H_partOf_19 : decode I_H_partOf.2.1 19 = .ok (.invokevirtual 84, 3) := by decide +kernel
theorem zd_H_partOf_22 : decode I_H_partOf.2.1 22 = .ok (.ireturn, 1) := by decide +kernel
theorem zd_H_partOf_23 : decode I_H_partOf.2.1 23 = .ok (.aload_n 3, 1) := by decide +kernel
theorem zd_H_partOf_24 : decode I_H_partOf.2.1 24 = .ok (.iload_n 2, 1) := by decide +kernel
theorem zd_H_partOf_25 : decode I_H_partOf.2.1 25 = .ok (.aload_n 0, 1) := by decide +kernel
theorem zd_H_partOf_26 : decode I_H_partOf.2.1 26 = .ok (.getfield 70, 3) := by decide +kernel
theorem zd_H_partOf_29 : decode I_H_partOf.2.1 29 = .ok (.invokevirtual 123, 3) := by decide +kernel
theorem zd_H_partOf_32 : decode I_H_partOf.2.1 32 = .ok (.ireturn, 1) := by decide +kernel
theorem zd_H_isBand_0 : decode I_H_isBand.2.1 0 = .ok (.iload_n 0, 1) := by decide +kernel
theorem zd_H_isBand_1 : decode I_H_isBand.2.1 1 = .ok (.ifCond .lt 13, 3) := by decide +kernel
theorem zd_H_isBand_4 : decode I_H_isBand.2.1 4 = .ok (.iload_n 0, 1) := by decide +kernel
theorem zd_H_isBand_5 : decode I_H_isBand.2.1 5 = .ok (.bipush 8, 2) := by decide +kernel
theorem zd_H_isBand_7 : decode I_H_isBand.2.1 7 = .ok (.if_icmp .ge 7, 3) := by decide +kernel
theorem zd_H_isBand_10 : decode I_H_isBand.2.1 10 = .ok (.iconst 1, 1) := by decide +kernel
theorem zd_H_isBand_11 : decode I_H_isBand.2.1 11 = .ok (.goto 4, 3) := by decide +kernel
theorem zd_H_isBand_14 : decode I_H_isBand.2.1 14 = .ok (.iconst 0, 1) := by decide +kernel
theorem zd_H_isBand_15 : decode I_H_isBand.2.1 15 = .ok (.ireturn, 1) := by decide +kernel
theorem zd_Q_partIn_0 : decode I_Q_partIn.2.1 0 = .ok (.iload_n 2, 1) := by decide +kernel
theorem zd_Q_partIn_1 : decode I_Q_partIn.2.1 1 = .ok (.bipush 60, 2) := by decide +kernel
theorem zd_Q_partIn_3 : decode I_Q_partIn.2.1 3 = .ok (.idiv, 1) := by decide +kernel
theorem zd_Q_partIn_4 : decode I_Q_partIn.2.1 4 = .ok (.bipush 24, 2) := by decide +kernel
theorem zd_Q_partIn_6 : decode I_Q_partIn.2.1 6 = .ok (.idiv, 1) := by decide +kernel
theorem zd_Q_partIn_7 : decode I_Q_partIn.2.1 7 = .ok (.aload_n 0, 1) := by decide +kernel
theorem zd_Q_partIn_8 : decode I_Q_partIn.2.1 8 = .ok (.getfield 28, 3) := by decide +kernel
theorem zd_Q_partIn_11 : decode I_Q_partIn.2.1 11 = .ok (.if_icmp .gt 7, 3) := by decide +kernel
theorem zd_Q_partIn_14 : decode I_Q_partIn.2.1 14 = .ok (.iconst 1, 1) := by decide +kernel
theorem zd_Q_partIn_15 : decode I_Q_partIn.2.1 15 = .ok (.goto 4, 3) := by decide +kernel
theorem zd_Q_partIn_18 : decode I_Q_partIn.2.1 18 = .ok (.iconst 0, 1) := by decide +kernel
theorem zd_Q_partIn_19 : decode I_Q_partIn.2.1 19 = .ok (.istore_n 3, 1) := by decide +kernel
theorem zd_Q_partIn_20 : decode I_Q_partIn.2.1 20 = .ok (.iload_n 2, 1) := by decide +kernel
theorem zd_Q_partIn_21 : decode I_Q_partIn.2.1 21 = .ok (.aload_n 0, 1) := by decide +kernel
theorem zd_Q_partIn_22 : decode I_Q_partIn.2.1 22 = .ok (.getfield 18, 3) := by decide +kernel
theorem zd_Q_partIn_25 : decode I_Q_partIn.2.1 25 = .ok (.if_icmp .ge 7, 3) := by decide +kernel
theorem zd_Q_partIn_28 : decode I_Q_partIn.2.1 28 = .ok (.iconst 1, 1) := by decide +kernel
theorem zd_Q_partIn_29 : decode I_Q_partIn.2.1 29 = .ok (.goto 4, 3) := by decide +kernel
theorem zd_Q_partIn_32 : decode I_Q_partIn.2.1 32 = .ok (.iconst 0, 1) := by decide +kernel
theorem zd_Q_partIn_33 : decode I_Q_partIn.2.1 33 = .ok (.istore 4, 2) := by decide +kernel
theorem zd_Q_partIn_35 : decode I_Q_partIn.2.1 35 = .ok (.iload_n 3, 1) := by decide +kernel
theorem zd_Q_partIn_36 : decode I_Q_partIn.2.1 36 = .ok (.ifCond .eq 32, 3) := by decide +kernel
theorem zd_Q_partIn_39 : decode I_Q_partIn.2.1 39 = .ok (.iload 4, 2) := by decide +kernel
theorem zd_Q_partIn_41 : decode I_Q_partIn.2.1 41 = .ok (.ifCond .ne 27, 3) := by decide +kernel
theorem zd_Q_partIn_44 : decode I_Q_partIn.2.1 44 = .ok (.sipush 1024, 3) := by decide +kernel
theorem zd_Q_partIn_47 : decode I_Q_partIn.2.1 47 = .ok (.aload_n 0, 1) := by decide +kernel
theorem zd_Q_partIn_48 : decode I_Q_partIn.2.1 48 = .ok (.getfield 15, 3) := by decide +kernel
theorem zd_Q_partIn_51 : decode I_Q_partIn.2.1 51 = .ok (.iload_n 1, 1) := by decide +kernel
theorem zd_Q_partIn_52 : decode I_Q_partIn.2.1 52 = .ok (.iaload, 1) := by decide +kernel
theorem zd_Q_partIn_53 : decode I_Q_partIn.2.1 53 = .ok (.iconst 1, 1) := by decide +kernel
theorem zd_Q_partIn_54 : decode I_Q_partIn.2.1 54 = .ok (.iadd, 1) := by decide +kernel
theorem zd_Q_partIn_55 : decode I_Q_partIn.2.1 55 = .ok (.imul, 1) := by decide +kernel
theorem zd_Q_partIn_56 : decode I_Q_partIn.2.1 56 = .ok (.aload_n 0, 1) := by decide +kernel
theorem zd_Q_partIn_57 : decode I_Q_partIn.2.1 57 = .ok (.getfield 9, 3) := by decide +kernel
theorem zd_Q_partIn_60 : decode I_Q_partIn.2.1 60 = .ok (.iload_n 1, 1) := by decide +kernel
theorem zd_Q_partIn_61 : decode I_Q_partIn.2.1 61 = .ok (.iaload, 1) := by decide +kernel
theorem zd_Q_partIn_62 : decode I_Q_partIn.2.1 62 = .ok (.iconst 2, 1) := by decide +kernel
theorem zd_Q_partIn_63 : decode I_Q_partIn.2.1 63 = .ok (.iadd, 1) := by decide +kernel
theorem zd_Q_partIn_64 : decode I_Q_partIn.2.1 64 = .ok (.idiv, 1) := by decide +kernel
theorem zd_Q_partIn_65 : decode I_Q_partIn.2.1 65 = .ok (.goto 4, 3) := by decide +kernel
theorem zd_Q_partIn_68 : decode I_Q_partIn.2.1 68 = .ok (.iconst 0, 1) := by decide +kernel
theorem zd_Q_partIn_69 : decode I_Q_partIn.2.1 69 = .ok (.ireturn, 1) := by decide +kernel
theorem zd_H_set_0 : decode I_H_set.2.1 0 = .ok (.iload_n 1, 1) := by decide +kernel
theorem zd_H_set_1 : decode I_H_set.2.1 1 = .ok (.ifCond .eq 15, 3) := by decide +kernel
theorem zd_H_set_4 : decode I_H_set.2.1 4 = .ok (.iload_n 1, 1) := by decide +kernel
theorem zd_H_set_5 : decode I_H_set.2.1 5 = .ok (.iconst 1, 1) := by decide +kernel
theorem zd_H_set_6 : decode I_H_set.2.1 6 = .ok (.if_icmp .eq 10, 3) := by decide +kernel
theorem zd_H_set_9 : decode I_H_set.2.1 9 = .ok (.aload_n 0, 1) := by decide +kernel
theorem zd_H_set_10 : decode I_H_set.2.1 10 = .ok (.bipush (-2), 2) := by decide +kernel
theorem zd_H_set_12 : decode I_H_set.2.1 12 = .ok (.invokevirtual 84, 3) := by decide +kernel
theorem zd_H_set_15 : decode I_H_set.2.1 15 = .ok (.ireturn, 1) := by decide +kernel
theorem zd_H_set_16 : decode I_H_set.2.1 16 = .ok (.iload_n 1, 1) := by decide +kernel
theorem zd_H_set_17 : decode I_H_set.2.1 17 = .ok (.ifCond .ne 13, 3) := by decide +kernel
theorem zd_H_set_20 : decode I_H_set.2.1 20 = .ok (.iload_n 2, 1) := by decide +kernel
theorem zd_H_set_21 : decode I_H_set.2.1 21 = .ok (.iconst 2, 1) := by decide +kernel
theorem zd_H_set_22 : decode I_H_set.2.1 22 = .ok (.bipush 6, 2) := by decide +kernel
theorem zd_H_set_24 : decode I_H_set.2.1 24 = .ok (.invokestatic 88, 3) := by decide +kernel
theorem zd_H_set_27 : decode I_H_set.2.1 27 = .ok (.goto 10, 3) := by decide +kernel
theorem zd_H_set_30 : decode I_H_set.2.1 30 = .ok (.iload_n 2, 1) := by decide +kernel
theorem zd_H_set_31 : decode I_H_set.2.1 31 = .ok (.iconst 5, 1) := by decide +kernel
theorem zd_H_set_32 : decode I_H_set.2.1 32 = .ok (.bipush 30, 2) := by decide +kernel
theorem zd_H_set_34 : decode I_H_set.2.1 34 = .ok (.invokestatic 88, 3) := by decide +kernel
theorem zd_H_set_37 : decode I_H_set.2.1 37 = .ok (.istore_n 3, 1) := by decide +kernel
theorem zd_H_set_38 : decode I_H_set.2.1 38 = .ok (.iload_n 3, 1) := by decide +kernel
theorem zd_H_set_39 : decode I_H_set.2.1 39 = .ok (.ifCond .eq 9, 3) := by decide +kernel
theorem zd_H_set_42 : decode I_H_set.2.1 42 = .ok (.aload_n 0, 1) := by decide +kernel
theorem zd_H_set_43 : decode I_H_set.2.1 43 = .ok (.iload_n 3, 1) := by decide +kernel
theorem zd_H_set_44 : decode I_H_set.2.1 44 = .ok (.invokevirtual 84, 3) := by decide +kernel
theorem zd_H_set_47 : decode I_H_set.2.1 47 = .ok (.ireturn, 1) := by decide +kernel
theorem zd_H_set_48 : decode I_H_set.2.1 48 = .ok (.iload_n 1, 1) := by decide +kernel
theorem zd_H_set_49 : decode I_H_set.2.1 49 = .ok (.ifCond .ne 10, 3) := by decide +kernel
theorem zd_H_set_52 : decode I_H_set.2.1 52 = .ok (.aload_n 0, 1) := by decide +kernel
theorem zd_H_set_53 : decode I_H_set.2.1 53 = .ok (.getfield 74, 3) := by decide +kernel
theorem zd_H_set_56 : decode I_H_set.2.1 56 = .ok (.goto 7, 3) := by decide +kernel
theorem zd_H_set_59 : decode I_H_set.2.1 59 = .ok (.aload_n 0, 1) := by decide +kernel
theorem zd_H_set_60 : decode I_H_set.2.1 60 = .ok (.getfield 77, 3) := by decide +kernel
theorem zd_H_set_63 : decode I_H_set.2.1 63 = .ok (.istore 4, 2) := by decide +kernel
theorem zd_H_set_65 : decode I_H_set.2.1 65 = .ok (.iload_n 1, 1) := by decide +kernel
theorem zd_H_set_66 : decode I_H_set.2.1 66 = .ok (.ifCond .ne 11, 3) := by decide +kernel
theorem zd_H_set_69 : decode I_H_set.2.1 69 = .ok (.aload_n 0, 1) := by decide +kernel
theorem zd_H_set_70 : decode I_H_set.2.1 70 = .ok (.iload_n 2, 1) := by decide +kernel
theorem zd_H_set_71 : decode I_H_set.2.1 71 = .ok (.putfield 74, 3) := by decide +kernel
theorem zd_H_set_74 : decode I_H_set.2.1 74 = .ok (.goto 8, 3) := by decide +kernel
theorem zd_H_set_77 : decode I_H_set.2.1 77 = .ok (.aload_n 0, 1) := by decide +kernel
theorem zd_H_set_78 : decode I_H_set.2.1 78 = .ok (.iload_n 2, 1) := by decide +kernel
theorem zd_H_set_79 : decode I_H_set.2.1 79 = .ok (.putfield 77, 3) := by decide +kernel
theorem zd_H_set_82 : decode I_H_set.2.1 82 = .ok (.iload 4, 2) := by decide +kernel
theorem zd_H_set_84 : decode I_H_set.2.1 84 = .ok (.ireturn, 1) := by decide +kernel
theorem zd_H_chance_0 : decode I_H_chance.2.1 0 = .ok (.iload_n 1, 1) := by decide +kernel
theorem zd_H_chance_1 : decode I_H_chance.2.1 1 = .ok (.invokestatic 80, 3) := by decide +kernel
theorem zd_H_chance_4 : decode I_H_chance.2.1 4 = .ok (.ifCond .eq 10, 3) := by decide +kernel
theorem zd_H_chance_7 : decode I_H_chance.2.1 7 = .ok (.iload_n 2, 1) := by decide +kernel
theorem zd_H_chance_8 : decode I_H_chance.2.1 8 = .ok (.invokestatic 120, 3) := by decide +kernel
theorem zd_H_chance_11 : decode I_H_chance.2.1 11 = .ok (.ifCond .ne 9, 3) := by decide +kernel
theorem zd_H_chance_14 : decode I_H_chance.2.1 14 = .ok (.aload_n 0, 1) := by decide +kernel
theorem zd_H_chance_15 : decode I_H_chance.2.1 15 = .ok (.iconst (-1), 1) := by decide +kernel
theorem zd_H_chance_16 : decode I_H_chance.2.1 16 = .ok (.invokevirtual 84, 3) := by decide +kernel
theorem zd_H_chance_19 : decode I_H_chance.2.1 19 = .ok (.ireturn, 1) := by decide +kernel
theorem zd_H_chance_20 : decode I_H_chance.2.1 20 = .ok (.aload_n 0, 1) := by decide +kernel
theorem zd_H_chance_21 : decode I_H_chance.2.1 21 = .ok (.iload_n 1, 1) := by decide +kernel
theorem zd_H_chance_22 : decode I_H_chance.2.1 22 = .ok (.iload_n 2, 1) := by decide +kernel
theorem zd_H_chance_23 : decode I_H_chance.2.1 23 = .ok (.invokevirtual 127, 3) := by decide +kernel
theorem zd_H_chance_26 : decode I_H_chance.2.1 26 = .ok (.ireturn, 1) := by decide +kernel
theorem zd_H_crewChance_0 : decode I_H_crewChance.2.1 0 = .ok (.aload_n 0, 1) := by decide +kernel
theorem zd_H_crewChance_1 : decode I_H_crewChance.2.1 1 = .ok (.getfield 42, 3) := by decide +kernel
theorem zd_H_crewChance_4 : decode I_H_crewChance.2.1 4 = .ok (.invokevirtual 131, 3) := by decide +kernel
theorem zd_H_crewChance_7 : decode I_H_crewChance.2.1 7 = .ok (.iconst 0, 1) := by decide +kernel
theorem zd_H_crewChance_8 : decode I_H_crewChance.2.1 8 = .ok (.istore_n 3, 1) := by decide +kernel
theorem zd_H_crewChance_9 : decode I_H_crewChance.2.1 9 = .ok (.iload_n 3, 1) := by decide +kernel
theorem zd_H_crewChance_10 : decode I_H_crewChance.2.1 10 = .ok (.aload_n 0, 1) := by decide +kernel
theorem zd_H_crewChance_11 : decode I_H_crewChance.2.1 11 = .ok (.getfield 19, 3) := by decide +kernel
theorem zd_H_crewChance_14 : decode I_H_crewChance.2.1 14 = .ok (.invokevirtual 92, 3) := by decide +kernel
theorem zd_H_crewChance_17 : decode I_H_crewChance.2.1 17 = .ok (.if_icmp .ge 76, 3) := by decide +kernel
theorem zd_H_crewChance_20 : decode I_H_crewChance.2.1 20 = .ok (.aload_n 0, 1) := by decide +kernel
theorem zd_H_crewChance_21 : decode I_H_crewChance.2.1 21 = .ok (.getfield 19, 3) := by decide +kernel
theorem zd_H_crewChance_24 : decode I_H_crewChance.2.1 24 = .ok (.iload_n 3, 1) := by decide +kernel
theorem zd_H_crewChance_25 : decode I_H_crewChance.2.1 25 = .ok (.invokevirtual 134, 3) := by decide +kernel
theorem zd_H_crewChance_28 : decode I_H_crewChance.2.1 28 = .ok (.checkcast 95, 3) := by decide +kernel
theorem zd_H_crewChance_31 : decode I_H_crewChance.2.1 31 = .ok (.astore 4, 2) := by decide +kernel
theorem zd_H_crewChance_33 : decode I_H_crewChance.2.1 33 = .ok (.aload 4, 2) := by decide +kernel
theorem zd_H_crewChance_35 : decode I_H_crewChance.2.1 35 = .ok (.getfield 138, 3) := by decide +kernel
theorem zd_H_crewChance_38 : decode I_H_crewChance.2.1 38 = .ok (.iload_n 1, 1) := by decide +kernel
theorem zd_H_crewChance_39 : decode I_H_crewChance.2.1 39 = .ok (.if_icmp .ne 48, 3) := by decide +kernel
theorem zd_H_crewChance_42 : decode I_H_crewChance.2.1 42 = .ok (.aload 4, 2) := by decide +kernel
theorem zd_H_crewChance_44 : decode I_H_crewChance.2.1 44 = .ok (.getfield 141, 3) := by decide +kernel
theorem zd_H_crewChance_47 : decode I_H_crewChance.2.1 47 = .ok (.bipush 7, 2) := by decide +kernel
theorem zd_H_crewChance_49 : decode I_H_crewChance.2.1 49 = .ok (.iand, 1) := by decide +kernel
theorem zd_H_crewChance_50 : decode I_H_crewChance.2.1 50 = .ok (.ifCond .ne 6, 3) := by decide +kernel
theorem zd_H_crewChance_53 : decode I_H_crewChance.2.1 53 = .ok (.goto 34, 3) := by decide +kernel
theorem zd_H_crewChance_56 : decode I_H_crewChance.2.1 56 = .ok (.aload 4, 2) := by decide +kernel
theorem zd_H_crewChance_58 : decode I_H_crewChance.2.1 58 = .ok (.iload_n 2, 1) := by decide +kernel
theorem zd_H_crewChance_59 : decode I_H_crewChance.2.1 59 = .ok (.aload_n 0, 1) := by decide +kernel
theorem zd_H_crewChance_60 : decode I_H_crewChance.2.1 60 = .ok (.getfield 70, 3) := by decide +kernel
theorem zd_H_crewChance_63 : decode I_H_crewChance.2.1 63 = .ok (.invokevirtual 123, 3) := by decide +kernel
theorem zd_H_crewChance_66 : decode I_H_crewChance.2.1 66 = .ok (.istore 5, 2) := by decide +kernel
theorem zd_H_crewChance_68 : decode I_H_crewChance.2.1 68 = .ok (.iload 5, 2) := by decide +kernel
theorem zd_H_crewChance_70 : decode I_H_crewChance.2.1 70 = .ok (.ifCond .le 17, 3) := by decide +kernel
theorem zd_H_crewChance_73 : decode I_H_crewChance.2.1 73 = .ok (.aload_n 0, 1) := by decide +kernel
theorem zd_H_crewChance_74 : decode I_H_crewChance.2.1 74 = .ok (.getfield 42, 3) := by decide +kernel
theorem zd_H_crewChance_77 : decode I_H_crewChance.2.1 77 = .ok (.aload 4, 2) := by decide +kernel
theorem zd_H_crewChance_79 : decode I_H_crewChance.2.1 79 = .ok (.getfield 141, 3) := by decide +kernel
theorem zd_H_crewChance_82 : decode I_H_crewChance.2.1 82 = .ok (.iload 5, 2) := by decide +kernel
theorem zd_H_crewChance_84 : decode I_H_crewChance.2.1 84 = .ok (.invokevirtual 144, 3) := by decide +kernel
theorem zd_H_crewChance_87 : decode I_H_crewChance.2.1 87 = .ok (.iinc 3 1, 3) := by decide +kernel
theorem zd_H_crewChance_90 : decode I_H_crewChance.2.1 90 = .ok (.goto (-81), 3) := by decide +kernel
theorem zd_H_crewChance_93 : decode I_H_crewChance.2.1 93 = .ok (.aload_n 0, 1) := by decide +kernel
theorem zd_H_crewChance_94 : decode I_H_crewChance.2.1 94 = .ok (.getfield 42, 3) := by decide +kernel
theorem zd_H_crewChance_97 : decode I_H_crewChance.2.1 97 = .ok (.aload_n 0, 1) := by decide +kernel
theorem zd_H_crewChance_98 : decode I_H_crewChance.2.1 98 = .ok (.getfield 74, 3) := by decide +kernel
theorem zd_H_crewChance_101 : decode I_H_crewChance.2.1 101 = .ok (.invokevirtual 148, 3) := by decide +kernel
theorem zd_H_crewChance_104 : decode I_H_crewChance.2.1 104 = .ok (.ireturn, 1) := by decide +kernel
theorem zd_R_clear_0 : decode I_R_clear.2.1 0 = .ok (.aload_n 0, 1) := by decide +kernel
theorem zd_R_clear_1 : decode I_R_clear.2.1 1 = .ok (.getfield 11, 3) := by decide +kernel
theorem zd_R_clear_4 : decode I_R_clear.2.1 4 = .ok (.iconst 0, 1) := by decide +kernel
theorem zd_R_clear_5 : decode I_R_clear.2.1 5 = .ok (.invokestatic 19, 3) := by decide +kernel
theorem zd_R_clear_8 : decode I_R_clear.2.1 8 = .ok (.aload_n 0, 1) := by decide +kernel
theorem zd_R_clear_9 : decode I_R_clear.2.1 9 = .ok (.getfield 11, 3) := by decide +kernel
theorem zd_R_clear_12 : decode I_R_clear.2.1 12 = .ok (.iconst 0, 1) := by decide +kernel
theorem zd_R_clear_13 : decode I_R_clear.2.1 13 = .ok (.ldc 25, 2) := by decide +kernel
theorem zd_R_clear_15 : decode I_R_clear.2.1 15 = .ok (.iastore, 1) := by decide +kernel
theorem zd_R_clear_16 : decode I_R_clear.2.1 16 = .ok (.aload_n 0, 1) := by decide +kernel
theorem zd_R_clear_17 : decode I_R_clear.2.1 17 = .ok (.iconst 0, 1) := by decide +kernel
theorem zd_R_clear_18 : decode I_R_clear.2.1 18 = .ok (.putfield 15, 3) := by decide +kernel
theorem zd_R_clear_21 : decode I_R_clear.2.1 21 = .ok (.return_, 1) := by decide +kernel
theorem zd_R_mayCome_0 : decode I_R_mayCome.2.1 0 = .ok (.aload_n 0, 1) := by decide +kernel
theorem zd_R_mayCome_1 : decode I_R_mayCome.2.1 1 = .ok (.getfield 15, 3) := by decide +kernel
theorem zd_R_mayCome_4 : decode I_R_mayCome.2.1 4 = .ok (.istore_n 3, 1) := by decide +kernel
theorem zd_R_mayCome_5 : decode I_R_mayCome.2.1 5 = .ok (.iload_n 3, 1) := by decide +kernel
theorem zd_R_mayCome_6 : decode I_R_mayCome.2.1 6 = .ok (.ifCond .lt 61, 3) := by decide +kernel
theorem zd_R_mayCome_9 : decode I_R_mayCome.2.1 9 = .ok (.aload_n 0, 1) := by decide +kernel
theorem zd_R_mayCome_10 : decode I_R_mayCome.2.1 10 = .ok (.getfield 11, 3) := by decide +kernel
theorem zd_R_mayCome_13 : decode I_R_mayCome.2.1 13 = .ok (.iload_n 3, 1) := by decide +kernel
theorem zd_R_mayCome_14 : decode I_R_mayCome.2.1 14 = .ok (.iaload, 1) := by decide +kernel
theorem zd_R_mayCome_15 : decode I_R_mayCome.2.1 15 = .ok (.istore 4, 2) := by decide +kernel
theorem zd_R_mayCome_17 : decode I_R_mayCome.2.1 17 = .ok (.iload 4, 2) := by decide +kernel
theorem zd_R_mayCome_19 : decode I_R_mayCome.2.1 19 = .ok (.ifCond .ne 6, 3) := by decide +kernel
theorem zd_R_mayCome_22 : decode I_R_mayCome.2.1 22 = .ok (.goto 39, 3) := by decide +kernel
theorem zd_R_mayCome_25 : decode I_R_mayCome.2.1 25 = .ok (.iload 4, 2) := by decide +kernel
theorem zd_R_mayCome_27 : decode I_R_mayCome.2.1 27 = .ok (.iload_n 2, 1) := by decide +kernel
theorem zd_R_mayCome_28 : decode I_R_mayCome.2.1 28 = .ok (.imul, 1) := by decide +kernel
theorem zd_R_mayCome_29 : decode I_R_mayCome.2.1 29 = .ok (.sipush 1024, 3) := by decide +kernel
theorem zd_R_mayCome_32 : decode I_R_mayCome.2.1 32 = .ok (.idiv, 1) := by decide +kernel
theorem zd_R_mayCome_33 : decode I_R_mayCome.2.1 33 = .ok (.istore 5, 2) := by decide +kernel
theorem zd_R_mayCome_35 : decode I_R_mayCome.2.1 35 = .ok (.aload_n 0, 1) := by decide +kernel
theorem zd_R_mayCome_36 : decode I_R_mayCome.2.1 36 = .ok (.getfield 11, 3) := by decide +kernel
theorem zd_R_mayCome_39 : decode I_R_mayCome.2.1 39 = .ok (.iload_n 3, 1) := by decide +kernel
theorem zd_R_mayCome_40 : decode I_R_mayCome.2.1 40 = .ok (.iload 4, 2) := by decide +kernel
theorem zd_R_mayCome_42 : decode I_R_mayCome.2.1 42 = .ok (.iload 5, 2) := by decide +kernel
theorem zd_R_mayCome_44 : decode I_R_mayCome.2.1 44 = .ok (.isub, 1) := by decide +kernel
theorem zd_R_mayCome_45 : decode I_R_mayCome.2.1 45 = .ok (.iastore, 1) := by decide +kernel
theorem zd_R_mayCome_46 : decode I_R_mayCome.2.1 46 = .ok (.aload_n 0, 1) := by decide +kernel
theorem zd_R_mayCome_47 : decode I_R_mayCome.2.1 47 = .ok (.getfield 11, 3) := by decide +kernel
theorem zd_R_mayCome_50 : decode I_R_mayCome.2.1 50 = .ok (.iload_n 3, 1) := by decide +kernel
theorem zd_R_mayCome_51 : decode I_R_mayCome.2.1 51 = .ok (.iload_n 1, 1) := by decide +kernel
theorem zd_R_mayCome_52 : decode I_R_mayCome.2.1 52 = .ok (.invokestatic 26, 3) := by decide +kernel
theorem zd_R_mayCome_55 : decode I_R_mayCome.2.1 55 = .ok (.dup2, 1) := by decide +kernel
theorem zd_R_mayCome_56 : decode I_R_mayCome.2.1 56 = .ok (.iaload, 1) := by decide +kernel
theorem zd_R_mayCome_57 : decode I_R_mayCome.2.1 57 = .ok (.iload 5, 2) := by decide +kernel
theorem zd_R_mayCome_59 : decode I_R_mayCome.2.1 59 = .ok (.iadd, 1) := by decide +kernel
theorem zd_R_mayCome_60 : decode I_R_mayCome.2.1 60 = .ok (.iastore, 1) := by decide +kernel
theorem zd_R_mayCome_61 : decode I_R_mayCome.2.1 61 = .ok (.iinc 3 (-1), 3) := by decide +kernel
theorem zd_R_mayCome_64 : decode I_R_mayCome.2.1 64 = .ok (.goto (-59), 3) := by decide +kernel
theorem zd_R_mayCome_67 : decode I_R_mayCome.2.1 67 = .ok (.aload_n 0, 1) := by decide +kernel
theorem zd_R_mayCome_68 : decode I_R_mayCome.2.1 68 = .ok (.aload_n 0, 1) := by decide +kernel
theorem zd_R_mayCome_69 : decode I_R_mayCome.2.1 69 = .ok (.getfield 15, 3) := by decide +kernel
theorem zd_R_mayCome_72 : decode I_R_mayCome.2.1 72 = .ok (.iload_n 1, 1) := by decide +kernel
theorem zd_R_mayCome_73 : decode I_R_mayCome.2.1 73 = .ok (.invokestatic 26, 3) := by decide +kernel
theorem zd_R_mayCome_76 : decode I_R_mayCome.2.1 76 = .ok (.putfield 15, 3) := by decide +kernel
theorem zd_R_mayCome_79 : decode I_R_mayCome.2.1 79 = .ok (.return_, 1) := by decide +kernel
theorem zd_R_rowWith_0 : decode I_R_rowWith.2.1 0 = .ok (.iload_n 1, 1) := by decide +kernel
theorem zd_R_rowWith_1 : decode I_R_rowWith.2.1 1 = .ok (.bipush 8, 2) := by decide +kernel
theorem zd_R_rowWith_3 : decode I_R_rowWith.2.1 3 = .ok (.iand, 1) := by decide +kernel
theorem zd_R_rowWith_4 : decode I_R_rowWith.2.1 4 = .ok (.ifCond .eq 12, 3) := by decide +kernel
theorem zd_R_rowWith_7 : decode I_R_rowWith.2.1 7 = .ok (.iload_n 0, 1) := by decide +kernel
theorem zd_R_rowWith_8 : decode I_R_rowWith.2.1 8 = .ok (.bipush 27, 2) := by decide +kernel
theorem zd_R_rowWith_10 : decode I_R_rowWith.2.1 10 = .ok (.bipush 6, 2) := by decide +kernel
theorem zd_R_rowWith_12 : decode I_R_rowWith.2.1 12 = .ok (.invokestatic 34, 3) := by decide +kernel
theorem zd_R_rowWith_15 : decode I_R_rowWith.2.1 15 = .ok (.ireturn, 1) := by decide +kernel
theorem zd_R_rowWith_16 : decode I_R_rowWith.2.1 16 = .ok (.iload_n 0, 1) := by decide +kernel
theorem zd_R_rowWith_17 : decode I_R_rowWith.2.1 17 = .ok (.sipush 189, 3) := by decide +kernel
theorem zd_R_rowWith_20 : decode I_R_rowWith.2.1 20 = .ok (.bipush 6, 2) := by decide +kernel
theorem zd_R_rowWith_22 : decode I_R_rowWith.2.1 22 = .ok (.invokestatic 34, 3) := by decide +kernel
theorem zd_R_rowWith_25 : decode I_R_rowWith.2.1 25 = .ok (.istore_n 2, 1) := by decide +kernel
theorem zd_R_rowWith_26 : decode I_R_rowWith.2.1 26 = .ok (.iload_n 1, 1) := by decide +kernel
theorem zd_R_rowWith_27 : decode I_R_rowWith.2.1 27 = .ok (.iconst 3, 1) := by decide +kernel
theorem zd_R_rowWith_28 : decode I_R_rowWith.2.1 28 = .ok (.iand, 1) := by decide +kernel
theorem zd_R_rowWith_29 : decode I_R_rowWith.2.1 29 = .ok (.tableswitch 49 1 3 #[27, 35, 42], 27) := by decide +kernel
theorem zd_R_rowWith_56 : decode I_R_rowWith.2.1 56 = .ok (.iload_n 2, 1) := by decide +kernel
theorem zd_R_rowWith_57 : decode I_R_rowWith.2.1 57 = .ok (.bipush 9, 2) := by decide +kernel
theorem zd_R_rowWith_59 : decode I_R_rowWith.2.1 59 = .ok (.iconst 2, 1) := by decide +kernel
theorem zd_R_rowWith_60 : decode I_R_rowWith.2.1 60 = .ok (.invokestatic 34, 3) := by decide +kernel
theorem zd_R_rowWith_63 : decode I_R_rowWith.2.1 63 = .ok (.ireturn, 1) := by decide +kernel
theorem zd_R_rowWith_64 : decode I_R_rowWith.2.1 64 = .ok (.iload_n 2, 1) := by decide +kernel
theorem zd_R_rowWith_65 : decode I_R_rowWith.2.1 65 = .ok (.iconst 3, 1) := by decide +kernel
theorem zd_R_rowWith_66 : decode I_R_rowWith.2.1 66 = .ok (.iconst 2, 1) := by decide +kernel
theorem zd_R_rowWith_67 : decode I_R_rowWith.2.1 67 = .ok (.invokestatic 34, 3) := by decide +kernel
theorem zd_R_rowWith_70 : decode I_R_rowWith.2.1 70 = .ok (.ireturn, 1) := by decide +kernel
theorem zd_R_rowWith_71 : decode I_R_rowWith.2.1 71 = .ok (.iload_n 2, 1) := by decide +kernel
theorem zd_R_rowWith_72 : decode I_R_rowWith.2.1 72 = .ok (.iconst 1, 1) := by decide +kernel
theorem zd_R_rowWith_73 : decode I_R_rowWith.2.1 73 = .ok (.iconst 2, 1) := by decide +kernel
theorem zd_R_rowWith_74 : decode I_R_rowWith.2.1 74 = .ok (.invokestatic 34, 3) := by decide +kernel
theorem zd_R_rowWith_77 : decode I_R_rowWith.2.1 77 = .ok (.ireturn, 1) := by decide +kernel
theorem zd_R_rowWith_78 : decode I_R_rowWith.2.1 78 = .ok (.iload_n 2, 1) := by decide +kernel
theorem zd_R_rowWith_79 : decode I_R_rowWith.2.1 79 = .ok (.ireturn, 1) := by decide +kernel
theorem zd_R_stepUp_0 : decode I_R_stepUp.2.1 0 = .ok (.iload_n 0, 1) := by decide +kernel
theorem zd_R_stepUp_1 : decode I_R_stepUp.2.1 1 = .ok (.iload_n 1, 1) := by decide +kernel
theorem zd_R_stepUp_2 : decode I_R_stepUp.2.1 2 = .ok (.idiv, 1) := by decide +kernel
theorem zd_R_stepUp_3 : decode I_R_stepUp.2.1 3 = .ok (.iload_n 2, 1) := by decide +kernel
theorem zd_R_stepUp_4 : decode I_R_stepUp.2.1 4 = .ok (.iconst 1, 1) := by decide +kernel
theorem zd_R_stepUp_5 : decode I_R_stepUp.2.1 5 = .ok (.iadd, 1) := by decide +kernel
theorem zd_R_stepUp_6 : decode I_R_stepUp.2.1 6 = .ok (.irem, 1) := by decide +kernel
theorem zd_R_stepUp_7 : decode I_R_stepUp.2.1 7 = .ok (.iload_n 2, 1) := by decide +kernel
theorem zd_R_stepUp_8 : decode I_R_stepUp.2.1 8 = .ok (.if_icmp .ge 9, 3) := by decide +kernel
theorem zd_R_stepUp_11 : decode I_R_stepUp.2.1 11 = .ok (.iload_n 0, 1) := by decide +kernel
theorem zd_R_stepUp_12 : decode I_R_stepUp.2.1 12 = .ok (.iload_n 1, 1) := by decide +kernel
theorem zd_R_stepUp_13 : decode I_R_stepUp.2.1 13 = .ok (.iadd, 1) := by decide +kernel
theorem zd_R_stepUp_14 : decode I_R_stepUp.2.1 14 = .ok (.goto 4, 3) := by decide +kernel
theorem zd_R_stepUp_17 : decode I_R_stepUp.2.1 17 = .ok (.iload_n 0, 1) := by decide +kernel
theorem zd_R_stepUp_18 : decode I_R_stepUp.2.1 18 = .ok (.ireturn, 1) := by decide +kernel
theorem zd_R_standing_0 : decode I_R_standing.2.1 0 = .ok (.iconst 0, 1) := by decide +kernel
theorem zd_R_standing_1 : decode I_R_standing.2.1 1 = .ok (.istore_n 2, 1) := by decide +kernel
theorem zd_R_standing_2 : decode I_R_standing.2.1 2 = .ok (.iconst 0, 1) := by decide +kernel
theorem zd_R_standing_3 : decode I_R_standing.2.1 3 = .ok (.istore_n 3, 1) := by decide +kernel
theorem zd_R_standing_4 : decode I_R_standing.2.1 4 = .ok (.iload_n 3, 1) := by decide +kernel
theorem zd_R_standing_5 : decode I_R_standing.2.1 5 = .ok (.aload_n 0, 1) := by decide +kernel
theorem zd_R_standing_6 : decode I_R_standing.2.1 6 = .ok (.getfield 15, 3) := by decide +kernel
theorem zd_R_standing_9 : decode I_R_standing.2.1 9 = .ok (.if_icmp .gt 35, 3) := by decide +kernel
theorem zd_R_standing_12 : decode I_R_standing.2.1 12 = .ok (.aload_n 0, 1) := by decide +kernel
theorem zd_R_standing_13 : decode I_R_standing.2.1 13 = .ok (.getfield 11, 3) := by decide +kernel
theorem zd_R_standing_16 : decode I_R_standing.2.1 16 = .ok (.iload_n 3, 1) := by decide +kernel
theorem zd_R_standing_17 : decode I_R_standing.2.1 17 = .ok (.iaload, 1) := by decide +kernel
theorem zd_R_standing_18 : decode I_R_standing.2.1 18 = .ok (.ifCond .eq 20, 3) := by decide +kernel
theorem zd_R_standing_21 : decode I_R_standing.2.1 21 = .ok (.iload_n 3, 1) := by decide +kernel
theorem zd_R_standing_22 : decode I_R_standing.2.1 22 = .ok (.iload_n 1, 1) := by decide +kernel
theorem zd_R_standing_23 : decode I_R_standing.2.1 23 = .ok (.invokestatic 30, 3) := by decide +kernel
theorem zd_R_standing_26 : decode I_R_standing.2.1 26 = .ok (.ifCond .eq 12, 3) := by decide +kernel
theorem zd_R_standing_29 : decode I_R_standing.2.1 29 = .ok (.iload_n 2, 1) := by decide +kernel
theorem zd_R_standing_30 : decode I_R_standing.2.1 30 = .ok (.aload_n 0, 1) := by decide +kernel
theorem zd_R_standing_31 : decode I_R_standing.2.1 31 = .ok (.getfield 11, 3) := by decide +kernel
theorem zd_R_standing_34 : decode I_R_standing.2.1 34 = .ok (.iload_n 3, 1) := by decide +kernel
theorem zd_R_standing_35 : decode I_R_standing.2.1 35 = .ok (.iaload, 1) := by decide +kernel
theorem zd_R_standing_36 : decode I_R_standing.2.1 36 = .ok (.iadd, 1) := by decide +kernel
theorem zd_R_standing_37 : decode I_R_standing.2.1 37 = .ok (.istore_n 2, 1) := by decide +kernel
theorem zd_R_standing_38 : decode I_R_standing.2.1 38 = .ok (.iinc 3 1, 3) := by decide +kernel
theorem zd_R_standing_41 : decode I_R_standing.2.1 41 = .ok (.goto (-37), 3) := by decide +kernel
theorem zd_R_standing_44 : decode I_R_standing.2.1 44 = .ok (.iload_n 2, 1) := by decide +kernel
theorem zd_R_standing_45 : decode I_R_standing.2.1 45 = .ok (.ireturn, 1) := by decide +kernel
theorem zd_R_stands_0 : decode I_R_stands.2.1 0 = .ok (.iload_n 0, 1) := by decide +kernel
theorem zd_R_stands_1 : decode I_R_stands.2.1 1 = .ok (.sipush 189, 3) := by decide +kernel
theorem zd_R_stands_4 : decode I_R_stands.2.1 4 = .ok (.idiv, 1) := by decide +kernel
theorem zd_R_stands_5 : decode I_R_stands.2.1 5 = .ok (.istore_n 2, 1) := by decide +kernel
theorem zd_R_stands_6 : decode I_R_stands.2.1 6 = .ok (.iload_n 0, 1) := by decide +kernel
theorem zd_R_stands_7 : decode I_R_stands.2.1 7 = .ok (.bipush 27, 2) := by decide +kernel
theorem zd_R_stands_9 : decode I_R_stands.2.1 9 = .ok (.idiv, 1) := by decide +kernel
theorem zd_R_stands_10 : decode I_R_stands.2.1 10 = .ok (.bipush 7, 2) := by decide +kernel
theorem zd_R_stands_12 : decode I_R_stands.2.1 12 = .ok (.irem, 1) := by decide +kernel
theorem zd_R_stands_13 : decode I_R_stands.2.1 13 = .ok (.istore_n 3, 1) := by decide +kernel
theorem zd_R_stands_14 : decode I_R_stands.2.1 14 = .ok (.iload_n 0, 1) := by decide +kernel
theorem zd_R_stands_15 : decode I_R_stands.2.1 15 = .ok (.bipush 9, 2) := by decide +kernel
theorem zd_R_stands_17 : decode I_R_stands.2.1 17 = .ok (.idiv, 1) := by decide +kernel
theorem zd_R_stands_18 : decode I_R_stands.2.1 18 = .ok (.iconst 3, 1) := by decide +kernel
theorem zd_R_stands_19 : decode I_R_stands.2.1 19 = .ok (.irem, 1) := by decide +kernel
theorem zd_R_stands_20 : decode I_R_stands.2.1 20 = .ok (.istore 4, 2) := by decide +kernel
theorem zd_R_stands_22 : decode I_R_stands.2.1 22 = .ok (.iload_n 0, 1) := by decide +kernel
theorem zd_R_stands_23 : decode I_R_stands.2.1 23 = .ok (.iconst 3, 1) := by decide +kernel
theorem zd_R_stands_24 : decode I_R_stands.2.1 24 = .ok (.idiv, 1) := by decide +kernel
theorem zd_R_stands_25 : decode I_R_stands.2.1 25 = .ok (.iconst 3, 1) := by decide +kernel
theorem zd_R_stands_26 : decode I_R_stands.2.1 26 = .ok (.irem, 1) := by decide +kernel
theorem zd_R_stands_27 : decode I_R_stands.2.1 27 = .ok (.istore 5, 2) := by decide +kernel
theorem zd_R_stands_29 : decode I_R_stands.2.1 29 = .ok (.iload_n 0, 1) := by decide +kernel
theorem zd_R_stands_30 : decode I_R_stands.2.1 30 = .ok (.iconst 3, 1) := by decide +kernel
theorem zd_R_stands_31 : decode I_R_stands.2.1 31 = .ok (.irem, 1) := by decide +kernel
theorem zd_R_stands_32 : decode I_R_stands.2.1 32 = .ok (.istore 6, 2) := by decide +kernel
theorem zd_R_stands_34 : decode I_R_stands.2.1 34 = .ok (.iload_n 2, 1) := by decide +kernel
theorem zd_R_stands_35 : decode I_R_stands.2.1 35 = .ok (.iconst 2, 1) := by decide +kernel
theorem zd_R_stands_36 : decode I_R_stands.2.1 36 = .ok (.if_icmp .lt 9, 3) := by decide +kernel
theorem zd_R_stands_39 : decode I_R_stands.2.1 39 = .ok (.iload_n 2, 1) := by decide +kernel
theorem zd_R_stands_40 : decode I_R_stands.2.1 40 = .ok (.iload_n 3, 1) := by decide +kernel
theorem zd_R_stands_41 : decode I_R_stands.2.1 41 = .ok (.iadd, 1) := by decide +kernel
theorem zd_R_stands_42 : decode I_R_stands.2.1 42 = .ok (.goto 4, 3) := by decide +kernel
theorem zd_R_stands_45 : decode I_R_stands.2.1 45 = .ok (.iload_n 2, 1) := by decide +kernel
theorem zd_R_stands_46 : decode I_R_stands.2.1 46 = .ok (.istore 7, 2) := by decide +kernel
theorem zd_R_stands_48 : decode I_R_stands.2.1 48 = .ok (.iload 4, 2) := by decide +kernel
theorem zd_R_stands_50 : decode I_R_stands.2.1 50 = .ok (.iload 6, 2) := by decide +kernel
theorem zd_R_stands_52 : decode I_R_stands.2.1 52 = .ok (.iadd, 1) := by decide +kernel
theorem zd_R_stands_53 : decode I_R_stands.2.1 53 = .ok (.iconst 1, 1) := by decide +kernel
theorem zd_R_stands_54 : decode I_R_stands.2.1 54 = .ok (.if_icmp .lt 28, 3) := by decide +kernel
theorem zd_R_stands_57 : decode I_R_stands.2.1 57 = .ok (.iload 5, 2) := by decide +kernel
theorem zd_R_stands_59 : decode I_R_stands.2.1 59 = .ok (.iload 6, 2) := by decide +kernel
theorem zd_R_stands_61 : decode I_R_stands.2.1 61 = .ok (.iadd, 1) := by decide +kernel
theorem zd_R_stands_62 : decode I_R_stands.2.1 62 = .ok (.iconst 1, 1) := by decide +kernel
theorem zd_R_stands_63 : decode I_R_stands.2.1 63 = .ok (.if_icmp .lt 19, 3) := by decide +kernel
theorem zd_R_stands_66 : decode I_R_stands.2.1 66 = .ok (.iload 4, 2) := by decide +kernel
theorem zd_R_stands_68 : decode I_R_stands.2.1 68 = .ok (.iload 5, 2) := by decide +kernel
theorem zd_R_stands_70 : decode I_R_stands.2.1 70 = .ok (.iadd, 1) := by decide +kernel
theorem zd_R_stands_71 : decode I_R_stands.2.1 71 = .ok (.iload 6, 2) := by decide +kernel
theorem zd_R_stands_73 : decode I_R_stands.2.1 73 = .ok (.iadd, 1) := by decide +kernel
theorem zd_R_stands_74 : decode I_R_stands.2.1 74 = .ok (.iconst 2, 1) := by decide +kernel
theorem zd_R_stands_75 : decode I_R_stands.2.1 75 = .ok (.if_icmp .lt 7, 3) := by decide +kernel
theorem zd_R_stands_78 : decode I_R_stands.2.1 78 = .ok (.iconst 1, 1) := by decide +kernel
theorem zd_R_stands_79 : decode I_R_stands.2.1 79 = .ok (.goto 4, 3) := by decide +kernel
theorem zd_R_stands_82 : decode I_R_stands.2.1 82 = .ok (.iconst 0, 1) := by decide +kernel
theorem zd_R_stands_83 : decode I_R_stands.2.1 83 = .ok (.istore 8, 2) := by decide +kernel
theorem zd_R_stands_85 : decode I_R_stands.2.1 85 = .ok (.iload 8, 2) := by decide +kernel
theorem zd_R_stands_87 : decode I_R_stands.2.1 87 = .ok (.ifCond .eq 13, 3) := by decide +kernel
theorem zd_R_stands_90 : decode I_R_stands.2.1 90 = .ok (.iload 7, 2) := by decide +kernel
theorem zd_R_stands_92 : decode I_R_stands.2.1 92 = .ok (.iload_n 1, 1) := by decide +kernel
theorem zd_R_stands_93 : decode I_R_stands.2.1 93 = .ok (.if_icmp .lt 7, 3) := by decide +kernel
theorem zd_R_stands_96 : decode I_R_stands.2.1 96 = .ok (.iconst 1, 1) := by decide +kernel
theorem zd_R_stands_97 : decode I_R_stands.2.1 97 = .ok (.goto 4, 3) := by decide +kernel
theorem zd_R_stands_100 : decode I_R_stands.2.1 100 = .ok (.iconst 0, 1) := by decide +kernel
theorem zd_R_stands_101 : decode I_R_stands.2.1 101 = .ok (.ireturn, 1) := by decide +kernel
theorem zd_H_weak_0 : decode I_H_weak.2.1 0 = .ok (.iload_n 1, 1) := by decide +kernel
theorem zd_H_weak_1 : decode I_H_weak.2.1 1 = .ok (.invokestatic 80, 3) := by decide +kernel
theorem zd_H_weak_4 : decode I_H_weak.2.1 4 = .ok (.ifCond .ne 9, 3) := by decide +kernel
theorem zd_H_weak_7 : decode I_H_weak.2.1 7 = .ok (.aload_n 0, 1) := by decide +kernel
theorem zd_H_weak_8 : decode I_H_weak.2.1 8 = .ok (.iconst (-1), 1) := by decide +kernel
theorem zd_H_weak_9 : decode I_H_weak.2.1 9 = .ok (.invokevirtual 84, 3) := by decide +kernel
theorem zd_H_weak_12 : decode I_H_weak.2.1 12 = .ok (.ireturn, 1) := by decide +kernel
theorem zd_H_weak_13 : decode I_H_weak.2.1 13 = .ok (.iload_n 2, 1) := by decide +kernel
theorem zd_H_weak_14 : decode I_H_weak.2.1 14 = .ok (.iconst 0, 1) := by decide +kernel
theorem zd_H_weak_15 : decode I_H_weak.2.1 15 = .ok (.bipush 100, 2) := by decide +kernel
theorem zd_H_weak_17 : decode I_H_weak.2.1 17 = .ok (.invokestatic 88, 3) := by decide +kernel
theorem zd_H_weak_20 : decode I_H_weak.2.1 20 = .ok (.istore_n 3, 1) := by decide +kernel
theorem zd_H_weak_21 : decode I_H_weak.2.1 21 = .ok (.iload_n 3, 1) := by decide +kernel
theorem zd_H_weak_22 : decode I_H_weak.2.1 22 = .ok (.ifCond .eq 9, 3) := by decide +kernel
theorem zd_H_weak_25 : decode I_H_weak.2.1 25 = .ok (.aload_n 0, 1) := by decide +kernel
theorem zd_H_weak_26 : decode I_H_weak.2.1 26 = .ok (.iload_n 3, 1) := by decide +kernel
theorem zd_H_weak_27 : decode I_H_weak.2.1 27 = .ok (.invokevirtual 84, 3) := by decide +kernel
theorem zd_H_weak_30 : decode I_H_weak.2.1 30 = .ok (.ireturn, 1) := by decide +kernel
theorem zd_H_weak_31 : decode I_H_weak.2.1 31 = .ok (.ldc 130, 2) := by decide +kernel
theorem zd_H_weak_33 : decode I_H_weak.2.1 33 = .ok (.iload_n 2, 1) := by decide +kernel
theorem zd_H_weak_34 : decode I_H_weak.2.1 34 = .ok (.imul, 1) := by decide +kernel
theorem zd_H_weak_35 : decode I_H_weak.2.1 35 = .ok (.bipush 100, 2) := by decide +kernel
theorem zd_H_weak_37 : decode I_H_weak.2.1 37 = .ok (.idiv, 1) := by decide +kernel
theorem zd_H_weak_38 : decode I_H_weak.2.1 38 = .ok (.istore 4, 2) := by decide +kernel
theorem zd_H_weak_40 : decode I_H_weak.2.1 40 = .ok (.iconst 0, 1) := by decide +kernel
theorem zd_H_weak_41 : decode I_H_weak.2.1 41 = .ok (.istore 5, 2) := by decide +kernel
theorem zd_H_weak_43 : decode I_H_weak.2.1 43 = .ok (.iconst 0, 1) := by decide +kernel
theorem zd_H_weak_44 : decode I_H_weak.2.1 44 = .ok (.istore 6, 2) := by decide +kernel
theorem zd_H_weak_46 : decode I_H_weak.2.1 46 = .ok (.iload 6, 2) := by decide +kernel
theorem zd_H_weak_48 : decode I_H_weak.2.1 48 = .ok (.bipush 8, 2) := by decide +kernel
theorem zd_H_weak_50 : decode I_H_weak.2.1 50 = .ok (.if_icmp .ge 24, 3) := by decide +kernel
theorem zd_H_weak_53 : decode I_H_weak.2.1 53 = .ok (.aload_n 0, 1) := by decide +kernel
theorem zd_H_weak_54 : decode I_H_weak.2.1 54 = .ok (.iload_n 1, 1) := by decide +kernel
theorem zd_H_weak_55 : decode I_H_weak.2.1 55 = .ok (.iload 6, 2) := by decide +kernel
theorem zd_H_weak_57 : decode I_H_weak.2.1 57 = .ok (.invokevirtual 127, 3) := by decide +kernel
theorem zd_H_weak_60 : decode I_H_weak.2.1 60 = .ok (.iload 4, 2) := by decide +kernel
theorem zd_H_weak_62 : decode I_H_weak.2.1 62 = .ok (.if_icmp .ge 6, 3) := by decide +kernel
theorem zd_H_weak_65 : decode I_H_weak.2.1 65 = .ok (.iinc 5 1, 3) := by decide +kernel
theorem zd_H_weak_68 : decode I_H_weak.2.1 68 = .ok (.iinc 6 1, 3) := by decide +kernel
theorem zd_H_weak_71 : decode I_H_weak.2.1 71 = .ok (.goto (-25), 3) := by decide +kernel
theorem zd_H_weak_74 : decode I_H_weak.2.1 74 = .ok (.iload 5, 2) := by decide +kernel
theorem zd_H_weak_76 : decode I_H_weak.2.1 76 = .ok (.ireturn, 1) := by decide +kernel
theorem zd_H_tide_0 : decode I_H_tide.2.1 0 = .ok (.iload_n 1, 1) := by decide +kernel
theorem zd_H_tide_1 : decode I_H_tide.2.1 1 = .ok (.ifCond .lt 9, 3) := by decide +kernel
theorem zd_H_tide_4 : decode I_H_tide.2.1 4 = .ok (.iload_n 1, 1) := by decide +kernel
theorem zd_H_tide_5 : decode I_H_tide.2.1 5 = .ok (.bipush 25, 2) := by decide +kernel
theorem zd_H_tide_7 : decode I_H_tide.2.1 7 = .ok (.if_icmp .lt 9, 3) := by decide +kernel
theorem zd_H_tide_10 : decode I_H_tide.2.1 10 = .ok (.aload_n 0, 1) := by decide +kernel
theorem zd_H_tide_11 : decode I_H_tide.2.1 11 = .ok (.iconst (-1), 1) := by decide +kernel
theorem zd_H_tide_12 : decode I_H_tide.2.1 12 = .ok (.invokevirtual 84, 3) := by decide +kernel
theorem zd_H_tide_15 : decode I_H_tide.2.1 15 = .ok (.ireturn, 1) := by decide +kernel
theorem zd_H_tide_16 : decode I_H_tide.2.1 16 = .ok (.iload_n 2, 1) := by decide +kernel
theorem zd_H_tide_17 : decode I_H_tide.2.1 17 = .ok (.iconst (-1), 1) := by decide +kernel
theorem zd_H_tide_18 : decode I_H_tide.2.1 18 = .ok (.bipush 12, 2) := by decide +kernel
theorem zd_H_tide_20 : decode I_H_tide.2.1 20 = .ok (.invokestatic 88, 3) := by decide +kernel
theorem zd_H_tide_23 : decode I_H_tide.2.1 23 = .ok (.istore_n 3, 1) := by decide +kernel
theorem zd_H_tide_24 : decode I_H_tide.2.1 24 = .ok (.iload_n 3, 1) := by decide +kernel
theorem zd_H_tide_25 : decode I_H_tide.2.1 25 = .ok (.ifCond .eq 9, 3) := by decide +kernel
theorem zd_H_tide_28 : decode I_H_tide.2.1 28 = .ok (.aload_n 0, 1) := by decide +kernel
theorem zd_H_tide_29 : decode I_H_tide.2.1 29 = .ok (.iload_n 3, 1) := by decide +kernel
theorem zd_H_tide_30 : decode I_H_tide.2.1 30 = .ok (.invokevirtual 84, 3) := by decide +kernel
theorem zd_H_tide_33 : decode I_H_tide.2.1 33 = .ok (.ireturn, 1) := by decide +kernel
theorem zd_H_tide_34 : decode I_H_tide.2.1 34 = .ok (.aload_n 0, 1) := by decide +kernel
theorem zd_H_tide_35 : decode I_H_tide.2.1 35 = .ok (.getfield 35, 3) := by decide +kernel
theorem zd_H_tide_38 : decode I_H_tide.2.1 38 = .ok (.iload_n 1, 1) := by decide +kernel
theorem zd_H_tide_39 : decode I_H_tide.2.1 39 = .ok (.iload_n 2, 1) := by decide +kernel
theorem zd_H_tide_40 : decode I_H_tide.2.1 40 = .ok (.invokevirtual 151, 3) := by decide +kernel
theorem zd_H_tide_43 : decode I_H_tide.2.1 43 = .ok (.iconst 1, 1) := by decide +kernel
theorem zd_H_tide_44 : decode I_H_tide.2.1 44 = .ok (.ireturn, 1) := by decide +kernel
theorem zd_T_tell_0 : decode I_T_tell.2.1 0 = .ok (.aload_n 0, 1) := by decide +kernel
theorem zd_T_tell_1 : decode I_T_tell.2.1 1 = .ok (.getfield 9, 3) := by decide +kernel
theorem zd_T_tell_4 : decode I_T_tell.2.1 4 = .ok (.iload_n 1, 1) := by decide +kernel
theorem zd_T_tell_5 : decode I_T_tell.2.1 5 = .ok (.iload_n 2, 1) := by decide +kernel
theorem zd_T_tell_6 : decode I_T_tell.2.1 6 = .ok (.iastore, 1) := by decide +kernel
theorem zd_T_tell_7 : decode I_T_tell.2.1 7 = .ok (.iconst (-1), 1) := by decide +kernel
theorem zd_T_tell_8 : decode I_T_tell.2.1 8 = .ok (.istore_n 3, 1) := by decide +kernel
theorem zd_T_tell_9 : decode I_T_tell.2.1 9 = .ok (.iconst 0, 1) := by decide +kernel
theorem zd_T_tell_10 : decode I_T_tell.2.1 10 = .ok (.istore 4, 2) := by decide +kernel
theorem zd_T_tell_12 : decode I_T_tell.2.1 12 = .ok (.iload 4, 2) := by decide +kernel
theorem zd_T_tell_14 : decode I_T_tell.2.1 14 = .ok (.bipush 25, 2) := by decide +kernel
theorem zd_T_tell_16 : decode I_T_tell.2.1 16 = .ok (.if_icmp .ge 44, 3) := by decide +kernel
theorem zd_T_tell_19 : decode I_T_tell.2.1 19 = .ok (.aload_n 0, 1) := by decide +kernel
theorem zd_T_tell_20 : decode I_T_tell.2.1 20 = .ok (.getfield 9, 3) := by decide +kernel
theorem zd_T_tell_23 : decode I_T_tell.2.1 23 = .ok (.iload 4, 2) := by decide +kernel
theorem zd_T_tell_25 : decode I_T_tell.2.1 25 = .ok (.iaload, 1) := by decide +kernel
theorem zd_T_tell_26 : decode I_T_tell.2.1 26 = .ok (.iconst (-1), 1) := by decide +kernel
theorem zd_T_tell_27 : decode I_T_tell.2.1 27 = .ok (.if_icmp .eq 27, 3) := by decide +kernel
theorem zd_T_tell_30 : decode I_T_tell.2.1 30 = .ok (.iload_n 3, 1) := by decide +kernel
theorem zd_T_tell_31 : decode I_T_tell.2.1 31 = .ok (.iconst (-1), 1) := by decide +kernel
theorem zd_T_tell_32 : decode I_T_tell.2.1 32 = .ok (.if_icmp .eq 14, 3) := by decide +kernel
theorem zd_T_tell_35 : decode I_T_tell.2.1 35 = .ok (.aload_n 0, 1) := by decide +kernel
theorem zd_T_tell_36 : decode I_T_tell.2.1 36 = .ok (.getfield 9, 3) := by decide +kernel
theorem zd_T_tell_39 : decode I_T_tell.2.1 39 = .ok (.iload 4, 2) := by decide +kernel
theorem zd_T_tell_41 : decode I_T_tell.2.1 41 = .ok (.iaload, 1) := by decide +kernel
theorem zd_T_tell_42 : decode I_T_tell.2.1 42 = .ok (.iload_n 3, 1) := by decide +kernel
theorem zd_T_tell_43 : decode I_T_tell.2.1 43 = .ok (.if_icmp .ge 11, 3) := by decide +kernel
theorem zd_T_tell_46 : decode I_T_tell.2.1 46 = .ok (.aload_n 0, 1) := by decide +kernel
theorem zd_T_tell_47 : decode I_T_tell.2.1 47 = .ok (.getfield 9, 3) := by decide +kernel
theorem zd_T_tell_50 : decode I_T_tell.2.1 50 = .ok (.iload 4, 2) := by decide +kernel
theorem zd_T_tell_52 : decode I_T_tell.2.1 52 = .ok (.iaload, 1) := by decide +kernel
theorem zd_T_tell_53 : decode I_T_tell.2.1 53 = .ok (.istore_n 3, 1) := by decide +kernel
theorem zd_T_tell_54 : decode I_T_tell.2.1 54 = .ok (.iinc 4 1, 3) := by decide +kernel
theorem zd_T_tell_57 : decode I_T_tell.2.1 57 = .ok (.goto (-45), 3) := by decide +kernel
theorem zd_T_tell_60 : decode I_T_tell.2.1 60 = .ok (.aload_n 0, 1) := by decide +kernel
theorem zd_T_tell_61 : decode I_T_tell.2.1 61 = .ok (.iload_n 3, 1) := by decide +kernel
theorem zd_T_tell_62 : decode I_T_tell.2.1 62 = .ok (.iconst (-1), 1) := by decide +kernel
theorem zd_T_tell_63 : decode I_T_tell.2.1 63 = .ok (.if_icmp .ne 7, 3) := by decide +kernel
theorem zd_T_tell_66 : decode I_T_tell.2.1 66 = .ok (.iconst 0, 1) := by decide +kernel
theorem zd_T_tell_67 : decode I_T_tell.2.1 67 = .ok (.goto 4, 3) := by decide +kernel
theorem zd_T_tell_70 : decode I_T_tell.2.1 70 = .ok (.iload_n 3, 1) := by decide +kernel
theorem zd_T_tell_71 : decode I_T_tell.2.1 71 = .ok (.putfield 13, 3) := by decide +kernel
theorem zd_T_tell_74 : decode I_T_tell.2.1 74 = .ok (.return_, 1) := by decide +kernel
theorem zd_H_slip_0 : decode I_H_slip.2.1 0 = .ok (.iload_n 1, 1) := by decide +kernel
theorem zd_H_slip_1 : decode I_H_slip.2.1 1 = .ok (.invokestatic 80, 3) := by decide +kernel
theorem zd_H_slip_4 : decode I_H_slip.2.1 4 = .ok (.ifCond .ne 9, 3) := by decide +kernel
theorem zd_H_slip_7 : decode I_H_slip.2.1 7 = .ok (.aload_n 0, 1) := by decide +kernel
theorem zd_H_slip_8 : decode I_H_slip.2.1 8 = .ok (.iconst (-1), 1) := by decide +kernel
theorem zd_H_slip_9 : decode I_H_slip.2.1 9 = .ok (.invokevirtual 84, 3) := by decide +kernel
theorem zd_H_slip_12 : decode I_H_slip.2.1 12 = .ok (.ireturn, 1) := by decide +kernel
theorem zd_H_slip_13 : decode I_H_slip.2.1 13 = .ok (.iload_n 2, 1) := by decide +kernel
theorem zd_H_slip_14 : decode I_H_slip.2.1 14 = .ok (.iconst 0, 1) := by decide +kernel
theorem zd_H_slip_15 : decode I_H_slip.2.1 15 = .ok (.sipush 4000, 3) := by decide +kernel
theorem zd_H_slip_18 : decode I_H_slip.2.1 18 = .ok (.invokestatic 88, 3) := by decide +kernel
theorem zd_H_slip_21 : decode I_H_slip.2.1 21 = .ok (.istore_n 3, 1) := by decide +kernel
theorem zd_H_slip_22 : decode I_H_slip.2.1 22 = .ok (.iload_n 3, 1) := by decide +kernel
theorem zd_H_slip_23 : decode I_H_slip.2.1 23 = .ok (.ifCond .eq 9, 3) := by decide +kernel
theorem zd_H_slip_26 : decode I_H_slip.2.1 26 = .ok (.aload_n 0, 1) := by decide +kernel
theorem zd_H_slip_27 : decode I_H_slip.2.1 27 = .ok (.iload_n 3, 1) := by decide +kernel
theorem zd_H_slip_28 : decode I_H_slip.2.1 28 = .ok (.invokevirtual 84, 3) := by decide +kernel
theorem zd_H_slip_31 : decode I_H_slip.2.1 31 = .ok (.ireturn, 1) := by decide +kernel
theorem zd_H_slip_32 : decode I_H_slip.2.1 32 = .ok (.aload_n 0, 1) := by decide +kernel
theorem zd_H_slip_33 : decode I_H_slip.2.1 33 = .ok (.iload_n 1, 1) := by decide +kernel
theorem zd_H_slip_34 : decode I_H_slip.2.1 34 = .ok (.iload_n 2, 1) := by decide +kernel
theorem zd_H_slip_35 : decode I_H_slip.2.1 35 = .ok (.invokevirtual 154, 3) := by decide +kernel
theorem zd_H_slip_38 : decode I_H_slip.2.1 38 = .ok (.ifCond .eq 7, 3) := by decide +kernel
theorem zd_H_slip_41 : decode I_H_slip.2.1 41 = .ok (.iconst 1, 1) := by decide +kernel
theorem zd_H_slip_42 : decode I_H_slip.2.1 42 = .ok (.goto 4, 3) := by decide +kernel
theorem zd_H_slip_45 : decode I_H_slip.2.1 45 = .ok (.iconst 0, 1) := by decide +kernel
theorem zd_H_slip_46 : decode I_H_slip.2.1 46 = .ok (.ireturn, 1) := by decide +kernel
theorem zd_H_isOpen_0 : decode I_H_isOpen.2.1 0 = .ok (.aload_n 0, 1) := by decide +kernel
theorem zd_H_isOpen_1 : decode I_H_isOpen.2.1 1 = .ok (.getfield 35, 3) := by decide +kernel
theorem zd_H_isOpen_4 : decode I_H_isOpen.2.1 4 = .ok (.iload_n 2, 1) := by decide +kernel
theorem zd_H_isOpen_5 : decode I_H_isOpen.2.1 5 = .ok (.invokevirtual 159, 3) := by decide +kernel
theorem zd_H_isOpen_8 : decode I_H_isOpen.2.1 8 = .ok (.aload_n 0, 1) := by decide +kernel
theorem zd_H_isOpen_9 : decode I_H_isOpen.2.1 9 = .ok (.getfield 13, 3) := by decide +kernel
theorem zd_H_isOpen_12 : decode I_H_isOpen.2.1 12 = .ok (.iload_n 1, 1) := by decide +kernel
theorem zd_H_isOpen_13 : decode I_H_isOpen.2.1 13 = .ok (.iaload, 1) := by decide +kernel
theorem zd_H_isOpen_14 : decode I_H_isOpen.2.1 14 = .ok (.if_icmp .lt 7, 3) := by decide +kernel
theorem zd_H_isOpen_17 : decode I_H_isOpen.2.1 17 = .ok (.iconst 1, 1) := by decide +kernel
theorem zd_H_isOpen_18 : decode I_H_isOpen.2.1 18 = .ok (.goto 4, 3) := by decide +kernel
theorem zd_H_isOpen_21 : decode I_H_isOpen.2.1 21 = .ok (.iconst 0, 1) := by decide +kernel
theorem zd_H_isOpen_22 : decode I_H_isOpen.2.1 22 = .ok (.ireturn, 1) := by decide +kernel
theorem zd_T_feet_0 : decode I_T_feet.2.1 0 = .ok (.aload_n 0, 1) := by decide +kernel
theorem zd_T_feet_1 : decode I_T_feet.2.1 1 = .ok (.getfield 9, 3) := by decide +kernel
theorem zd_T_feet_4 : decode I_T_feet.2.1 4 = .ok (.iload_n 1, 1) := by decide +kernel
theorem zd_T_feet_5 : decode I_T_feet.2.1 5 = .ok (.bipush 25, 2) := by decide +kernel
theorem zd_T_feet_7 : decode I_T_feet.2.1 7 = .ok (.invokestatic 23, 3) := by decide +kernel
theorem zd_T_feet_10 : decode I_T_feet.2.1 10 = .ok (.iaload, 1) := by decide +kernel
theorem zd_T_feet_11 : decode I_T_feet.2.1 11 = .ok (.istore_n 2, 1) := by decide +kernel
theorem zd_T_feet_12 : decode I_T_feet.2.1 12 = .ok (.iload_n 2, 1) := by decide +kernel
theorem zd_T_feet_13 : decode I_T_feet.2.1 13 = .ok (.iconst (-1), 1) := by decide +kernel
theorem zd_T_feet_14 : decode I_T_feet.2.1 14 = .ok (.if_icmp .ne 10, 3) := by decide +kernel
theorem zd_T_feet_17 : decode I_T_feet.2.1 17 = .ok (.aload_n 0, 1) := by decide +kernel
theorem zd_T_feet_18 : decode I_T_feet.2.1 18 = .ok (.getfield 13, 3) := by decide +kernel
theorem zd_T_feet_21 : decode I_T_feet.2.1 21 = .ok (.goto 4, 3) := by decide +kernel
theorem zd_T_feet_24 : decode I_T_feet.2.1 24 = .ok (.iload_n 2, 1) := by decide +kernel
theorem zd_T_feet_25 : decode I_T_feet.2.1 25 = .ok (.ireturn, 1) := by decide +kernel
theorem zd_MA_floorMod_0 : decode I_MA_floorMod.2.1 0 = .ok (.iload_n 0, 1) := by decide +kernel
theorem zd_MA_floorMod_1 : decode I_MA_floorMod.2.1 1 = .ok (.iload_n 1, 1) := by decide +kernel
theorem zd_MA_floorMod_2 : decode I_MA_floorMod.2.1 2 = .ok (.irem, 1) := by decide +kernel
theorem zd_MA_floorMod_3 : decode I_MA_floorMod.2.1 3 = .ok (.istore_n 2, 1) := by decide +kernel
theorem zd_MA_floorMod_4 : decode I_MA_floorMod.2.1 4 = .ok (.iload_n 0, 1) := by decide +kernel
theorem zd_MA_floorMod_5 : decode I_MA_floorMod.2.1 5 = .ok (.iload_n 1, 1) := by decide +kernel
theorem zd_MA_floorMod_6 : decode I_MA_floorMod.2.1 6 = .ok (.ixor, 1) := by decide +kernel
theorem zd_MA_floorMod_7 : decode I_MA_floorMod.2.1 7 = .ok (.ifCond .ge 11, 3) := by decide +kernel
theorem zd_MA_floorMod_10 : decode I_MA_floorMod.2.1 10 = .ok (.iload_n 2, 1) := by decide +kernel
theorem zd_MA_floorMod_11 : decode I_MA_floorMod.2.1 11 = .ok (.ifCond .eq 7, 3) := by decide +kernel
theorem zd_MA_floorMod_14 : decode I_MA_floorMod.2.1 14 = .ok (.iload_n 2, 1) := by decide +kernel
theorem zd_MA_floorMod_15 : decode I_MA_floorMod.2.1 15 = .ok (.iload_n 1, 1) := by decide +kernel
theorem zd_MA_floorMod_16 : decode I_MA_floorMod.2.1 16 = .ok (.iadd, 1) := by decide +kernel
theorem zd_MA_floorMod_17 : decode I_MA_floorMod.2.1 17 = .ok (.ireturn, 1) := by decide +kernel
theorem zd_MA_floorMod_18 : decode I_MA_floorMod.2.1 18 = .ok (.iload_n 2, 1) := by decide +kernel
theorem zd_MA_floorMod_19 : decode I_MA_floorMod.2.1 19 = .ok (.ireturn, 1) := by decide +kernel
theorem zd_H_minutes_0 : decode I_H_minutes.2.1 0 = .ok (.iload_n 1, 1) := by decide +kernel
theorem zd_H_minutes_1 : decode I_H_minutes.2.1 1 = .ok (.iconst 1, 1) := by decide +kernel
theorem zd_H_minutes_2 : decode I_H_minutes.2.1 2 = .ok (.if_icmp .ge 10, 3) := by decide +kernel
theorem zd_H_minutes_5 : decode I_H_minutes.2.1 5 = .ok (.aload_n 0, 1) := by decide +kernel
theorem zd_H_minutes_6 : decode I_H_minutes.2.1 6 = .ok (.bipush (-4), 2) := by decide +kernel
theorem zd_H_minutes_8 : decode I_H_minutes.2.1 8 = .ok (.invokevirtual 84, 3) := by decide +kernel
theorem zd_H_minutes_11 : decode I_H_minutes.2.1 11 = .ok (.ireturn, 1) := by decide +kernel
theorem zd_H_minutes_12 : decode I_H_minutes.2.1 12 = .ok (.iload_n 1, 1) := by decide +kernel
theorem zd_H_minutes_13 : decode I_H_minutes.2.1 13 = .ok (.ldc 158, 2) := by decide +kernel
theorem zd_H_minutes_15 : decode I_H_minutes.2.1 15 = .ok (.aload_n 0, 1) := by decide +kernel
theorem zd_H_minutes_16 : decode I_H_minutes.2.1 16 = .ok (.getfield 70, 3) := by decide +kernel
theorem zd_H_minutes_19 : decode I_H_minutes.2.1 19 = .ok (.isub, 1) := by decide +kernel
theorem zd_H_minutes_20 : decode I_H_minutes.2.1 20 = .ok (.if_icmp .le 10, 3) := by decide +kernel
theorem zd_H_minutes_23 : decode I_H_minutes.2.1 23 = .ok (.aload_n 0, 1) := by decide +kernel
theorem zd_H_minutes_24 : decode I_H_minutes.2.1 24 = .ok (.bipush (-6), 2) := by decide +kernel
theorem zd_H_minutes_26 : decode I_H_minutes.2.1 26 = .ok (.invokevirtual 84, 3) := by decide +kernel
theorem zd_H_minutes_29 : decode I_H_minutes.2.1 29 = .ok (.ireturn, 1) := by decide +kernel
theorem zd_H_minutes_30 : decode I_H_minutes.2.1 30 = .ok (.aload_n 0, 1) := by decide +kernel
theorem zd_H_minutes_31 : decode I_H_minutes.2.1 31 = .ok (.dup, 1) := by decide +kernel
theorem zd_H_minutes_32 : decode I_H_minutes.2.1 32 = .ok (.getfield 70, 3) := by decide +kernel
theorem zd_H_minutes_35 : decode I_H_minutes.2.1 35 = .ok (.iload_n 1, 1) := by decide +kernel
theorem zd_H_minutes_36 : decode I_H_minutes.2.1 36 = .ok (.iadd, 1) := by decide +kernel
theorem zd_H_minutes_37 : decode I_H_minutes.2.1 37 = .ok (.putfield 70, 3) := by decide +kernel
theorem zd_H_minutes_40 : decode I_H_minutes.2.1 40 = .ok (.aload_n 0, 1) := by decide +kernel
theorem zd_H_minutes_41 : decode I_H_minutes.2.1 41 = .ok (.getfield 70, 3) := by decide +kernel
theorem zd_H_minutes_44 : decode I_H_minutes.2.1 44 = .ok (.ireturn, 1) := by decide +kernel
theorem zd_H_boat_0 : decode I_H_boat.2.1 0 = .ok (.iload_n 1, 1) := by decide +kernel
theorem zd_H_boat_1 : decode I_H_boat.2.1 1 = .ok (.invokestatic 80, 3) := by decide +kernel
theorem zd_H_boat_4 : decode I_H_boat.2.1 4 = .ok (.ifCond .ne 9, 3) := by decide +kernel
theorem zd_H_boat_7 : decode I_H_boat.2.1 7 = .ok (.aload_n 0, 1) := by decide +kernel
theorem zd_H_boat_8 : decode I_H_boat.2.1 8 = .ok (.iconst (-1), 1) := by decide +kernel
theorem zd_H_boat_9 : decode I_H_boat.2.1 9 = .ok (.invokevirtual 84, 3) := by decide +kernel
theorem zd_H_boat_12 : decode I_H_boat.2.1 12 = .ok (.ireturn, 1) := by decide +kernel
theorem zd_H_boat_13 : decode I_H_boat.2.1 13 = .ok (.iload_n 2, 1) := by decide +kernel
theorem zd_H_boat_14 : decode I_H_boat.2.1 14 = .ok (.iconst 1, 1) := by decide +kernel
theorem zd_H_boat_15 : decode I_H_boat.2.1 15 = .ok (.if_icmp .ge 10, 3) := by decide +kernel
theorem zd_H_boat_18 : decode I_H_boat.2.1 18 = .ok (.aload_n 0, 1) := by decide +kernel
theorem zd_H_boat_19 : decode I_H_boat.2.1 19 = .ok (.bipush (-4), 2) := by decide +kernel
theorem zd_H_boat_21 : decode I_H_boat.2.1 21 = .ok (.invokevirtual 84, 3) := by decide +kernel
theorem zd_H_boat_24 : decode I_H_boat.2.1 24 = .ok (.ireturn, 1) := by decide +kernel
theorem zd_H_boat_25 : decode I_H_boat.2.1 25 = .ok (.iload_n 2, 1) := by decide +kernel
theorem zd_H_boat_26 : decode I_H_boat.2.1 26 = .ok (.bipush 20, 2) := by decide +kernel
theorem zd_H_boat_28 : decode I_H_boat.2.1 28 = .ok (.if_icmp .gt 15, 3) := by decide +kernel
theorem zd_H_boat_31 : decode I_H_boat.2.1 31 = .ok (.aload_n 0, 1) := by decide +kernel
theorem zd_H_boat_32 : decode I_H_boat.2.1 32 = .ok (.getfield 23, 3) := by decide +kernel
theorem zd_H_boat_35 : decode I_H_boat.2.1 35 = .ok (.invokevirtual 92, 3) := by decide +kernel
theorem zd_H_boat_38 : decode I_H_boat.2.1 38 = .ok (.bipush 8, 2) := by decide +kernel
theorem zd_H_boat_40 : decode I_H_boat.2.1 40 = .ok (.if_icmp .lt 10, 3) := by decide +kernel
theorem zd_H_boat_43 : decode I_H_boat.2.1 43 = .ok (.aload_n 0, 1) := by decide +kernel
theorem zd_H_boat_44 : decode I_H_boat.2.1 44 = .ok (.bipush (-6), 2) := by decide +kernel
theorem zd_H_boat_46 : decode I_H_boat.2.1 46 = .ok (.invokevirtual 84, 3) := by decide +kernel
theorem zd_H_boat_49 : decode I_H_boat.2.1 49 = .ok (.ireturn, 1) := by decide +kernel
theorem zd_H_boat_50 : decode I_H_boat.2.1 50 = .ok (.aload_n 0, 1) := by decide +kernel
theorem zd_H_boat_51 : decode I_H_boat.2.1 51 = .ok (.getfield 23, 3) := by decide +kernel
theorem zd_H_boat_54 : decode I_H_boat.2.1 54 = .ok (.new 162, 3) := by decide +kernel
theorem zd_H_boat_57 : decode I_H_boat.2.1 57 = .ok (.dup, 1) := by decide +kernel
theorem zd_H_boat_58 : decode I_H_boat.2.1 58 = .ok (.iload_n 1, 1) := by decide +kernel
theorem zd_H_boat_59 : decode I_H_boat.2.1 59 = .ok (.iload_n 2, 1) := by decide +kernel
theorem zd_H_boat_60 : decode I_H_boat.2.1 60 = .ok (.invokespecial 164, 3) := by decide +kernel
theorem zd_H_boat_63 : decode I_H_boat.2.1 63 = .ok (.invokevirtual 100, 3) := by decide +kernel
theorem zd_H_boat_66 : decode I_H_boat.2.1 66 = .ok (.pop, 1) := by decide +kernel
theorem zd_H_boat_67 : decode I_H_boat.2.1 67 = .ok (.aload_n 0, 1) := by decide +kernel
theorem zd_H_boat_68 : decode I_H_boat.2.1 68 = .ok (.getfield 23, 3) := by decide +kernel
theorem zd_H_boat_71 : decode I_H_boat.2.1 71 = .ok (.invokevirtual 92, 3) := by decide +kernel
theorem zd_H_boat_74 : decode I_H_boat.2.1 74 = .ok (.iconst 1, 1) := by decide +kernel
theorem zd_H_boat_75 : decode I_H_boat.2.1 75 = .ok (.isub, 1) := by decide +kernel
theorem zd_H_boat_76 : decode I_H_boat.2.1 76 = .ok (.ireturn, 1) := by decide +kernel
theorem zd_B_init_0 : decode I_B_init.2.1 0 = .ok (.aload_n 0, 1) := by decide +kernel
theorem zd_B_init_1 : decode I_B_init.2.1 1 = .ok (.invokespecial 3, 3) := by decide +kernel
theorem zd_B_init_4 : decode I_B_init.2.1 4 = .ok (.aload_n 0, 1) := by decide +kernel
theorem zd_B_init_5 : decode I_B_init.2.1 5 = .ok (.iconst 5, 1) := by decide +kernel
theorem zd_B_init_6 : decode I_B_init.2.1 6 = .ok (.newarray .int, 2) := by decide +kernel
theorem zd_B_init_8 : decode I_B_init.2.1 8 = .ok (.putfield 9, 3) := by decide +kernel
theorem zd_B_init_11 : decode I_B_init.2.1 11 = .ok (.aload_n 0, 1) := by decide +kernel
theorem zd_B_init_12 : decode I_B_init.2.1 12 = .ok (.iconst 0, 1) := by decide +kernel
theorem zd_B_init_13 : decode I_B_init.2.1 13 = .ok (.putfield 15, 3) := by decide +kernel
theorem zd_B_init_16 : decode I_B_init.2.1 16 = .ok (.aload_n 0, 1) := by decide +kernel
theorem zd_B_init_17 : decode I_B_init.2.1 17 = .ok (.iload_n 1, 1) := by decide +kernel
theorem zd_B_init_18 : decode I_B_init.2.1 18 = .ok (.putfield 19, 3) := by decide +kernel
theorem zd_B_init_21 : decode I_B_init.2.1 21 = .ok (.aload_n 0, 1) := by decide +kernel
theorem zd_B_init_22 : decode I_B_init.2.1 22 = .ok (.iload_n 2, 1) := by decide +kernel
theorem zd_B_init_23 : decode I_B_init.2.1 23 = .ok (.putfield 22, 3) := by decide +kernel
theorem zd_B_init_26 : decode I_B_init.2.1 26 = .ok (.return_, 1) := by decide +kernel
theorem zd_H_speed_0 : decode I_H_speed.2.1 0 = .ok (.aload_n 0, 1) := by decide +kernel
theorem zd_H_speed_1 : decode I_H_speed.2.1 1 = .ok (.iload_n 1, 1) := by decide +kernel
theorem zd_H_speed_2 : decode I_H_speed.2.1 2 = .ok (.invokevirtual 166, 3) := by decide +kernel
theorem zd_H_speed_5 : decode I_H_speed.2.1 5 = .ok (.astore 4, 2) := by decide +kernel
theorem zd_H_speed_7 : decode I_H_speed.2.1 7 = .ok (.aload 4, 2) := by decide +kernel
theorem zd_H_speed_9 : decode I_H_speed.2.1 9 = .ok (.ifnull 10, 3) := by decide +kernel
theorem zd_H_speed_12 : decode I_H_speed.2.1 12 = .ok (.iload_n 2, 1) := by decide +kernel
theorem zd_H_speed_13 : decode I_H_speed.2.1 13 = .ok (.invokestatic 170, 3) := by decide +kernel
theorem zd_H_speed_16 : decode I_H_speed.2.1 16 = .ok (.ifCond .ne 9, 3) := by decide +kernel
theorem zd_H_speed_19 : decode I_H_speed.2.1 19 = .ok (.aload_n 0, 1) := by decide +kernel
theorem zd_H_speed_20 : decode I_H_speed.2.1 20 = .ok (.iconst (-1), 1) := by decide +kernel
theorem zd_H_speed_21 : decode I_H_speed.2.1 21 = .ok (.invokevirtual 84, 3) := by decide +kernel
theorem zd_H_speed_24 : decode I_H_speed.2.1 24 = .ok (.ireturn, 1) := by decide +kernel
theorem zd_H_speed_25 : decode I_H_speed.2.1 25 = .ok (.iload_n 3, 1) := by decide +kernel
theorem zd_H_speed_26 : decode I_H_speed.2.1 26 = .ok (.iconst 0, 1) := by decide +kernel
theorem zd_H_speed_27 : decode I_H_speed.2.1 27 = .ok (.bipush 30, 2) := by decide +kernel
theorem zd_H_speed_29 : decode I_H_speed.2.1 29 = .ok (.invokestatic 88, 3) := by decide +kernel
theorem zd_H_speed_32 : decode I_H_speed.2.1 32 = .ok (.istore 5, 2) := by decide +kernel
theorem zd_H_speed_34 : decode I_H_speed.2.1 34 = .ok (.iload 5, 2) := by decide +kernel
theorem zd_H_speed_36 : decode I_H_speed.2.1 36 = .ok (.ifCond .eq 10, 3) := by decide +kernel
theorem zd_H_speed_39 : decode I_H_speed.2.1 39 = .ok (.aload_n 0, 1) := by decide +kernel
theorem zd_H_speed_40 : decode I_H_speed.2.1 40 = .ok (.iload 5, 2) := by decide +kernel
theorem zd_H_speed_42 : decode I_H_speed.2.1 42 = .ok (.invokevirtual 84, 3) := by decide +kernel
theorem zd_H_speed_45 : decode I_H_speed.2.1 45 = .ok (.ireturn, 1) := by decide +kernel
theorem zd_H_speed_46 : decode I_H_speed.2.1 46 = .ok (.aload 4, 2) := by decide +kernel
theorem zd_H_speed_48 : decode I_H_speed.2.1 48 = .ok (.getfield 173, 3) := by decide +kernel
theorem zd_H_speed_51 : decode I_H_speed.2.1 51 = .ok (.iload_n 2, 1) := by decide +kernel
theorem zd_H_speed_52 : decode I_H_speed.2.1 52 = .ok (.iaload, 1) := by decide +kernel
theorem zd_H_speed_53 : decode I_H_speed.2.1 53 = .ok (.istore 6, 2) := by decide +kernel
theorem zd_H_speed_55 : decode I_H_speed.2.1 55 = .ok (.aload 4, 2) := by decide +kernel
theorem zd_H_speed_57 : decode I_H_speed.2.1 57 = .ok (.getfield 173, 3) := by decide +kernel
theorem zd_H_speed_60 : decode I_H_speed.2.1 60 = .ok (.iload_n 2, 1) := by decide +kernel
theorem zd_H_speed_61 : decode I_H_speed.2.1 61 = .ok (.iload_n 3, 1) := by decide +kernel
theorem zd_H_speed_62 : decode I_H_speed.2.1 62 = .ok (.iastore, 1) := by decide +kernel
theorem zd_H_speed_63 : decode I_H_speed.2.1 63 = .ok (.iload 6, 2) := by decide +kernel
theorem zd_H_speed_65 : decode I_H_speed.2.1 65 = .ok (.ireturn, 1) := by decide +kernel
theorem zd_H_boatAt_0 : decode I_H_boatAt.2.1 0 = .ok (.iload_n 1, 1) := by decide +kernel
theorem zd_H_boatAt_1 : decode I_H_boatAt.2.1 1 = .ok (.ifCond .lt 28, 3) := by decide +kernel
theorem zd_H_boatAt_4 : decode I_H_boatAt.2.1 4 = .ok (.iload_n 1, 1) := by decide +kernel
theorem zd_H_boatAt_5 : decode I_H_boatAt.2.1 5 = .ok (.aload_n 0, 1) := by decide +kernel
theorem zd_H_boatAt_6 : decode I_H_boatAt.2.1 6 = .ok (.getfield 23, 3) := by decide +kernel
theorem zd_H_boatAt_9 : decode I_H_boatAt.2.1 9 = .ok (.invokevirtual 92, 3) := by decide +kernel
theorem zd_H_boatAt_12 : decode I_H_boatAt.2.1 12 = .ok (.if_icmp .ge 17, 3) := by decide +kernel
theorem zd_H_boatAt_15 : decode I_H_boatAt.2.1 15 = .ok (.aload_n 0, 1) := by decide +kernel
theorem zd_H_boatAt_16 : decode I_H_boatAt.2.1 16 = .ok (.getfield 23, 3) := by decide +kernel
theorem zd_H_boatAt_19 : decode I_H_boatAt.2.1 19 = .ok (.iload_n 1, 1) := by decide +kernel
theorem zd_H_boatAt_20 : decode I_H_boatAt.2.1 20 = .ok (.invokevirtual 134, 3) := by decide +kernel
theorem zd_H_boatAt_23 : decode I_H_boatAt.2.1 23 = .ok (.checkcast 162, 3) := by decide +kernel
theorem zd_H_boatAt_26 : decode I_H_boatAt.2.1 26 = .ok (.goto 4, 3) := by decide +kernel
theorem zd_H_boatAt_29 : decode I_H_boatAt.2.1 29 = .ok (.aconst_null, 1) := by decide +kernel
theorem zd_H_boatAt_30 : decode I_H_boatAt.2.1 30 = .ok (.areturn, 1) := by decide +kernel
theorem zd_H_isSea_0 : decode I_H_isSea.2.1 0 = .ok (.iload_n 0, 1) := by decide +kernel
theorem zd_H_isSea_1 : decode I_H_isSea.2.1 1 = .ok (.ifCond .lt 12, 3) := by decide +kernel
theorem zd_H_isSea_4 : decode I_H_isSea.2.1 4 = .ok (.iload_n 0, 1) := by decide +kernel
theorem zd_H_isSea_5 : decode I_H_isSea.2.1 5 = .ok (.iconst 5, 1) := by decide +kernel
theorem zd_H_isSea_6 : decode I_H_isSea.2.1 6 = .ok (.if_icmp .ge 7, 3) := by decide +kernel
theorem zd_H_isSea_9 : decode I_H_isSea.2.1 9 = .ok (.iconst 1, 1) := by decide +kernel
theorem zd_H_isSea_10 : decode I_H_isSea.2.1 10 = .ok (.goto 4, 3) := by decide +kernel
theorem zd_H_isSea_13 : decode I_H_isSea.2.1 13 = .ok (.iconst 0, 1) := by decide +kernel
theorem zd_H_isSea_14 : decode I_H_isSea.2.1 14 = .ok (.ireturn, 1) := by decide +kernel
theorem zd_H_move_0 : decode I_H_move.2.1 0 = .ok (.aload_n 0, 1) := by decide +kernel
theorem zd_H_move_1 : decode I_H_move.2.1 1 = .ok (.iload_n 1, 1) := by decide +kernel
theorem zd_H_move_2 : decode I_H_move.2.1 2 = .ok (.invokevirtual 166, 3) := by decide +kernel
theorem zd_H_move_5 : decode I_H_move.2.1 5 = .ok (.astore_n 3, 1) := by decide +kernel
theorem zd_H_move_6 : decode I_H_move.2.1 6 = .ok (.aload_n 3, 1) := by decide +kernel
theorem zd_H_move_7 : decode I_H_move.2.1 7 = .ok (.ifnull 10, 3) := by decide +kernel
theorem zd_H_move_10 : decode I_H_move.2.1 10 = .ok (.iload_n 2, 1) := by decide +kernel
theorem zd_H_move_11 : decode I_H_move.2.1 11 = .ok (.invokestatic 80, 3) := by decide +kernel
theorem zd_H_move_14 : decode I_H_move.2.1 14 = .ok (.ifCond .ne 9, 3) := by decide +kernel
theorem zd_H_move_17 : decode I_H_move.2.1 17 = .ok (.aload_n 0, 1) := by decide +kernel
theorem zd_H_move_18 : decode I_H_move.2.1 18 = .ok (.iconst (-1), 1) := by decide +kernel
theorem zd_H_move_19 : decode I_H_move.2.1 19 = .ok (.invokevirtual 84, 3) := by decide +kernel
theorem zd_H_move_22 : decode I_H_move.2.1 22 = .ok (.ireturn, 1) := by decide +kernel
theorem zd_H_move_23 : decode I_H_move.2.1 23 = .ok (.aload_n 3, 1) := by decide +kernel
theorem zd_H_move_24 : decode I_H_move.2.1 24 = .ok (.aload_n 0, 1) := by decide +kernel
theorem zd_H_move_25 : decode I_H_move.2.1 25 = .ok (.getfield 70, 3) := by decide +kernel
theorem zd_H_move_28 : decode I_H_move.2.1 28 = .ok (.invokevirtual 176, 3) := by decide +kernel
theorem zd_H_move_31 : decode I_H_move.2.1 31 = .ok (.ifCond .eq 10, 3) := by decide +kernel
theorem zd_H_move_34 : decode I_H_move.2.1 34 = .ok (.aload_n 0, 1) := by decide +kernel
theorem zd_H_move_35 : decode I_H_move.2.1 35 = .ok (.bipush (-3), 2) := by decide +kernel
theorem zd_H_move_37 : decode I_H_move.2.1 37 = .ok (.invokevirtual 84, 3) := by decide +kernel
theorem zd_H_move_40 : decode I_H_move.2.1 40 = .ok (.ireturn, 1) := by decide +kernel
theorem zd_H_move_41 : decode I_H_move.2.1 41 = .ok (.aload_n 3, 1) := by decide +kernel
theorem zd_H_move_42 : decode I_H_move.2.1 42 = .ok (.getfield 179, 3) := by decide +kernel
theorem zd_H_move_45 : decode I_H_move.2.1 45 = .ok (.istore 4, 2) := by decide +kernel
theorem zd_H_move_47 : decode I_H_move.2.1 47 = .ok (.aload_n 3, 1) := by decide +kernel
theorem zd_H_move_48 : decode I_H_move.2.1 48 = .ok (.iload_n 2, 1) := by decide +kernel
theorem zd_H_move_49 : decode I_H_move.2.1 49 = .ok (.putfield 179, 3) := by decide +kernel
theorem zd_H_move_52 : decode I_H_move.2.1 52 = .ok (.iload 4, 2) := by decide +kernel
theorem zd_H_move_54 : decode I_H_move.2.1 54 = .ok (.ireturn, 1) := by decide +kernel
theorem zd_B_isAway_0 : decode I_B_isAway.2.1 0 = .ok (.iload_n 1, 1) := by decide +kernel
theorem zd_B_isAway_1 : decode I_B_isAway.2.1 1 = .ok (.aload_n 0, 1) := by decide +kernel
theorem zd_B_isAway_2 : decode I_B_isAway.2.1 2 = .ok (.getfield 15, 3) := by decide +kernel
theorem zd_B_isAway_5 : decode I_B_isAway.2.1 5 = .ok (.if_icmp .ge 7, 3) := by decide +kernel
theorem zd_B_isAway_8 : decode I_B_isAway.2.1 8 = .ok (.iconst 1, 1) := by decide +kernel
theorem zd_B_isAway_9 : decode I_B_isAway.2.1 9 = .ok (.goto 4, 3) := by decide +kernel
theorem zd_B_isAway_12 : decode I_B_isAway.2.1 12 = .ok (.iconst 0, 1) := by decide +kernel
theorem zd_B_isAway_13 : decode I_B_isAway.2.1 13 = .ok (.ireturn, 1) := by decide +kernel
theorem zd_H_call_0 : decode I_H_call.2.1 0 = .ok (.iload_n 3, 1) := by decide +kernel
theorem zd_H_call_1 : decode I_H_call.2.1 1 = .ok (.invokestatic 170, 3) := by decide +kernel
theorem zd_H_call_4 : decode I_H_call.2.1 4 = .ok (.ifCond .ne 9, 3) := by decide +kernel
theorem zd_H_call_7 : decode I_H_call.2.1 7 = .ok (.aload_n 0, 1) := by decide +kernel
theorem zd_H_call_8 : decode I_H_call.2.1 8 = .ok (.iconst (-1), 1) := by decide +kernel
theorem zd_H_call_9 : decode I_H_call.2.1 9 = .ok (.invokevirtual 84, 3) := by decide +kernel
theorem zd_H_call_12 : decode I_H_call.2.1 12 = .ok (.ireturn, 1) := by decide +kernel
theorem zd_H_call_13 : decode I_H_call.2.1 13 = .ok (.iload_n 1, 1) := by decide +kernel
theorem zd_H_call_14 : decode I_H_call.2.1 14 = .ok (.ifCond .lt 7, 3) := by decide +kernel
theorem zd_H_call_17 : decode I_H_call.2.1 17 = .ok (.iload_n 2, 1) := by decide +kernel
theorem zd_H_call_18 : decode I_H_call.2.1 18 = .ok (.ifCond .ge 10, 3) := by decide +kernel
theorem zd_H_call_21 : decode I_H_call.2.1 21 = .ok (.aload_n 0, 1) := by decide +kernel
theorem zd_H_call_22 : decode I_H_call.2.1 22 = .ok (.bipush (-4), 2) := by decide +kernel
theorem zd_H_call_24 : decode I_H_call.2.1 24 = .ok (.invokevirtual 84, 3) := by decide +kernel
theorem zd_H_call_27 : decode I_H_call.2.1 27 = .ok (.ireturn, 1) := by decide +kernel
theorem zd_H_call_28 : decode I_H_call.2.1 28 = .ok (.iload_n 1, 1) := by decide +kernel
theorem zd_H_call_29 : decode I_H_call.2.1 29 = .ok (.sipush 300, 3) := by decide +kernel
theorem zd_H_call_32 : decode I_H_call.2.1 32 = .ok (.if_icmp .gt 21, 3) := by decide +kernel
theorem zd_H_call_35 : decode I_H_call.2.1 35 = .ok (.iload_n 2, 1) := by decide +kernel
theorem zd_H_call_36 : decode I_H_call.2.1 36 = .ok (.bipush 60, 2) := by decide +kernel
theorem zd_H_call_38 : decode I_H_call.2.1 38 = .ok (.if_icmp .gt 15, 3) := by decide +kernel
theorem zd_H_call_41 : decode I_H_call.2.1 41 = .ok (.aload_n 0, 1) := by decide +kernel
theorem zd_H_call_42 : decode I_H_call.2.1 42 = .ok (.getfield 26, 3) := by decide +kernel
theorem zd_H_call_45 : decode I_H_call.2.1 45 = .ok (.invokevirtual 92, 3) := by decide +kernel
theorem zd_H_call_48 : decode I_H_call.2.1 48 = .ok (.bipush 20, 2) := by decide +kernel
theorem zd_H_call_50 : decode I_H_call.2.1 50 = .ok (.if_icmp .lt 10, 3) := by decide +kernel
theorem zd_H_call_53 : decode I_H_call.2.1 53 = .ok (.aload_n 0, 1) := by decide +kernel
theorem zd_H_call_54 : decode I_H_call.2.1 54 = .ok (.bipush (-6), 2) := by decide +kernel
theorem zd_H_call_56 : decode I_H_call.2.1 56 = .ok (.invokevirtual 84, 3) := by decide +kernel
theorem zd_H_call_59 : decode I_H_call.2.1 59 = .ok (.ireturn, 1) := by decide +kernel
theorem zd_H_call_60 : decode I_H_call.2.1 60 = .ok (.aload_n 0, 1) := by decide +kernel
theorem zd_H_call_61 : decode I_H_call.2.1 61 = .ok (.getfield 26, 3) := by decide +kernel
theorem zd_H_call_64 : decode I_H_call.2.1 64 = .ok (.new 180, 3) := by decide +kernel
theorem zd_H_call_67 : decode I_H_call.2.1 67 = .ok (.dup, 1) := by decide +kernel
theorem zd_H_call_68 : decode I_H_call.2.1 68 = .ok (.iload_n 1, 1) := by decide +kernel
theorem zd_H_call_69 : decode I_H_call.2.1 69 = .ok (.iload_n 2, 1) := by decide +kernel
theorem zd_H_call_70 : decode I_H_call.2.1 70 = .ok (.iload_n 3, 1) := by decide +kernel
theorem zd_H_call_71 : decode I_H_call.2.1 71 = .ok (.invokespecial 182, 3) := by decide +kernel
theorem zd_H_call_74 : decode I_H_call.2.1 74 = .ok (.invokevirtual 100, 3) := by decide +kernel
theorem zd_H_call_77 : decode I_H_call.2.1 77 = .ok (.pop, 1) := by decide +kernel
theorem zd_H_call_78 : decode I_H_call.2.1 78 = .ok (.aload_n 0, 1) := by decide +kernel
theorem zd_H_call_79 : decode I_H_call.2.1 79 = .ok (.getfield 26, 3) := by decide +kernel
theorem zd_H_call_82 : decode I_H_call.2.1 82 = .ok (.invokevirtual 92, 3) := by decide +kernel
theorem zd_H_call_85 : decode I_H_call.2.1 85 = .ok (.iconst 1, 1) := by decide +kernel
theorem zd_H_call_86 : decode I_H_call.2.1 86 = .ok (.isub, 1) := by decide +kernel
theorem zd_H_call_87 : decode I_H_call.2.1 87 = .ok (.ireturn, 1) := by decide +kernel
theorem zd_C_init_0 : decode I_C_init.2.1 0 = .ok (.aload_n 0, 1) := by decide +kernel
theorem zd_C_init_1 : decode I_C_init.2.1 1 = .ok (.invokespecial 1, 3) := by decide +kernel
theorem zd_C_init_4 : decode I_C_init.2.1 4 = .ok (.aload_n 0, 1) := by decide +kernel
theorem zd_C_init_5 : decode I_C_init.2.1 5 = .ok (.iload_n 1, 1) := by decide +kernel
theorem zd_C_init_6 : decode I_C_init.2.1 6 = .ok (.putfield 7, 3) := by decide +kernel
theorem zd_C_init_9 : decode I_C_init.2.1 9 = .ok (.aload_n 0, 1) := by decide +kernel
theorem zd_C_init_10 : decode I_C_init.2.1 10 = .ok (.iload_n 2, 1) := by decide +kernel
theorem zd_C_init_11 : decode I_C_init.2.1 11 = .ok (.putfield 13, 3) := by decide +kernel
theorem zd_C_init_14 : decode I_C_init.2.1 14 = .ok (.aload_n 0, 1) := by decide +kernel
theorem zd_C_init_15 : decode I_C_init.2.1 15 = .ok (.iload_n 3, 1) := by decide +kernel
theorem zd_C_init_16 : decode I_C_init.2.1 16 = .ok (.putfield 16, 3) := by decide +kernel
theorem zd_C_init_19 : decode I_C_init.2.1 19 = .ok (.return_, 1) := by decide +kernel
theorem zd_H_reach_0 : decode I_H_reach.2.1 0 = .ok (.aload_n 0, 1) := by decide +kernel
theorem zd_H_reach_1 : decode I_H_reach.2.1 1 = .ok (.iload_n 1, 1) := by decide +kernel
theorem zd_H_reach_2 : decode I_H_reach.2.1 2 = .ok (.invokevirtual 166, 3) := by decide +kernel
theorem zd_H_reach_5 : decode I_H_reach.2.1 5 = .ok (.astore 4, 2) := by decide +kernel
theorem zd_H_reach_7 : decode I_H_reach.2.1 7 = .ok (.aload_n 0, 1) := by decide +kernel
theorem zd_H_reach_8 : decode I_H_reach.2.1 8 = .ok (.iload_n 2, 1) := by decide +kernel
theorem zd_H_reach_9 : decode I_H_reach.2.1 9 = .ok (.invokevirtual 183, 3) := by decide +kernel
theorem zd_H_reach_12 : decode I_H_reach.2.1 12 = .ok (.astore 5, 2) := by decide +kernel
theorem zd_H_reach_14 : decode I_H_reach.2.1 14 = .ok (.aload 4, 2) := by decide +kernel
theorem zd_H_reach_16 : decode I_H_reach.2.1 16 = .ok (.ifnull 8, 3) := by decide +kernel
theorem zd_H_reach_19 : decode I_H_reach.2.1 19 = .ok (.aload 5, 2) := by decide +kernel
theorem zd_H_reach_21 : decode I_H_reach.2.1 21 = .ok (.ifnonnull 9, 3) := by decide +kernel
theorem zd_H_reach_24 : decode I_H_reach.2.1 24 = .ok (.aload_n 0, 1) := by decide +kernel
theorem zd_H_reach_25 : decode I_H_reach.2.1 25 = .ok (.iconst (-1), 1) := by decide +kernel
theorem zd_H_reach_26 : decode I_H_reach.2.1 26 = .ok (.invokevirtual 84, 3) := by decide +kernel
theorem zd_H_reach_29 : decode I_H_reach.2.1 29 = .ok (.ireturn, 1) := by decide +kernel
theorem zd_H_reach_30 : decode I_H_reach.2.1 30 = .ok (.iload_n 3, 1) := by decide +kernel
theorem zd_H_reach_31 : decode I_H_reach.2.1 31 = .ok (.ifCond .lt 8, 3) := by decide +kernel
theorem zd_H_reach_34 : decode I_H_reach.2.1 34 = .ok (.iload_n 3, 1) := by decide +kernel
theorem zd_H_reach_35 : decode I_H_reach.2.1 35 = .ok (.iconst 2, 1) := by decide +kernel
theorem zd_H_reach_36 : decode I_H_reach.2.1 36 = .ok (.if_icmp .le 10, 3) := by decide +kernel
theorem zd_H_reach_39 : decode I_H_reach.2.1 39 = .ok (.aload_n 0, 1) := by decide +kernel
theorem zd_H_reach_40 : decode I_H_reach.2.1 40 = .ok (.bipush (-2), 2) := by decide +kernel
theorem zd_H_reach_42 : decode I_H_reach.2.1 42 = .ok (.invokevirtual 84, 3) := by decide +kernel
theorem zd_H_reach_45 : decode I_H_reach.2.1 45 = .ok (.ireturn, 1) := by decide +kernel
theorem zd_H_reach_46 : decode I_H_reach.2.1 46 = .ok (.iload_n 3, 1) := by decide +kernel
theorem zd_H_reach_47 : decode I_H_reach.2.1 47 = .ok (.iconst 2, 1) := by decide +kernel
theorem zd_H_reach_48 : decode I_H_reach.2.1 48 = .ok (.if_icmp .ne 20, 3) := by decide +kernel
theorem zd_H_reach_51 : decode I_H_reach.2.1 51 = .ok (.aload_n 0, 1) := by decide +kernel
theorem zd_H_reach_52 : decode I_H_reach.2.1 52 = .ok (.aload 4, 2) := by decide +kernel
theorem zd_H_reach_54 : decode I_H_reach.2.1 54 = .ok (.aload 5, 2) := by decide +kernel
theorem zd_H_reach_56 : decode I_H_reach.2.1 56 = .ok (.invokevirtual 187, 3) := by decide +kernel
theorem zd_H_reach_59 : decode I_H_reach.2.1 59 = .ok (.ifCond .eq 7, 3) := by decide +kernel
theorem zd_H_reach_62 : decode I_H_reach.2.1 62 = .ok (.iconst 1, 1) := by decide +kernel
theorem zd_H_reach_63 : decode I_H_reach.2.1 63 = .ok (.goto 4, 3) := by decide +kernel
theorem zd_H_reach_66 : decode I_H_reach.2.1 66 = .ok (.iconst 0, 1) := by decide +kernel
theorem zd_H_reach_67 : decode I_H_reach.2.1 67 = .ok (.ireturn, 1) := by decide +kernel
theorem zd_H_reach_68 : decode I_H_reach.2.1 68 = .ok (.aload_n 0, 1) := by decide +kernel
theorem zd_H_reach_69 : decode I_H_reach.2.1 69 = .ok (.aload 4, 2) := by decide +kernel
theorem zd_H_reach_71 : decode I_H_reach.2.1 71 = .ok (.aload 5, 2) := by decide +kernel
theorem zd_H_reach_73 : decode I_H_reach.2.1 73 = .ok (.invokevirtual 187, 3) := by decide +kernel
theorem zd_H_reach_76 : decode I_H_reach.2.1 76 = .ok (.ifCond .ne 6, 3) := by decide +kernel
theorem zd_H_reach_79 : decode I_H_reach.2.1 79 = .ok (.bipush (-9), 2) := by decide +kernel
theorem zd_H_reach_81 : decode I_H_reach.2.1 81 = .ok (.ireturn, 1) := by decide +kernel
theorem zd_H_reach_82 : decode I_H_reach.2.1 82 = .ok (.iload_n 3, 1) := by decide +kernel
theorem zd_H_reach_83 : decode I_H_reach.2.1 83 = .ok (.ifCond .ne 12, 3) := by decide +kernel
theorem zd_H_reach_86 : decode I_H_reach.2.1 86 = .ok (.aload_n 0, 1) := by decide +kernel
theorem zd_H_reach_87 : decode I_H_reach.2.1 87 = .ok (.aload 4, 2) := by decide +kernel
theorem zd_H_reach_89 : decode I_H_reach.2.1 89 = .ok (.invokevirtual 191, 3) := by decide +kernel
theorem zd_H_reach_92 : decode I_H_reach.2.1 92 = .ok (.goto 11, 3) := by decide +kernel
theorem zd_H_reach_95 : decode I_H_reach.2.1 95 = .ok (.aload_n 0, 1) := by decide +kernel
theorem zd_H_reach_96 : decode I_H_reach.2.1 96 = .ok (.aload 4, 2) := by decide +kernel
theorem zd_H_reach_98 : decode I_H_reach.2.1 98 = .ok (.aload 5, 2) := by decide +kernel
theorem zd_H_reach_100 : decode I_H_reach.2.1 100 = .ok (.invokevirtual 195, 3) := by decide +kernel
theorem zd_H_reach_103 : decode I_H_reach.2.1 103 = .ok (.ireturn, 1) := by decide +kernel
theorem zd_H_callAt_0 : decode I_H_callAt.2.1 0 = .ok (.iload_n 1, 1) := by decide +kernel
theorem zd_H_callAt_1 : decode I_H_callAt.2.1 1 = .ok (.ifCond .lt 28, 3) := by decide +kernel
theorem zd_H_callAt_4 : decode I_H_callAt.2.1 4 = .ok (.iload_n 1, 1) := by decide +kernel
theorem zd_H_callAt_5 : decode I_H_callAt.2.1 5 = .ok (.aload_n 0, 1) := by decide +kernel
theorem zd_H_callAt_6 : decode I_H_callAt.2.1 6 = .ok (.getfield 26, 3) := by decide +kernel
theorem zd_H_callAt_9 : decode I_H_callAt.2.1 9 = .ok (.invokevirtual 92, 3) := by decide +kernel
theorem zd_H_callAt_12 : decode I_H_callAt.2.1 12 = .ok (.if_icmp .ge 17, 3) := by decide +kernel
theorem zd_H_callAt_15 : decode I_H_callAt.2.1 15 = .ok (.aload_n 0, 1) := by decide +kernel
theorem zd_H_callAt_16 : decode I_H_callAt.2.1 16 = .ok (.getfield 26, 3) := by decide +kernel
theorem zd_H_callAt_19 : decode I_H_callAt.2.1 19 = .ok (.iload_n 1, 1) := by decide +kernel
theorem zd_H_callAt_20 : decode I_H_callAt.2.1 20 = .ok (.invokevirtual 134, 3) := by decide +kernel
theorem zd_H_callAt_23 : decode I_H_callAt.2.1 23 = .ok (.checkcast 180, 3) := by decide +kernel
theorem zd_H_callAt_26 : decode I_H_callAt.2.1 26 = .ok (.goto 4, 3) := by decide +kernel
theorem zd_H_callAt_29 : decode I_H_callAt.2.1 29 = .ok (.aconst_null, 1) := by decide +kernel
theorem zd_H_callAt_30 : decode I_H_callAt.2.1 30 = .ok (.areturn, 1) := by decide +kernel
theorem zd_H_canGo_0 : decode I_H_canGo.2.1 0 = .ok (.aload_n 1, 1) := by decide +kernel
theorem zd_H_canGo_1 : decode I_H_canGo.2.1 1 = .ok (.getfield 173, 3) := by decide +kernel
theorem zd_H_canGo_4 : decode I_H_canGo.2.1 4 = .ok (.aload_n 2, 1) := by decide +kernel
theorem zd_H_canGo_5 : decode I_H_canGo.2.1 5 = .ok (.getfield 212, 3) := by decide +kernel
theorem zd_H_canGo_8 : decode I_H_canGo.2.1 8 = .ok (.iaload, 1) := by decide +kernel
theorem zd_H_canGo_9 : decode I_H_canGo.2.1 9 = .ok (.istore_n 3, 1) := by decide +kernel
theorem zd_H_canGo_10 : decode I_H_canGo.2.1 10 = .ok (.iload_n 3, 1) := by decide +kernel
theorem zd_H_canGo_11 : decode I_H_canGo.2.1 11 = .ok (.ifCond .le 26, 3) := by decide +kernel
theorem zd_H_canGo_14 : decode I_H_canGo.2.1 14 = .ok (.iconst 2, 1) := by decide +kernel
theorem zd_H_canGo_15 : decode I_H_canGo.2.1 15 = .ok (.aload_n 0, 1) := by decide +kernel
theorem zd_H_canGo_16 : decode I_H_canGo.2.1 16 = .ok (.aload_n 1, 1) := by decide +kernel
theorem zd_H_canGo_17 : decode I_H_canGo.2.1 17 = .ok (.aload_n 2, 1) := by decide +kernel
theorem zd_H_canGo_18 : decode I_H_canGo.2.1 18 = .ok (.invokevirtual 220, 3) := by decide +kernel
theorem zd_H_canGo_21 : decode I_H_canGo.2.1 21 = .ok (.imul, 1) := by decide +kernel
theorem zd_H_canGo_22 : decode I_H_canGo.2.1 22 = .ok (.iload_n 3, 1) := by decide +kernel
theorem zd_H_canGo_23 : decode I_H_canGo.2.1 23 = .ok (.invokestatic 223, 3) := by decide +kernel
theorem zd_H_canGo_26 : decode I_H_canGo.2.1 26 = .ok (.aload_n 1, 1) := by decide +kernel
theorem zd_H_canGo_27 : decode I_H_canGo.2.1 27 = .ok (.getfield 245, 3) := by decide +kernel
theorem zd_H_canGo_30 : decode I_H_canGo.2.1 30 = .ok (.if_icmp .gt 7, 3) := by decide +kernel
theorem zd_H_canGo_33 : decode I_H_canGo.2.1 33 = .ok (.iconst 1, 1) := by decide +kernel
theorem zd_H_canGo_34 : decode I_H_canGo.2.1 34 = .ok (.goto 4, 3) := by decide +kernel
theorem zd_H_canGo_37 : decode I_H_canGo.2.1 37 = .ok (.iconst 0, 1) := by decide +kernel
theorem zd_H_canGo_38 : decode I_H_canGo.2.1 38 = .ok (.ireturn, 1) := by decide +kernel
theorem zd_H_wayOf_0 : decode I_H_wayOf.2.1 0 = .ok (.aload_n 0, 1) := by decide +kernel
theorem zd_H_wayOf_1 : decode I_H_wayOf.2.1 1 = .ok (.getfield 9, 3) := by decide +kernel
theorem zd_H_wayOf_4 : decode I_H_wayOf.2.1 4 = .ok (.aload_n 1, 1) := by decide +kernel
theorem zd_H_wayOf_5 : decode I_H_wayOf.2.1 5 = .ok (.getfield 179, 3) := by decide +kernel
theorem zd_H_wayOf_8 : decode I_H_wayOf.2.1 8 = .ok (.iaload, 1) := by decide +kernel
theorem zd_H_wayOf_9 : decode I_H_wayOf.2.1 9 = .ok (.aload_n 2, 1) := by decide +kernel
theorem zd_H_wayOf_10 : decode I_H_wayOf.2.1 10 = .ok (.getfield 237, 3) := by decide +kernel
theorem zd_H_wayOf_13 : decode I_H_wayOf.2.1 13 = .ok (.isub, 1) := by decide +kernel
theorem zd_H_wayOf_14 : decode I_H_wayOf.2.1 14 = .ok (.invokestatic 239, 3) := by decide +kernel
theorem zd_H_wayOf_17 : decode I_H_wayOf.2.1 17 = .ok (.aload_n 2, 1) := by decide +kernel
theorem zd_H_wayOf_18 : decode I_H_wayOf.2.1 18 = .ok (.getfield 242, 3) := by decide +kernel
theorem zd_H_wayOf_21 : decode I_H_wayOf.2.1 21 = .ok (.iadd, 1) := by decide +kernel
theorem zd_H_wayOf_22 : decode I_H_wayOf.2.1 22 = .ok (.ireturn, 1) := by decide +kernel
theorem zd_MA_abs_0 : decode I_MA_abs.2.1 0 = .ok (.iload_n 0, 1) := by decide +kernel
theorem zd_MA_abs_1 : decode I_MA_abs.2.1 1 = .ok (.ifCond .ge 8, 3) := by decide +kernel
theorem zd_MA_abs_4 : decode I_MA_abs.2.1 4 = .ok (.iload_n 0, 1) := by decide +kernel
theorem zd_MA_abs_5 : decode I_MA_abs.2.1 5 = .ok (.ineg, 1) := by decide +kernel
theorem zd_MA_abs_6 : decode I_MA_abs.2.1 6 = .ok (.goto 4, 3) := by decide +kernel
theorem zd_MA_abs_9 : decode I_MA_abs.2.1 9 = .ok (.iload_n 0, 1) := by decide +kernel
theorem zd_MA_abs_10 : decode I_MA_abs.2.1 10 = .ok (.ireturn, 1) := by decide +kernel
theorem zd_H_cutUp_0 : decode I_H_cutUp.2.1 0 = .ok (.iload_n 1, 1) := by decide +kernel
theorem zd_H_cutUp_1 : decode I_H_cutUp.2.1 1 = .ok (.iconst 1, 1) := by decide +kernel
theorem zd_H_cutUp_2 : decode I_H_cutUp.2.1 2 = .ok (.if_icmp .ge 7, 3) := by decide +kernel
theorem zd_H_cutUp_5 : decode I_H_cutUp.2.1 5 = .ok (.iconst 0, 1) := by decide +kernel
theorem zd_H_cutUp_6 : decode I_H_cutUp.2.1 6 = .ok (.goto 10, 3) := by decide +kernel
theorem zd_H_cutUp_9 : decode I_H_cutUp.2.1 9 = .ok (.iload_n 0, 1) := by decide +kernel
theorem zd_H_cutUp_10 : decode I_H_cutUp.2.1 10 = .ok (.iload_n 1, 1) := by decide +kernel
theorem zd_H_cutUp_11 : decode I_H_cutUp.2.1 11 = .ok (.iadd, 1) := by decide +kernel
theorem zd_H_cutUp_12 : decode I_H_cutUp.2.1 12 = .ok (.iconst 1, 1) := by decide +kernel
theorem zd_H_cutUp_13 : decode I_H_cutUp.2.1 13 = .ok (.isub, 1) := by decide +kernel
theorem zd_H_cutUp_14 : decode I_H_cutUp.2.1 14 = .ok (.iload_n 1, 1) := by decide +kernel
theorem zd_H_cutUp_15 : decode I_H_cutUp.2.1 15 = .ok (.idiv, 1) := by decide +kernel
theorem zd_H_cutUp_16 : decode I_H_cutUp.2.1 16 = .ok (.ireturn, 1) := by decide +kernel
theorem zd_H_launchMinute_0 : decode I_H_launchMinute.2.1 0 = .ok (.aload_n 0, 1) := by decide +kernel
theorem zd_H_launchMinute_1 : decode I_H_launchMinute.2.1 1 = .ok (.getfield 70, 3) := by decide +kernel
theorem zd_H_launchMinute_4 : decode I_H_launchMinute.2.1 4 = .ok (.aload_n 1, 1) := by decide +kernel
theorem zd_H_launchMinute_5 : decode I_H_launchMinute.2.1 5 = .ok (.getfield 231, 3) := by decide +kernel
theorem zd_H_launchMinute_8 : decode I_H_launchMinute.2.1 8 = .ok (.invokestatic 215, 3) := by decide +kernel
theorem zd_H_launchMinute_11 : decode I_H_launchMinute.2.1 11 = .ok (.aload_n 0, 1) := by decide +kernel
theorem zd_H_launchMinute_12 : decode I_H_launchMinute.2.1 12 = .ok (.getfield 77, 3) := by decide +kernel
theorem zd_H_launchMinute_15 : decode I_H_launchMinute.2.1 15 = .ok (.iadd, 1) := by decide +kernel
theorem zd_H_launchMinute_16 : decode I_H_launchMinute.2.1 16 = .ok (.istore_n 2, 1) := by decide +kernel
theorem zd_H_launchMinute_17 : decode I_H_launchMinute.2.1 17 = .ok (.iload_n 2, 1) := by decide +kernel
theorem zd_H_launchMinute_18 : decode I_H_launchMinute.2.1 18 = .ok (.bipush 60, 2) := by decide +kernel
theorem zd_H_launchMinute_20 : decode I_H_launchMinute.2.1 20 = .ok (.idiv, 1) := by decide +kernel
theorem zd_H_launchMinute_21 : decode I_H_launchMinute.2.1 21 = .ok (.istore_n 3, 1) := by decide +kernel
theorem zd_H_launchMinute_22 : decode I_H_launchMinute.2.1 22 = .ok (.aload_n 0, 1) := by decide +kernel
theorem zd_H_launchMinute_23 : decode I_H_launchMinute.2.1 23 = .ok (.aload_n 1, 1) := by decide +kernel
theorem zd_H_launchMinute_24 : decode I_H_launchMinute.2.1 24 = .ok (.getfield 179, 3) := by decide +kernel
theorem zd_H_launchMinute_27 : decode I_H_launchMinute.2.1 27 = .ok (.iload_n 3, 1) := by decide +kernel
theorem zd_H_launchMinute_28 : decode I_H_launchMinute.2.1 28 = .ok (.invokevirtual 154, 3) := by decide +kernel
theorem zd_H_launchMinute_31 : decode I_H_launchMinute.2.1 31 = .ok (.ifCond .eq 5, 3) := by decide +kernel
theorem zd_H_launchMinute_34 : decode I_H_launchMinute.2.1 34 = .ok (.iload_n 2, 1) := by decide +kernel
theorem zd_H_launchMinute_35 : decode I_H_launchMinute.2.1 35 = .ok (.ireturn, 1) := by decide +kernel
theorem zd_H_launchMinute_36 : decode I_H_launchMinute.2.1 36 = .ok (.iconst 1, 1) := by decide +kernel
theorem zd_H_launchMinute_37 : decode I_H_launchMinute.2.1 37 = .ok (.istore 4, 2) := by decide +kernel
theorem zd_H_launchMinute_39 : decode I_H_launchMinute.2.1 39 = .ok (.iload 4, 2) := by decide +kernel
theorem zd_H_launchMinute_41 : decode I_H_launchMinute.2.1 41 = .ok (.bipush 48, 2) := by decide +kernel
theorem zd_H_launchMinute_43 : decode I_H_launchMinute.2.1 43 = .ok (.if_icmp .gt 32, 3) := by decide +kernel
theorem zd_H_launchMinute_46 : decode I_H_launchMinute.2.1 46 = .ok (.aload_n 0, 1) := by decide +kernel
theorem zd_H_launchMinute_47 : decode I_H_launchMinute.2.1 47 = .ok (.aload_n 1, 1) := by decide +kernel
theorem zd_H_launchMinute_48 : decode I_H_launchMinute.2.1 48 = .ok (.getfield 179, 3) := by decide +kernel
theorem zd_H_launchMinute_51 : decode I_H_launchMinute.2.1 51 = .ok (.iload_n 3, 1) := by decide +kernel
theorem zd_H_launchMinute_52 : decode I_H_launchMinute.2.1 52 = .ok (.iload 4, 2) := by decide +kernel
theorem zd_H_launchMinute_54 : decode I_H_launchMinute.2.1 54 = .ok (.iadd, 1) := by decide +kernel
theorem zd_H_launchMinute_55 : decode I_H_launchMinute.2.1 55 = .ok (.invokevirtual 154, 3) := by decide +kernel
theorem zd_H_launchMinute_58 : decode I_H_launchMinute.2.1 58 = .ok (.ifCond .eq 11, 3) := by decide +kernel
theorem zd_H_launchMinute_61 : decode I_H_launchMinute.2.1 61 = .ok (.iload_n 3, 1) := by decide +kernel
theorem zd_H_launchMinute_62 : decode I_H_launchMinute.2.1 62 = .ok (.iload 4, 2) := by decide +kernel
theorem zd_H_launchMinute_64 : decode I_H_launchMinute.2.1 64 = .ok (.iadd, 1) := by decide +kernel
theorem zd_H_launchMinute_65 : decode I_H_launchMinute.2.1 65 = .ok (.bipush 60, 2) := by decide +kernel
theorem zd_H_launchMinute_67 : decode I_H_launchMinute.2.1 67 = .ok (.imul, 1) := by decide +kernel
theorem zd_H_launchMinute_68 : decode I_H_launchMinute.2.1 68 = .ok (.ireturn, 1) := by decide +kernel
theorem zd_H_launchMinute_69 : decode I_H_launchMinute.2.1 69 = .ok (.iinc 4 1, 3) := by decide +kernel
theorem zd_H_launchMinute_72 : decode I_H_launchMinute.2.1 72 = .ok (.goto (-33), 3) := by decide +kernel
theorem zd_H_launchMinute_75 : decode I_H_launchMinute.2.1 75 = .ok (.bipush (-9), 2) := by decide +kernel
theorem zd_H_launchMinute_77 : decode I_H_launchMinute.2.1 77 = .ok (.ireturn, 1) := by decide +kernel
theorem zd_H_reachedMinute_0 : decode I_H_reachedMinute.2.1 0 = .ok (.aload_n 0, 1) := by decide +kernel
theorem zd_H_reachedMinute_1 : decode I_H_reachedMinute.2.1 1 = .ok (.aload_n 1, 1) := by decide +kernel
theorem zd_H_reachedMinute_2 : decode I_H_reachedMinute.2.1 2 = .ok (.aload_n 2, 1) := by decide +kernel
theorem zd_H_reachedMinute_3 : decode I_H_reachedMinute.2.1 3 = .ok (.invokevirtual 187, 3) := by decide +kernel
theorem zd_H_reachedMinute_6 : decode I_H_reachedMinute.2.1 6 = .ok (.ifCond .ne 6, 3) := by decide +kernel
theorem zd_H_reachedMinute_9 : decode I_H_reachedMinute.2.1 9 = .ok (.bipush (-9), 2) := by decide +kernel
theorem zd_H_reachedMinute_11 : decode I_H_reachedMinute.2.1 11 = .ok (.ireturn, 1) := by decide +kernel
theorem zd_H_reachedMinute_12 : decode I_H_reachedMinute.2.1 12 = .ok (.aload_n 0, 1) := by decide +kernel
theorem zd_H_reachedMinute_13 : decode I_H_reachedMinute.2.1 13 = .ok (.aload_n 1, 1) := by decide +kernel
theorem zd_H_reachedMinute_14 : decode I_H_reachedMinute.2.1 14 = .ok (.invokevirtual 191, 3) := by decide +kernel
theorem zd_H_reachedMinute_17 : decode I_H_reachedMinute.2.1 17 = .ok (.istore_n 3, 1) := by decide +kernel
theorem zd_H_reachedMinute_18 : decode I_H_reachedMinute.2.1 18 = .ok (.iload_n 3, 1) := by decide +kernel
theorem zd_H_reachedMinute_19 : decode I_H_reachedMinute.2.1 19 = .ok (.bipush (-9), 2) := by decide +kernel
theorem zd_H_reachedMinute_21 : decode I_H_reachedMinute.2.1 21 = .ok (.if_icmp .ne 6, 3) := by decide +kernel
theorem zd_H_reachedMinute_24 : decode I_H_reachedMinute.2.1 24 = .ok (.bipush (-9), 2) := by decide +kernel
theorem zd_H_reachedMinute_26 : decode I_H_reachedMinute.2.1 26 = .ok (.ireturn, 1) := by decide +kernel
theorem zd_H_reachedMinute_27 : decode I_H_reachedMinute.2.1 27 = .ok (.iload_n 3, 1) := by decide +kernel
theorem zd_H_reachedMinute_28 : decode I_H_reachedMinute.2.1 28 = .ok (.aload_n 0, 1) := by decide +kernel
theorem zd_H_reachedMinute_29 : decode I_H_reachedMinute.2.1 29 = .ok (.aload_n 1, 1) := by decide +kernel
theorem zd_H_reachedMinute_30 : decode I_H_reachedMinute.2.1 30 = .ok (.aload_n 2, 1) := by decide +kernel
theorem zd_H_reachedMinute_31 : decode I_H_reachedMinute.2.1 31 = .ok (.invokevirtual 220, 3) := by decide +kernel
theorem zd_H_reachedMinute_34 : decode I_H_reachedMinute.2.1 34 = .ok (.bipush 60, 2) := by decide +kernel
theorem zd_H_reachedMinute_36 : decode I_H_reachedMinute.2.1 36 = .ok (.imul, 1) := by decide +kernel
theorem zd_H_reachedMinute_37 : decode I_H_reachedMinute.2.1 37 = .ok (.aload_n 1, 1) := by decide +kernel
theorem zd_H_reachedMinute_38 : decode I_H_reachedMinute.2.1 38 = .ok (.getfield 173, 3) := by decide +kernel
theorem zd_H_reachedMinute_41 : decode I_H_reachedMinute.2.1 41 = .ok (.aload_n 2, 1) := by decide +kernel
theorem zd_H_reachedMinute_42 : decode I_H_reachedMinute.2.1 42 = .ok (.getfield 212, 3) := by decide +kernel
theorem zd_H_reachedMinute_45 : decode I_H_reachedMinute.2.1 45 = .ok (.iaload, 1) := by decide +kernel
theorem zd_H_reachedMinute_46 : decode I_H_reachedMinute.2.1 46 = .ok (.invokestatic 223, 3) := by decide +kernel
theorem zd_H_reachedMinute_49 : decode I_H_reachedMinute.2.1 49 = .ok (.iadd, 1) := by decide +kernel
theorem zd_H_reachedMinute_50 : decode I_H_reachedMinute.2.1 50 = .ok (.ireturn, 1) := by decide +kernel
theorem zd_H_first_0 : decode I_H_first.2.1 0 = .ok (.aload_n 0, 1) := by decide +kernel
theorem zd_H_first_1 : decode I_H_first.2.1 1 = .ok (.iload_n 1, 1) := by decide +kernel
theorem zd_H_first_2 : decode I_H_first.2.1 2 = .ok (.invokevirtual 183, 3) := by decide +kernel
theorem zd_H_first_5 : decode I_H_first.2.1 5 = .ok (.astore_n 2, 1) := by decide +kernel
theorem zd_H_first_6 : decode I_H_first.2.1 6 = .ok (.aload_n 2, 1) := by decide +kernel
theorem zd_H_first_7 : decode I_H_first.2.1 7 = .ok (.ifnonnull 9, 3) := by decide +kernel
theorem zd_H_first_10 : decode I_H_first.2.1 10 = .ok (.aload_n 0, 1) := by decide +kernel
theorem zd_H_first_11 : decode I_H_first.2.1 11 = .ok (.iconst (-1), 1) := by decide +kernel
theorem zd_H_first_12 : decode I_H_first.2.1 12 = .ok (.invokevirtual 84, 3) := by decide +kernel
theorem zd_H_first_15 : decode I_H_first.2.1 15 = .ok (.ireturn, 1) := by decide +kernel
theorem zd_H_first_16 : decode I_H_first.2.1 16 = .ok (.bipush (-9), 2) := by decide +kernel
theorem zd_H_first_18 : decode I_H_first.2.1 18 = .ok (.istore_n 3, 1) := by decide +kernel
theorem zd_H_first_19 : decode I_H_first.2.1 19 = .ok (.iconst 0, 1) := by decide +kernel
theorem zd_H_first_20 : decode I_H_first.2.1 20 = .ok (.istore 4, 2) := by decide +kernel
theorem zd_H_first_22 : decode I_H_first.2.1 22 = .ok (.iconst 0, 1) := by decide +kernel
theorem zd_H_first_23 : decode I_H_first.2.1 23 = .ok (.istore 5, 2) := by decide +kernel
theorem zd_H_first_25 : decode I_H_first.2.1 25 = .ok (.iload 5, 2) := by decide +kernel
theorem zd_H_first_27 : decode I_H_first.2.1 27 = .ok (.aload_n 0, 1) := by decide +kernel
theorem zd_H_first_28 : decode I_H_first.2.1 28 = .ok (.getfield 23, 3) := by decide +kernel
theorem zd_H_first_31 : decode I_H_first.2.1 31 = .ok (.invokevirtual 92, 3) := by decide +kernel
theorem zd_H_first_34 : decode I_H_first.2.1 34 = .ok (.if_icmp .ge 55, 3) := by decide +kernel
theorem zd_H_first_37 : decode I_H_first.2.1 37 = .ok (.aload_n 0, 1) := by decide +kernel
theorem zd_H_first_38 : decode I_H_first.2.1 38 = .ok (.aload_n 0, 1) := by decide +kernel
theorem zd_H_first_39 : decode I_H_first.2.1 39 = .ok (.getfield 23, 3) := by decide +kernel
theorem zd_H_first_42 : decode I_H_first.2.1 42 = .ok (.iload 5, 2) := by decide +kernel
theorem zd_H_first_44 : decode I_H_first.2.1 44 = .ok (.invokevirtual 134, 3) := by decide +kernel
theorem zd_H_first_47 : decode I_H_first.2.1 47 = .ok (.checkcast 162, 3) := by decide +kernel
theorem zd_H_first_50 : decode I_H_first.2.1 50 = .ok (.aload_n 2, 1) := by decide +kernel
theorem zd_H_first_51 : decode I_H_first.2.1 51 = .ok (.invokevirtual 195, 3) := by decide +kernel
theorem zd_H_first_54 : decode I_H_first.2.1 54 = .ok (.istore 6, 2) := by decide +kernel
theorem zd_H_first_56 : decode I_H_first.2.1 56 = .ok (.iload 6, 2) := by decide +kernel
theorem zd_H_first_58 : decode I_H_first.2.1 58 = .ok (.bipush (-9), 2) := by decide +kernel
theorem zd_H_first_60 : decode I_H_first.2.1 60 = .ok (.if_icmp .eq 23, 3) := by decide +kernel
theorem zd_H_first_63 : decode I_H_first.2.1 63 = .ok (.iload_n 3, 1) := by decide +kernel
theorem zd_H_first_64 : decode I_H_first.2.1 64 = .ok (.bipush (-9), 2) := by decide +kernel
theorem zd_H_first_66 : decode I_H_first.2.1 66 = .ok (.if_icmp .eq 10, 3) := by decide +kernel
theorem zd_H_first_69 : decode I_H_first.2.1 69 = .ok (.iload 6, 2) := by decide +kernel
theorem zd_H_first_71 : decode I_H_first.2.1 71 = .ok (.iload 4, 2) := by decide +kernel
theorem zd_H_first_73 : decode I_H_first.2.1 73 = .ok (.if_icmp .ge 10, 3) := by decide +kernel
theorem zd_H_first_76 : decode I_H_first.2.1 76 = .ok (.iload 5, 2) := by decide +kernel
theorem zd_H_first_78 : decode I_H_first.2.1 78 = .ok (.istore_n 3, 1) := by decide +kernel
theorem zd_H_first_79 : decode I_H_first.2.1 79 = .ok (.iload 6, 2) := by decide +kernel
theorem zd_H_first_81 : decode I_H_first.2.1 81 = .ok (.istore 4, 2) := by decide +kernel
theorem zd_H_first_83 : decode I_H_first.2.1 83 = .ok (.iinc 5 1, 3) := by decide +kernel
theorem zd_H_first_86 : decode I_H_first.2.1 86 = .ok (.goto (-61), 3) := by decide +kernel
theorem zd_H_first_89 : decode I_H_first.2.1 89 = .ok (.iload_n 3, 1) := by decide +kernel
theorem zd_H_first_90 : decode I_H_first.2.1 90 = .ok (.ireturn, 1) := by decide +kernel
theorem zd_H_two_0 : decode I_H_two.2.1 0 = .ok (.aload_n 0, 1) := by decide +kernel
theorem zd_H_two_1 : decode I_H_two.2.1 1 = .ok (.iload_n 1, 1) := by decide +kernel
theorem zd_H_two_2 : decode I_H_two.2.1 2 = .ok (.invokevirtual 183, 3) := by decide +kernel
theorem zd_H_two_5 : decode I_H_two.2.1 5 = .ok (.astore 4, 2) := by decide +kernel
theorem zd_H_two_7 : decode I_H_two.2.1 7 = .ok (.aload_n 0, 1) := by decide +kernel
theorem zd_H_two_8 : decode I_H_two.2.1 8 = .ok (.iload_n 2, 1) := by decide +kernel
theorem zd_H_two_9 : decode I_H_two.2.1 9 = .ok (.invokevirtual 183, 3) := by decide +kernel
theorem zd_H_two_12 : decode I_H_two.2.1 12 = .ok (.astore 5, 2) := by decide +kernel
theorem zd_H_two_14 : decode I_H_two.2.1 14 = .ok (.aload 4, 2) := by decide +kernel
theorem zd_H_two_16 : decode I_H_two.2.1 16 = .ok (.ifnull 13, 3) := by decide +kernel
theorem zd_H_two_19 : decode I_H_two.2.1 19 = .ok (.aload 5, 2) := by decide +kernel
theorem zd_H_two_21 : decode I_H_two.2.1 21 = .ok (.ifnull 8, 3) := by decide +kernel
theorem zd_H_two_24 : decode I_H_two.2.1 24 = .ok (.iload_n 1, 1) := by decide +kernel
theorem zd_H_two_25 : decode I_H_two.2.1 25 = .ok (.iload_n 2, 1) := by decide +kernel
theorem zd_H_two_26 : decode I_H_two.2.1 26 = .ok (.if_icmp .ne 9, 3) := by decide +kernel
theorem zd_H_two_29 : decode I_H_two.2.1 29 = .ok (.aload_n 0, 1) := by decide +kernel
theorem zd_H_two_30 : decode I_H_two.2.1 30 = .ok (.iconst (-1), 1) := by decide +kernel
theorem zd_H_two_31 : decode I_H_two.2.1 31 = .ok (.invokevirtual 84, 3) := by decide +kernel
theorem zd_H_two_34 : decode I_H_two.2.1 34 = .ok (.ireturn, 1) := by decide +kernel
theorem zd_H_two_35 : decode I_H_two.2.1 35 = .ok (.iload_n 3, 1) := by decide +kernel
theorem zd_H_two_36 : decode I_H_two.2.1 36 = .ok (.ifCond .lt 8, 3) := by decide +kernel
theorem zd_H_two_39 : decode I_H_two.2.1 39 = .ok (.iload_n 3, 1) := by decide +kernel
theorem zd_H_two_40 : decode I_H_two.2.1 40 = .ok (.iconst 2, 1) := by decide +kernel
theorem zd_H_two_41 : decode I_H_two.2.1 41 = .ok (.if_icmp .le 10, 3) := by decide +kernel
theorem zd_H_two_44 : decode I_H_two.2.1 44 = .ok (.aload_n 0, 1) := by decide +kernel
theorem zd_H_two_45 : decode I_H_two.2.1 45 = .ok (.bipush (-2), 2) := by decide +kernel
theorem zd_H_two_47 : decode I_H_two.2.1 47 = .ok (.invokevirtual 84, 3) := by decide +kernel
theorem zd_H_two_50 : decode I_H_two.2.1 50 = .ok (.ireturn, 1) := by decide +kernel
theorem zd_H_two_51 : decode I_H_two.2.1 51 = .ok (.aload_n 0, 1) := by decide +kernel
theorem zd_H_two_52 : decode I_H_two.2.1 52 = .ok (.aload 4, 2) := by decide +kernel
theorem zd_H_two_54 : decode I_H_two.2.1 54 = .ok (.aload 5, 2) := by decide +kernel
theorem zd_H_two_56 : decode I_H_two.2.1 56 = .ok (.invokevirtual 199, 3) := by decide +kernel
theorem zd_H_two_59 : decode I_H_two.2.1 59 = .ok (.iload_n 3, 1) := by decide +kernel
theorem zd_H_two_60 : decode I_H_two.2.1 60 = .ok (.ifCond .ne 11, 3) := by decide +kernel
theorem zd_H_two_63 : decode I_H_two.2.1 63 = .ok (.aload_n 0, 1) := by decide +kernel
theorem zd_H_two_64 : decode I_H_two.2.1 64 = .ok (.getfield 49, 3) := by decide +kernel
theorem zd_H_two_67 : decode I_H_two.2.1 67 = .ok (.getfield 203, 3) := by decide +kernel
theorem zd_H_two_70 : decode I_H_two.2.1 70 = .ok (.ireturn, 1) := by decide +kernel
theorem zd_H_two_71 : decode I_H_two.2.1 71 = .ok (.iload_n 3, 1) := by decide +kernel
theorem zd_H_two_72 : decode I_H_two.2.1 72 = .ok (.iconst 1, 1) := by decide +kernel
theorem zd_H_two_73 : decode I_H_two.2.1 73 = .ok (.if_icmp .ne 13, 3) := by decide +kernel
theorem zd_H_two_76 : decode I_H_two.2.1 76 = .ok (.aload_n 0, 1) := by decide +kernel
theorem zd_H_two_77 : decode I_H_two.2.1 77 = .ok (.getfield 49, 3) := by decide +kernel
theorem zd_H_two_80 : decode I_H_two.2.1 80 = .ok (.getfield 206, 3) := by decide +kernel
theorem zd_H_two_83 : decode I_H_two.2.1 83 = .ok (.goto 10, 3) := by decide +kernel
theorem zd_H_two_86 : decode I_H_two.2.1 86 = .ok (.aload_n 0, 1) := by decide +kernel
theorem zd_H_two_87 : decode I_H_two.2.1 87 = .ok (.getfield 49, 3) := by decide +kernel
theorem zd_H_two_90 : decode I_H_two.2.1 90 = .ok (.getfield 209, 3) := by decide +kernel
theorem zd_H_two_93 : decode I_H_two.2.1 93 = .ok (.ireturn, 1) := by decide +kernel
theorem zd_H_pairBoats_0 : decode I_H_pairBoats.2.1 0 = .ok (.aload_n 0, 1) := by decide +kernel
theorem zd_H_pairBoats_1 : decode I_H_pairBoats.2.1 1 = .ok (.getfield 49, 3) := by decide +kernel
theorem zd_H_pairBoats_4 : decode I_H_pairBoats.2.1 4 = .ok (.invokevirtual 248, 3) := by decide +kernel
theorem zd_H_pairBoats_7 : decode I_H_pairBoats.2.1 7 = .ok (.iconst 0, 1) := by decide +kernel
theorem zd_H_pairBoats_8 : decode I_H_pairBoats.2.1 8 = .ok (.istore_n 3, 1) := by decide +kernel
theorem zd_H_pairBoats_9 : decode I_H_pairBoats.2.1 9 = .ok (.iload_n 3, 1) := by decide +kernel
theorem zd_H_pairBoats_10 : decode I_H_pairBoats.2.1 10 = .ok (.aload_n 0, 1) := by decide +kernel
theorem zd_H_pairBoats_11 : decode I_H_pairBoats.2.1 11 = .ok (.getfield 23, 3) := by decide +kernel
theorem zd_H_pairBoats_14 : decode I_H_pairBoats.2.1 14 = .ok (.invokevirtual 92, 3) := by decide +kernel
theorem zd_H_pairBoats_17 : decode I_H_pairBoats.2.1 17 = .ok (.if_icmp .ge 107, 3) := by decide +kernel
theorem zd_H_pairBoats_20 : decode I_H_pairBoats.2.1 20 = .ok (.aload_n 0, 1) := by decide +kernel
theorem zd_H_pairBoats_21 : decode I_H_pairBoats.2.1 21 = .ok (.aload_n 0, 1) := by decide +kernel
theorem zd_H_pairBoats_22 : decode I_H_pairBoats.2.1 22 = .ok (.getfield 23, 3) := by decide +kernel
theorem zd_H_pairBoats_25 : decode I_H_pairBoats.2.1 25 = .ok (.iload_n 3, 1) := by decide +kernel
theorem zd_H_pairBoats_26 : decode I_H_pairBoats.2.1 26 = .ok (.invokevirtual 134, 3) := by decide +kernel
theorem zd_H_pairBoats_29 : decode I_H_pairBoats.2.1 29 = .ok (.checkcast 162, 3) := by decide +kernel
theorem zd_H_pairBoats_32 : decode I_H_pairBoats.2.1 32 = .ok (.aload_n 1, 1) := by decide +kernel
theorem zd_H_pairBoats_33 : decode I_H_pairBoats.2.1 33 = .ok (.invokevirtual 195, 3) := by decide +kernel
theorem zd_H_pairBoats_36 : decode I_H_pairBoats.2.1 36 = .ok (.istore 4, 2) := by decide +kernel
theorem zd_H_pairBoats_38 : decode I_H_pairBoats.2.1 38 = .ok (.iload 4, 2) := by decide +kernel
theorem zd_H_pairBoats_40 : decode I_H_pairBoats.2.1 40 = .ok (.bipush (-9), 2) := by decide +kernel
theorem zd_H_pairBoats_42 : decode I_H_pairBoats.2.1 42 = .ok (.if_icmp .ne 6, 3) := by decide +kernel
theorem zd_H_pairBoats_45 : decode I_H_pairBoats.2.1 45 = .ok (.goto 73, 3) := by decide +kernel
theorem zd_H_pairBoats_48 : decode I_H_pairBoats.2.1 48 = .ok (.iconst 0, 1) := by decide +kernel
theorem zd_H_pairBoats_49 : decode I_H_pairBoats.2.1 49 = .ok (.istore 5, 2) := by decide +kernel
theorem zd_H_pairBoats_51 : decode I_H_pairBoats.2.1 51 = .ok (.iload 5, 2) := by decide +kernel
theorem zd_H_pairBoats_53 : decode I_H_pairBoats.2.1 53 = .ok (.aload_n 0, 1) := by decide +kernel
theorem zd_H_pairBoats_54 : decode I_H_pairBoats.2.1 54 = .ok (.getfield 23, 3) := by decide +kernel
theorem zd_H_pairBoats_57 : decode I_H_pairBoats.2.1 57 = .ok (.invokevirtual 92, 3) := by decide +kernel
theorem zd_H_pairBoats_60 : decode I_H_pairBoats.2.1 60 = .ok (.if_icmp .ge 58, 3) := by decide +kernel
theorem zd_H_pairBoats_63 : decode I_H_pairBoats.2.1 63 = .ok (.iload 5, 2) := by decide +kernel
theorem zd_H_pairBoats_65 : decode I_H_pairBoats.2.1 65 = .ok (.iload_n 3, 1) := by decide +kernel
theorem zd_H_pairBoats_66 : decode I_H_pairBoats.2.1 66 = .ok (.if_icmp .ne 6, 3) := by decide +kernel
theorem zd_H_pairBoats_69 : decode I_H_pairBoats.2.1 69 = .ok (.goto 43, 3) := by decide +kernel
theorem zd_H_pairBoats_72 : decode I_H_pairBoats.2.1 72 = .ok (.aload_n 0, 1) := by decide +kernel
theorem zd_H_pairBoats_73 : decode I_H_pairBoats.2.1 73 = .ok (.aload_n 0, 1) := by decide +kernel
theorem zd_H_pairBoats_74 : decode I_H_pairBoats.2.1 74 = .ok (.getfield 23, 3) := by decide +kernel
theorem zd_H_pairBoats_77 : decode I_H_pairBoats.2.1 77 = .ok (.iload 5, 2) := by decide +kernel
theorem zd_H_pairBoats_79 : decode I_H_pairBoats.2.1 79 = .ok (.invokevirtual 134, 3) := by decide +kernel
theorem zd_H_pairBoats_82 : decode I_H_pairBoats.2.1 82 = .ok (.checkcast 162, 3) := by decide +kernel
theorem zd_H_pairBoats_85 : decode I_H_pairBoats.2.1 85 = .ok (.aload_n 2, 1) := by decide +kernel
theorem zd_H_pairBoats_86 : decode I_H_pairBoats.2.1 86 = .ok (.invokevirtual 195, 3) := by decide +kernel
theorem zd_H_pairBoats_89 : decode I_H_pairBoats.2.1 89 = .ok (.istore 6, 2) := by decide +kernel
theorem zd_H_pairBoats_91 : decode I_H_pairBoats.2.1 91 = .ok (.iload 6, 2) := by decide +kernel
theorem zd_H_pairBoats_93 : decode I_H_pairBoats.2.1 93 = .ok (.bipush (-9), 2) := by decide +kernel
theorem zd_H_pairBoats_95 : decode I_H_pairBoats.2.1 95 = .ok (.if_icmp .eq 17, 3) := by decide +kernel
theorem zd_H_pairBoats_98 : decode I_H_pairBoats.2.1 98 = .ok (.aload_n 0, 1) := by decide +kernel
theorem zd_H_pairBoats_99 : decode I_H_pairBoats.2.1 99 = .ok (.getfield 49, 3) := by decide +kernel
theorem zd_H_pairBoats_102 : decode I_H_pairBoats.2.1 102 = .ok (.iload_n 3, 1) := by decide +kernel
theorem zd_H_pairBoats_103 : decode I_H_pairBoats.2.1 103 = .ok (.iload 4, 2) := by decide +kernel
theorem zd_H_pairBoats_105 : decode I_H_pairBoats.2.1 105 = .ok (.iload 5, 2) := by decide +kernel
theorem zd_H_pairBoats_107 : decode I_H_pairBoats.2.1 107 = .ok (.iload 6, 2) := by decide +kernel
theorem zd_H_pairBoats_109 : decode I_H_pairBoats.2.1 109 = .ok (.invokevirtual 249, 3) := by decide +kernel
theorem zd_H_pairBoats_112 : decode I_H_pairBoats.2.1 112 = .ok (.iinc 5 1, 3) := by decide +kernel
theorem zd_H_pairBoats_115 : decode I_H_pairBoats.2.1 115 = .ok (.goto (-64), 3) := by decide +kernel
theorem zd_H_pairBoats_118 : decode I_H_pairBoats.2.1 118 = .ok (.iinc 3 1, 3) := by decide +kernel
theorem zd_H_pairBoats_121 : decode I_H_pairBoats.2.1 121 = .ok (.goto (-112), 3) := by decide +kernel
theorem zd_H_pairBoats_124 : decode I_H_pairBoats.2.1 124 = .ok (.return_, 1) := by decide +kernel
theorem zd_P_clear_0 : decode I_P_clear.2.1 0 = .ok (.aload_n 0, 1) := by decide +kernel
theorem zd_P_clear_1 : decode I_P_clear.2.1 1 = .ok (.bipush (-9), 2) := by decide +kernel
theorem zd_P_clear_3 : decode I_P_clear.2.1 3 = .ok (.putfield 9, 3) := by decide +kernel
theorem zd_P_clear_6 : decode I_P_clear.2.1 6 = .ok (.aload_n 0, 1) := by decide +kernel
theorem zd_P_clear_7 : decode I_P_clear.2.1 7 = .ok (.bipush (-9), 2) := by decide +kernel
theorem zd_P_clear_9 : decode I_P_clear.2.1 9 = .ok (.putfield 15, 3) := by decide +kernel
theorem zd_P_clear_12 : decode I_P_clear.2.1 12 = .ok (.aload_n 0, 1) := by decide +kernel
theorem zd_P_clear_13 : decode I_P_clear.2.1 13 = .ok (.bipush (-9), 2) := by decide +kernel
theorem zd_P_clear_15 : decode I_P_clear.2.1 15 = .ok (.putfield 18, 3) := by decide +kernel
theorem zd_P_clear_18 : decode I_P_clear.2.1 18 = .ok (.aload_n 0, 1) := by decide +kernel
theorem zd_P_clear_19 : decode I_P_clear.2.1 19 = .ok (.iconst 0, 1) := by decide +kernel
theorem zd_P_clear_20 : decode I_P_clear.2.1 20 = .ok (.putfield 21, 3) := by decide +kernel
theorem zd_P_clear_23 : decode I_P_clear.2.1 23 = .ok (.return_, 1) := by decide +kernel
theorem zd_P_offer_0 : decode I_P_offer.2.1 0 = .ok (.iload_n 2, 1) := by decide +kernel
theorem zd_P_offer_1 : decode I_P_offer.2.1 1 = .ok (.iload 4, 2) := by decide +kernel
theorem zd_P_offer_3 : decode I_P_offer.2.1 3 = .ok (.invokestatic 24, 3) := by decide +kernel
theorem zd_P_offer_6 : decode I_P_offer.2.1 6 = .ok (.istore 5, 2) := by decide +kernel
theorem zd_P_offer_8 : decode I_P_offer.2.1 8 = .ok (.iload_n 2, 1) := by decide +kernel
theorem zd_P_offer_9 : decode I_P_offer.2.1 9 = .ok (.iload 4, 2) := by decide +kernel
theorem zd_P_offer_11 : decode I_P_offer.2.1 11 = .ok (.iadd, 1) := by decide +kernel
theorem zd_P_offer_12 : decode I_P_offer.2.1 12 = .ok (.istore 6, 2) := by decide +kernel
theorem zd_P_offer_14 : decode I_P_offer.2.1 14 = .ok (.iload 5, 2) := by decide +kernel
theorem zd_P_offer_16 : decode I_P_offer.2.1 16 = .ok (.aload_n 0, 1) := by decide +kernel
theorem zd_P_offer_17 : decode I_P_offer.2.1 17 = .ok (.getfield 9, 3) := by decide +kernel
theorem zd_P_offer_20 : decode I_P_offer.2.1 20 = .ok (.if_icmp .gt 21, 3) := by decide +kernel
theorem zd_P_offer_23 : decode I_P_offer.2.1 23 = .ok (.iload 5, 2) := by decide +kernel
theorem zd_P_offer_25 : decode I_P_offer.2.1 25 = .ok (.aload_n 0, 1) := by decide +kernel
theorem zd_P_offer_26 : decode I_P_offer.2.1 26 = .ok (.getfield 9, 3) := by decide +kernel
theorem zd_P_offer_29 : decode I_P_offer.2.1 29 = .ok (.if_icmp .ne 16, 3) := by decide +kernel
theorem zd_P_offer_32 : decode I_P_offer.2.1 32 = .ok (.iload 6, 2) := by decide +kernel
theorem zd_P_offer_34 : decode I_P_offer.2.1 34 = .ok (.aload_n 0, 1) := by decide +kernel
theorem zd_P_offer_35 : decode I_P_offer.2.1 35 = .ok (.getfield 21, 3) := by decide +kernel
theorem zd_P_offer_38 : decode I_P_offer.2.1 38 = .ok (.if_icmp .lt 7, 3) := by decide +kernel
theorem zd_P_offer_41 : decode I_P_offer.2.1 41 = .ok (.iconst 1, 1) := by decide +kernel
theorem zd_P_offer_42 : decode I_P_offer.2.1 42 = .ok (.goto 4, 3) := by decide +kernel
theorem zd_P_offer_45 : decode I_P_offer.2.1 45 = .ok (.iconst 0, 1) := by decide +kernel
theorem zd_P_offer_46 : decode I_P_offer.2.1 46 = .ok (.istore 7, 2) := by decide +kernel
theorem zd_P_offer_48 : decode I_P_offer.2.1 48 = .ok (.aload_n 0, 1) := by decide +kernel
theorem zd_P_offer_49 : decode I_P_offer.2.1 49 = .ok (.getfield 9, 3) := by decide +kernel
theorem zd_P_offer_52 : decode I_P_offer.2.1 52 = .ok (.bipush (-9), 2) := by decide +kernel
theorem zd_P_offer_54 : decode I_P_offer.2.1 54 = .ok (.if_icmp .eq 9, 3) := by decide +kernel
theorem zd_P_offer_57 : decode I_P_offer.2.1 57 = .ok (.iload 7, 2) := by decide +kernel
theorem zd_P_offer_59 : decode I_P_offer.2.1 59 = .ok (.ifCond .eq 4, 3) := by decide +kernel
theorem zd_P_offer_62 : decode I_P_offer.2.1 62 = .ok (.return_, 1) := by decide +kernel
theorem zd_P_offer_63 : decode I_P_offer.2.1 63 = .ok (.aload_n 0, 1) := by decide +kernel
theorem zd_P_offer_64 : decode I_P_offer.2.1 64 = .ok (.iload 5, 2) := by decide +kernel
theorem zd_P_offer_66 : decode I_P_offer.2.1 66 = .ok (.putfield 9, 3) := by decide +kernel
theorem zd_P_offer_69 : decode I_P_offer.2.1 69 = .ok (.aload_n 0, 1) := by decide +kernel
theorem zd_P_offer_70 : decode I_P_offer.2.1 70 = .ok (.iload 6, 2) := by decide +kernel
theorem zd_P_offer_72 : decode I_P_offer.2.1 72 = .ok (.putfield 21, 3) := by decide +kernel
theorem zd_P_offer_75 : decode I_P_offer.2.1 75 = .ok (.aload_n 0, 1) := by decide +kernel
theorem zd_P_offer_76 : decode I_P_offer.2.1 76 = .ok (.iload_n 1, 1) := by decide +kernel
theorem zd_P_offer_77 : decode I_P_offer.2.1 77 = .ok (.putfield 15, 3) := by decide +kernel
theorem zd_P_offer_80 : decode I_P_offer.2.1 80 = .ok (.aload_n 0, 1) := by decide +kernel
theorem zd_P_offer_81 : decode I_P_offer.2.1 81 = .ok (.iload_n 3, 1) := by decide +kernel
theorem zd_P_offer_82 : decode I_P_offer.2.1 82 = .ok (.putfield 18, 3) := by decide +kernel
theorem zd_P_offer_85 : decode I_P_offer.2.1 85 = .ok (.return_, 1) := by decide +kernel
theorem zd_H_send_0 : decode I_H_send.2.1 0 = .ok (.aload_n 0, 1) := by decide +kernel
theorem zd_H_send_1 : decode I_H_send.2.1 1 = .ok (.iload_n 1, 1) := by decide +kernel
theorem zd_H_send_2 : decode I_H_send.2.1 2 = .ok (.invokevirtual 166, 3) := by decide +kernel
theorem zd_H_send_5 : decode I_H_send.2.1 5 = .ok (.astore 5, 2) := by decide +kernel
theorem zd_H_send_7 : decode I_H_send.2.1 7 = .ok (.aload_n 0, 1) := by decide +kernel
theorem zd_H_send_8 : decode I_H_send.2.1 8 = .ok (.iload_n 2, 1) := by decide +kernel
theorem zd_H_send_9 : decode I_H_send.2.1 9 = .ok (.invokevirtual 183, 3) := by decide +kernel
theorem zd_H_send_12 : decode I_H_send.2.1 12 = .ok (.astore 6, 2) := by decide +kernel
theorem zd_H_send_14 : decode I_H_send.2.1 14 = .ok (.aload 5, 2) := by decide +kernel
theorem zd_H_send_16 : decode I_H_send.2.1 16 = .ok (.ifnull 8, 3) := by decide +kernel
theorem zd_H_send_19 : decode I_H_send.2.1 19 = .ok (.aload 6, 2) := by decide +kernel
theorem zd_H_send_21 : decode I_H_send.2.1 21 = .ok (.ifnonnull 9, 3) := by decide +kernel
theorem zd_H_send_24 : decode I_H_send.2.1 24 = .ok (.aload_n 0, 1) := by decide +kernel
theorem zd_H_send_25 : decode I_H_send.2.1 25 = .ok (.iconst (-1), 1) := by decide +kernel
theorem zd_H_send_26 : decode I_H_send.2.1 26 = .ok (.invokevirtual 84, 3) := by decide +kernel
theorem zd_H_send_29 : decode I_H_send.2.1 29 = .ok (.ireturn, 1) := by decide +kernel
theorem zd_H_send_30 : decode I_H_send.2.1 30 = .ok (.aload_n 0, 1) := by decide +kernel
theorem zd_H_send_31 : decode I_H_send.2.1 31 = .ok (.aload 5, 2) := by decide +kernel
theorem zd_H_send_33 : decode I_H_send.2.1 33 = .ok (.aload 6, 2) := by decide +kernel
theorem zd_H_send_35 : decode I_H_send.2.1 35 = .ok (.invokevirtual 195, 3) := by decide +kernel
theorem zd_H_send_38 : decode I_H_send.2.1 38 = .ok (.istore 7, 2) := by decide +kernel
theorem zd_H_send_40 : decode I_H_send.2.1 40 = .ok (.iload 7, 2) := by decide +kernel
theorem zd_H_send_42 : decode I_H_send.2.1 42 = .ok (.bipush (-9), 2) := by decide +kernel
theorem zd_H_send_44 : decode I_H_send.2.1 44 = .ok (.if_icmp .eq 15, 3) := by decide +kernel
theorem zd_H_send_47 : decode I_H_send.2.1 47 = .ok (.aload 5, 2) := by decide +kernel
theorem zd_H_send_49 : decode I_H_send.2.1 49 = .ok (.aload_n 0, 1) := by decide +kernel
theorem zd_H_send_50 : decode I_H_send.2.1 50 = .ok (.getfield 70, 3) := by decide +kernel
theorem zd_H_send_53 : decode I_H_send.2.1 53 = .ok (.invokevirtual 176, 3) := by decide +kernel
theorem zd_H_send_56 : decode I_H_send.2.1 56 = .ok (.ifCond .eq 10, 3) := by decide +kernel
theorem zd_H_send_59 : decode I_H_send.2.1 59 = .ok (.aload_n 0, 1) := by decide +kernel
theorem zd_H_send_60 : decode I_H_send.2.1 60 = .ok (.bipush (-3), 2) := by decide +kernel
theorem zd_H_send_62 : decode I_H_send.2.1 62 = .ok (.invokevirtual 84, 3) := by decide +kernel
theorem zd_H_send_65 : decode I_H_send.2.1 65 = .ok (.ireturn, 1) := by decide +kernel
theorem zd_H_send_66 : decode I_H_send.2.1 66 = .ok (.iload_n 3, 1) := by decide +kernel
theorem zd_H_send_67 : decode I_H_send.2.1 67 = .ok (.ifCond .ge 10, 3) := by decide +kernel
theorem zd_H_send_70 : decode I_H_send.2.1 70 = .ok (.aload_n 0, 1) := by decide +kernel
theorem zd_H_send_71 : decode I_H_send.2.1 71 = .ok (.bipush (-4), 2) := by decide +kernel
theorem zd_H_send_73 : decode I_H_send.2.1 73 = .ok (.invokevirtual 84, 3) := by decide +kernel
theorem zd_H_send_76 : decode I_H_send.2.1 76 = .ok (.ireturn, 1) := by decide +kernel
theorem zd_H_send_77 : decode I_H_send.2.1 77 = .ok (.iload_n 3, 1) := by decide +kernel
theorem zd_H_send_78 : decode I_H_send.2.1 78 = .ok (.sipush 600, 3) := by decide +kernel
theorem zd_H_send_81 : decode I_H_send.2.1 81 = .ok (.if_icmp .gt 15, 3) := by decide +kernel
theorem zd_H_send_84 : decode I_H_send.2.1 84 = .ok (.aload_n 0, 1) := by decide +kernel
theorem zd_H_send_85 : decode I_H_send.2.1 85 = .ok (.getfield 29, 3) := by decide +kernel
theorem zd_H_send_88 : decode I_H_send.2.1 88 = .ok (.invokevirtual 92, 3) := by decide +kernel
theorem zd_H_send_91 : decode I_H_send.2.1 91 = .ok (.bipush 40, 2) := by decide +kernel
theorem zd_H_send_93 : decode I_H_send.2.1 93 = .ok (.if_icmp .lt 10, 3) := by decide +kernel
theorem zd_H_send_96 : decode I_H_send.2.1 96 = .ok (.aload_n 0, 1) := by decide +kernel
theorem zd_H_send_97 : decode I_H_send.2.1 97 = .ok (.bipush (-6), 2) := by decide +kernel
theorem zd_H_send_99 : decode I_H_send.2.1 99 = .ok (.invokevirtual 84, 3) := by decide +kernel
theorem zd_H_send_102 : decode I_H_send.2.1 102 = .ok (.ireturn, 1) := by decide +kernel
theorem zd_H_send_103 : decode I_H_send.2.1 103 = .ok (.iload 4, 2) := by decide +kernel
theorem zd_H_send_105 : decode I_H_send.2.1 105 = .ok (.ifCond .eq 23, 3) := by decide +kernel
theorem zd_H_send_108 : decode I_H_send.2.1 108 = .ok (.iconst 1, 1) := by decide +kernel
theorem zd_H_send_109 : decode I_H_send.2.1 109 = .ok (.aload 5, 2) := by decide +kernel
theorem zd_H_send_111 : decode I_H_send.2.1 111 = .ok (.getfield 173, 3) := by decide +kernel
theorem zd_H_send_114 : decode I_H_send.2.1 114 = .ok (.aload 6, 2) := by decide +kernel
theorem zd_H_send_116 : decode I_H_send.2.1 116 = .ok (.getfield 212, 3) := by decide +kernel
theorem zd_H_send_119 : decode I_H_send.2.1 119 = .ok (.iaload, 1) := by decide +kernel
theorem zd_H_send_120 : decode I_H_send.2.1 120 = .ok (.iconst 2, 1) := by decide +kernel
theorem zd_H_send_121 : decode I_H_send.2.1 121 = .ok (.idiv, 1) := by decide +kernel
theorem zd_H_send_122 : decode I_H_send.2.1 122 = .ok (.invokestatic 215, 3) := by decide +kernel
theorem zd_H_send_125 : decode I_H_send.2.1 125 = .ok (.goto 14, 3) := by decide +kernel
theorem zd_H_send_128 : decode I_H_send.2.1 128 = .ok (.aload 5, 2) := by decide +kernel
theorem zd_H_send_130 : decode I_H_send.2.1 130 = .ok (.getfield 173, 3) := by decide +kernel
theorem zd_H_send_133 : decode I_H_send.2.1 133 = .ok (.aload 6, 2) := by decide +kernel
theorem zd_H_send_135 : decode I_H_send.2.1 135 = .ok (.getfield 212, 3) := by decide +kernel
theorem zd_H_send_138 : decode I_H_send.2.1 138 = .ok (.iaload, 1) := by decide +kernel
theorem zd_H_send_139 : decode I_H_send.2.1 139 = .ok (.istore 8, 2) := by decide +kernel
theorem zd_H_send_141 : decode I_H_send.2.1 141 = .ok (.iload 7, 2) := by decide +kernel
theorem zd_H_send_143 : decode I_H_send.2.1 143 = .ok (.iload_n 3, 1) := by decide +kernel
theorem zd_H_send_144 : decode I_H_send.2.1 144 = .ok (.iadd, 1) := by decide +kernel
theorem zd_H_send_145 : decode I_H_send.2.1 145 = .ok (.aload_n 0, 1) := by decide +kernel
theorem zd_H_send_146 : decode I_H_send.2.1 146 = .ok (.aload 5, 2) := by decide +kernel
theorem zd_H_send_148 : decode I_H_send.2.1 148 = .ok (.aload 6, 2) := by decide +kernel
theorem zd_H_send_150 : decode I_H_send.2.1 150 = .ok (.invokevirtual 220, 3) := by decide +kernel
theorem zd_H_send_153 : decode I_H_send.2.1 153 = .ok (.bipush 60, 2) := by decide +kernel
theorem zd_H_send_155 : decode I_H_send.2.1 155 = .ok (.imul, 1) := by decide +kernel
theorem zd_H_send_156 : decode I_H_send.2.1 156 = .ok (.iload 8, 2) := by decide +kernel
theorem zd_H_send_158 : decode I_H_send.2.1 158 = .ok (.invokestatic 223, 3) := by decide +kernel
theorem zd_H_send_161 : decode I_H_send.2.1 161 = .ok (.iadd, 1) := by decide +kernel
theorem zd_H_send_162 : decode I_H_send.2.1 162 = .ok (.istore 9, 2) := by decide +kernel
theorem zd_H_send_164 : decode I_H_send.2.1 164 = .ok (.aload_n 0, 1) := by decide +kernel
theorem zd_H_send_165 : decode I_H_send.2.1 165 = .ok (.getfield 29, 3) := by decide +kernel
theorem zd_H_send_168 : decode I_H_send.2.1 168 = .ok (.new 226, 3) := by decide +kernel
theorem zd_H_send_171 : decode I_H_send.2.1 171 = .ok (.dup, 1) := by decide +kernel
theorem zd_H_send_172 : decode I_H_send.2.1 172 = .ok (.iload_n 1, 1) := by decide +kernel
theorem zd_H_send_173 : decode I_H_send.2.1 173 = .ok (.iload_n 2, 1) := by decide +kernel
theorem zd_H_send_174 : decode I_H_send.2.1 174 = .ok (.aload_n 0, 1) := by decide +kernel
theorem zd_H_send_175 : decode I_H_send.2.1 175 = .ok (.aload 5, 2) := by decide +kernel
theorem zd_H_send_177 : decode I_H_send.2.1 177 = .ok (.invokevirtual 191, 3) := by decide +kernel
theorem zd_H_send_180 : decode I_H_send.2.1 180 = .ok (.iload 7, 2) := by decide +kernel
theorem zd_H_send_182 : decode I_H_send.2.1 182 = .ok (.iload 9, 2) := by decide +kernel
theorem zd_H_send_184 : decode I_H_send.2.1 184 = .ok (.invokespecial 228, 3) := by decide +kernel
theorem zd_H_send_187 : decode I_H_send.2.1 187 = .ok (.invokevirtual 100, 3) := by decide +kernel
theorem zd_H_send_190 : decode I_H_send.2.1 190 = .ok (.pop, 1) := by decide +kernel
theorem zd_H_send_191 : decode I_H_send.2.1 191 = .ok (.aload 5, 2) := by decide +kernel
theorem zd_H_send_193 : decode I_H_send.2.1 193 = .ok (.iload 9, 2) := by decide +kernel
theorem zd_H_send_195 : decode I_H_send.2.1 195 = .ok (.putfield 231, 3) := by decide +kernel
theorem zd_H_send_198 : decode I_H_send.2.1 198 = .ok (.iload 9, 2) := by decide +kernel
theorem zd_H_send_200 : decode I_H_send.2.1 200 = .ok (.ireturn, 1) := by decide +kernel
theorem zd_U_init_0 : decode I_U_init.2.1 0 = .ok (.aload_n 0, 1) := by decide +kernel
theorem zd_U_init_1 : decode I_U_init.2.1 1 = .ok (.invokespecial 1, 3) := by decide +kernel
theorem zd_U_init_4 : decode I_U_init.2.1 4 = .ok (.aload_n 0, 1) := by decide +kernel
theorem zd_U_init_5 : decode I_U_init.2.1 5 = .ok (.iload_n 1, 1) := by decide +kernel
theorem zd_U_init_6 : decode I_U_init.2.1 6 = .ok (.putfield 7, 3) := by decide +kernel
theorem zd_U_init_9 : decode I_U_init.2.1 9 = .ok (.aload_n 0, 1) := by decide +kernel
theorem zd_U_init_10 : decode I_U_init.2.1 10 = .ok (.iload_n 2, 1) := by decide +kernel
theorem zd_U_init_11 : decode I_U_init.2.1 11 = .ok (.putfield 13, 3) := by decide +kernel
theorem zd_U_init_14 : decode I_U_init.2.1 14 = .ok (.aload_n 0, 1) := by decide +kernel
theorem zd_U_init_15 : decode I_U_init.2.1 15 = .ok (.iload_n 3, 1) := by decide +kernel
theorem zd_U_init_16 : decode I_U_init.2.1 16 = .ok (.putfield 16, 3) := by decide +kernel
theorem zd_U_init_19 : decode I_U_init.2.1 19 = .ok (.aload_n 0, 1) := by decide +kernel
theorem zd_U_init_20 : decode I_U_init.2.1 20 = .ok (.iload 4, 2) := by decide +kernel
theorem zd_U_init_22 : decode I_U_init.2.1 22 = .ok (.putfield 19, 3) := by decide +kernel
theorem zd_U_init_25 : decode I_U_init.2.1 25 = .ok (.aload_n 0, 1) := by decide +kernel
theorem zd_U_init_26 : decode I_U_init.2.1 26 = .ok (.iload 5, 2) := by decide +kernel
theorem zd_U_init_28 : decode I_U_init.2.1 28 = .ok (.putfield 22, 3) := by decide +kernel
theorem zd_U_init_31 : decode I_U_init.2.1 31 = .ok (.return_, 1) := by decide +kernel
theorem zd_H_log_0 : decode I_H_log.2.1 0 = .ok (.iload_n 2, 1) := by decide +kernel
theorem zd_H_log_1 : decode I_H_log.2.1 1 = .ok (.ifCond .lt 8, 3) := by decide +kernel
theorem zd_H_log_4 : decode I_H_log.2.1 4 = .ok (.iload_n 2, 1) := by decide +kernel
theorem zd_H_log_5 : decode I_H_log.2.1 5 = .ok (.iconst 4, 1) := by decide +kernel
theorem zd_H_log_6 : decode I_H_log.2.1 6 = .ok (.if_icmp .le 10, 3) := by decide +kernel
theorem zd_H_log_9 : decode I_H_log.2.1 9 = .ok (.aload_n 0, 1) := by decide +kernel
theorem zd_H_log_10 : decode I_H_log.2.1 10 = .ok (.bipush (-2), 2) := by decide +kernel
theorem zd_H_log_12 : decode I_H_log.2.1 12 = .ok (.invokevirtual 84, 3) := by decide +kernel
theorem zd_H_log_15 : decode I_H_log.2.1 15 = .ok (.ireturn, 1) := by decide +kernel
theorem zd_H_log_16 : decode I_H_log.2.1 16 = .ok (.iload_n 1, 1) := by decide +kernel
theorem zd_H_log_17 : decode I_H_log.2.1 17 = .ok (.ifCond .lt 14, 3) := by decide +kernel
theorem zd_H_log_20 : decode I_H_log.2.1 20 = .ok (.iload_n 1, 1) := by decide +kernel
theorem zd_H_log_21 : decode I_H_log.2.1 21 = .ok (.aload_n 0, 1) := by decide +kernel
theorem zd_H_log_22 : decode I_H_log.2.1 22 = .ok (.getfield 29, 3) := by decide +kernel
theorem zd_H_log_25 : decode I_H_log.2.1 25 = .ok (.invokevirtual 92, 3) := by decide +kernel
theorem zd_H_log_28 : decode I_H_log.2.1 28 = .ok (.if_icmp .lt 6, 3) := by decide +kernel
theorem zd_H_log_31 : decode I_H_log.2.1 31 = .ok (.bipush (-9), 2) := by decide +kernel
theorem zd_H_log_33 : decode I_H_log.2.1 33 = .ok (.ireturn, 1) := by decide +kernel
theorem zd_H_log_34 : decode I_H_log.2.1 34 = .ok (.aload_n 0, 1) := by decide +kernel
theorem zd_H_log_35 : decode I_H_log.2.1 35 = .ok (.getfield 29, 3) := by decide +kernel
theorem zd_H_log_38 : decode I_H_log.2.1 38 = .ok (.iload_n 1, 1) := by decide +kernel
theorem zd_H_log_39 : decode I_H_log.2.1 39 = .ok (.invokevirtual 134, 3) := by decide +kernel
theorem zd_H_log_42 : decode I_H_log.2.1 42 = .ok (.checkcast 226, 3) := by decide +kernel
theorem zd_H_log_45 : decode I_H_log.2.1 45 = .ok (.iload_n 2, 1) := by decide +kernel
theorem zd_H_log_46 : decode I_H_log.2.1 46 = .ok (.invokevirtual 234, 3) := by decide +kernel
theorem zd_H_log_49 : decode I_H_log.2.1 49 = .ok (.ireturn, 1) := by decide +kernel
theorem zd_U_told_0 : decode I_U_told.2.1 0 = .ok (.iload_n 1, 1) := by decide +kernel
theorem zd_U_told_1 : decode I_U_told.2.1 1 = .ok (.tableswitch 51 0 3 #[31, 36, 41, 46], 31) := by decide +kernel
theorem zd_U_told_32 : decode I_U_told.2.1 32 = .ok (.aload_n 0, 1) := by decide +kernel
theorem zd_U_told_33 : decode I_U_told.2.1 33 = .ok (.getfield 7, 3) := by decide +kernel
theorem zd_U_told_36 : decode I_U_told.2.1 36 = .ok (.ireturn, 1) := by decide +kernel
theorem zd_U_told_37 : decode I_U_told.2.1 37 = .ok (.aload_n 0, 1) := by decide +kernel
theorem zd_U_told_38 : decode I_U_told.2.1 38 = .ok (.getfield 13, 3) := by decide +kernel
theorem zd_U_told_41 : decode I_U_told.2.1 41 = .ok (.ireturn, 1) := by decide +kernel
theorem zd_U_told_42 : decode I_U_told.2.1 42 = .ok (.aload_n 0, 1) := by decide +kernel
theorem zd_U_told_43 : decode I_U_told.2.1 43 = .ok (.getfield 16, 3) := by decide +kernel
theorem zd_U_told_46 : decode I_U_told.2.1 46 = .ok (.ireturn, 1) := by decide +kernel
theorem zd_U_told_47 : decode I_U_told.2.1 47 = .ok (.aload_n 0, 1) := by decide +kernel
theorem zd_U_told_48 : decode I_U_told.2.1 48 = .ok (.getfield 19, 3) := by decide +kernel
theorem zd_U_told_51 : decode I_U_told.2.1 51 = .ok (.ireturn, 1) := by decide +kernel
theorem zd_U_told_52 : decode I_U_told.2.1 52 = .ok (.aload_n 0, 1) := by decide +kernel
theorem zd_U_told_53 : decode I_U_told.2.1 53 = .ok (.getfield 22, 3) := by decide +kernel
theorem zd_U_told_56 : decode I_U_told.2.1 56 = .ok (.ireturn, 1) := by decide +kernel
theorem zd_H_covered_0 : decode I_H_covered.2.1 0 = .ok (.iload_n 1, 1) := by decide +kernel
theorem zd_H_covered_1 : decode I_H_covered.2.1 1 = .ok (.invokestatic 80, 3) := by decide +kernel
theorem zd_H_covered_4 : decode I_H_covered.2.1 4 = .ok (.ifCond .ne 9, 3) := by decide +kernel
theorem zd_H_covered_7 : decode I_H_covered.2.1 7 = .ok (.aload_n 0, 1) := by decide +kernel
theorem zd_H_covered_8 : decode I_H_covered.2.1 8 = .ok (.iconst (-1), 1) := by decide +kernel
theorem zd_H_covered_9 : decode I_H_covered.2.1 9 = .ok (.invokevirtual 84, 3) := by decide +kernel
theorem zd_H_covered_12 : decode I_H_covered.2.1 12 = .ok (.ireturn, 1) := by decide +kernel
theorem zd_H_covered_13 : decode I_H_covered.2.1 13 = .ok (.aload_n 0, 1) := by decide +kernel
theorem zd_H_covered_14 : decode I_H_covered.2.1 14 = .ok (.iload_n 1, 1) := by decide +kernel
theorem zd_H_covered_15 : decode I_H_covered.2.1 15 = .ok (.invokevirtual 253, 3) := by decide +kernel
theorem zd_H_covered_18 : decode I_H_covered.2.1 18 = .ok (.ifCond .le 7, 3) := by decide +kernel
theorem zd_H_covered_21 : decode I_H_covered.2.1 21 = .ok (.iconst 1, 1) := by decide +kernel
theorem zd_H_covered_22 : decode I_H_covered.2.1 22 = .ok (.goto 4, 3) := by decide +kernel
theorem zd_H_covered_25 : decode I_H_covered.2.1 25 = .ok (.iconst 0, 1) := by decide +kernel
theorem zd_H_covered_26 : decode I_H_covered.2.1 26 = .ok (.ireturn, 1) := by decide +kernel
theorem zd_H_boatsReadyAt_0 : decode I_H_boatsReadyAt.2.1 0 = .ok (.iconst 0, 1) := by decide +kernel
theorem zd_H_boatsReadyAt_1 : decode I_H_boatsReadyAt.2.1 1 = .ok (.istore_n 2, 1) := by decide +kernel
theorem zd_H_boatsReadyAt_2 : decode I_H_boatsReadyAt.2.1 2 = .ok (.iconst 0, 1) := by decide +kernel
theorem zd_H_boatsReadyAt_3 : decode I_H_boatsReadyAt.2.1 3 = .ok (.istore_n 3, 1) := by decide +kernel
theorem zd_H_boatsReadyAt_4 : decode I_H_boatsReadyAt.2.1 4 = .ok (.iload_n 3, 1) := by decide +kernel
theorem zd_H_boatsReadyAt_5 : decode I_H_boatsReadyAt.2.1 5 = .ok (.aload_n 0, 1) := by decide +kernel
theorem zd_H_boatsReadyAt_6 : decode I_H_boatsReadyAt.2.1 6 = .ok (.getfield 23, 3) := by decide +kernel
theorem zd_H_boatsReadyAt_9 : decode I_H_boatsReadyAt.2.1 9 = .ok (.invokevirtual 92, 3) := by decide +kernel
theorem zd_H_boatsReadyAt_12 : decode I_H_boatsReadyAt.2.1 12 = .ok (.if_icmp .ge 46, 3) := by decide +kernel
theorem zd_H_boatsReadyAt_15 : decode I_H_boatsReadyAt.2.1 15 = .ok (.aload_n 0, 1) := by decide +kernel
theorem zd_H_boatsReadyAt_16 : decode I_H_boatsReadyAt.2.1 16 = .ok (.getfield 23, 3) := by decide +kernel
theorem zd_H_boatsReadyAt_19 : decode I_H_boatsReadyAt.2.1 19 = .ok (.iload_n 3, 1) := by decide +kernel
theorem zd_H_boatsReadyAt_20 : decode I_H_boatsReadyAt.2.1 20 = .ok (.invokevirtual 134, 3) := by decide +kernel
theorem zd_H_boatsReadyAt_23 : decode I_H_boatsReadyAt.2.1 23 = .ok (.checkcast 162, 3) := by decide +kernel
theorem zd_H_boatsReadyAt_26 : decode I_H_boatsReadyAt.2.1 26 = .ok (.astore 4, 2) := by decide +kernel
theorem zd_H_boatsReadyAt_28 : decode I_H_boatsReadyAt.2.1 28 = .ok (.aload 4, 2) := by decide +kernel
theorem zd_H_boatsReadyAt_30 : decode I_H_boatsReadyAt.2.1 30 = .ok (.getfield 179, 3) := by decide +kernel
theorem zd_H_boatsReadyAt_33 : decode I_H_boatsReadyAt.2.1 33 = .ok (.iload_n 1, 1) := by decide +kernel
theorem zd_H_boatsReadyAt_34 : decode I_H_boatsReadyAt.2.1 34 = .ok (.if_icmp .ne 18, 3) := by decide +kernel
theorem zd_H_boatsReadyAt_37 : decode I_H_boatsReadyAt.2.1 37 = .ok (.aload 4, 2) := by decide +kernel
theorem zd_H_boatsReadyAt_39 : decode I_H_boatsReadyAt.2.1 39 = .ok (.aload_n 0, 1) := by decide +kernel
theorem zd_H_boatsReadyAt_40 : decode I_H_boatsReadyAt.2.1 40 = .ok (.getfield 70, 3) := by decide +kernel
theorem zd_H_boatsReadyAt_43 : decode I_H_boatsReadyAt.2.1 43 = .ok (.invokevirtual 176, 3) := by decide +kernel
theorem zd_H_boatsReadyAt_46 : decode I_H_boatsReadyAt.2.1 46 = .ok (.ifCond .ne 6, 3) := by decide +kernel
theorem zd_H_boatsReadyAt_49 : decode I_H_boatsReadyAt.2.1 49 = .ok (.iinc 2 1, 3) := by decide +kernel
theorem zd_H_boatsReadyAt_52 : decode I_H_boatsReadyAt.2.1 52 = .ok (.iinc 3 1, 3) := by decide +kernel
theorem zd_H_boatsReadyAt_55 : decode I_H_boatsReadyAt.2.1 55 = .ok (.goto (-51), 3) := by decide +kernel
theorem zd_H_boatsReadyAt_58 : decode I_H_boatsReadyAt.2.1 58 = .ok (.iload_n 2, 1) := by decide +kernel
theorem zd_H_boatsReadyAt_59 : decode I_H_boatsReadyAt.2.1 59 = .ok (.ireturn, 1) := by decide +kernel
theorem zd_H_flanks_0 : decode I_H_flanks.2.1 0 = .ok (.iload_n 1, 1) := by decide +kernel
theorem zd_H_flanks_1 : decode I_H_flanks.2.1 1 = .ok (.ifCond .eq 15, 3) := by decide +kernel
theorem zd_H_flanks_4 : decode I_H_flanks.2.1 4 = .ok (.iload_n 1, 1) := by decide +kernel
theorem zd_H_flanks_5 : decode I_H_flanks.2.1 5 = .ok (.iconst 1, 1) := by decide +kernel
theorem zd_H_flanks_6 : decode I_H_flanks.2.1 6 = .ok (.if_icmp .eq 10, 3) := by decide +kernel
theorem zd_H_flanks_9 : decode I_H_flanks.2.1 9 = .ok (.aload_n 0, 1) := by decide +kernel
theorem zd_H_flanks_10 : decode I_H_flanks.2.1 10 = .ok (.bipush (-2), 2) := by decide +kernel
theorem zd_H_flanks_12 : decode I_H_flanks.2.1 12 = .ok (.invokevirtual 84, 3) := by decide +kernel
theorem zd_H_flanks_15 : decode I_H_flanks.2.1 15 = .ok (.ireturn, 1) := by decide +kernel
theorem zd_H_flanks_16 : decode I_H_flanks.2.1 16 = .ok (.aload_n 0, 1) := by decide +kernel
theorem zd_H_flanks_17 : decode I_H_flanks.2.1 17 = .ok (.invokevirtual 256, 3) := by decide +kernel
theorem zd_H_flanks_20 : decode I_H_flanks.2.1 20 = .ok (.iload_n 1, 1) := by decide +kernel
theorem zd_H_flanks_21 : decode I_H_flanks.2.1 21 = .ok (.ifCond .ne 13, 3) := by decide +kernel
theorem zd_H_flanks_24 : decode I_H_flanks.2.1 24 = .ok (.aload_n 0, 1) := by decide +kernel
theorem zd_H_flanks_25 : decode I_H_flanks.2.1 25 = .ok (.getfield 56, 3) := by decide +kernel
theorem zd_H_flanks_28 : decode I_H_flanks.2.1 28 = .ok (.getfield 259, 3) := by decide +kernel
theorem zd_H_flanks_31 : decode I_H_flanks.2.1 31 = .ok (.goto 10, 3) := by decide +kernel
theorem zd_H_flanks_34 : decode I_H_flanks.2.1 34 = .ok (.aload_n 0, 1) := by decide +kernel
theorem zd_H_flanks_35 : decode I_H_flanks.2.1 35 = .ok (.getfield 56, 3) := by decide +kernel
theorem zd_H_flanks_38 : decode I_H_flanks.2.1 38 = .ok (.getfield 262, 3) := by decide +kernel
theorem zd_H_flanks_41 : decode I_H_flanks.2.1 41 = .ok (.ireturn, 1) := by decide +kernel
theorem zd_H_planFlanks_0 : decode I_H_planFlanks.2.1 0 = .ok (.iconst 0, 1) := by decide +kernel
theorem zd_H_planFlanks_1 : decode I_H_planFlanks.2.1 1 = .ok (.istore_n 1, 1) := by decide +kernel
theorem zd_H_planFlanks_2 : decode I_H_planFlanks.2.1 2 = .ok (.iload_n 1, 1) := by decide +kernel
theorem zd_H_planFlanks_3 : decode I_H_planFlanks.2.1 3 = .ok (.bipush 6, 2) := by decide +kernel
theorem zd_H_planFlanks_5 : decode I_H_planFlanks.2.1 5 = .ok (.if_icmp .ge 28, 3) := by decide +kernel
theorem zd_H_planFlanks_8 : decode I_H_planFlanks.2.1 8 = .ok (.aload_n 0, 1) := by decide +kernel
theorem zd_H_planFlanks_9 : decode I_H_planFlanks.2.1 9 = .ok (.getfield 56, 3) := by decide +kernel
theorem zd_H_planFlanks_12 : decode I_H_planFlanks.2.1 12 = .ok (.iload_n 1, 1) := by decide +kernel
theorem zd_H_planFlanks_13 : decode I_H_planFlanks.2.1 13 = .ok (.aload_n 0, 1) := by decide +kernel
theorem zd_H_planFlanks_14 : decode I_H_planFlanks.2.1 14 = .ok (.getfield 9, 3) := by decide +kernel
theorem zd_H_planFlanks_17 : decode I_H_planFlanks.2.1 17 = .ok (.iload_n 1, 1) := by decide +kernel
theorem zd_H_planFlanks_18 : decode I_H_planFlanks.2.1 18 = .ok (.iaload, 1) := by decide +kernel
theorem zd_H_planFlanks_19 : decode I_H_planFlanks.2.1 19 = .ok (.aload_n 0, 1) := by decide +kernel
theorem zd_H_planFlanks_20 : decode I_H_planFlanks.2.1 20 = .ok (.iload_n 1, 1) := by decide +kernel
theorem zd_H_planFlanks_21 : decode I_H_planFlanks.2.1 21 = .ok (.invokevirtual 253, 3) := by decide +kernel
theorem zd_H_planFlanks_24 : decode I_H_planFlanks.2.1 24 = .ok (.invokevirtual 268, 3) := by decide +kernel
theorem zd_H_planFlanks_27 : decode I_H_planFlanks.2.1 27 = .ok (.iinc 1 1, 3) := by decide +kernel
theorem zd_H_planFlanks_30 : decode I_H_planFlanks.2.1 30 = .ok (.goto (-28), 3) := by decide +kernel
theorem zd_H_planFlanks_33 : decode I_H_planFlanks.2.1 33 = .ok (.aload_n 0, 1) := by decide +kernel
theorem zd_H_planFlanks_34 : decode I_H_planFlanks.2.1 34 = .ok (.getfield 56, 3) := by decide +kernel
theorem zd_H_planFlanks_37 : decode I_H_planFlanks.2.1 37 = .ok (.invokevirtual 271, 3) := by decide +kernel
theorem zd_H_planFlanks_40 : decode I_H_planFlanks.2.1 40 = .ok (.return_, 1) := by decide +kernel
theorem zd_F_tellReady_0 : decode I_F_tellReady.2.1 0 = .ok (.aload_n 0, 1) := by decide +kernel
theorem zd_F_tellReady_1 : decode I_F_tellReady.2.1 1 = .ok (.getfield 22, 3) := by decide +kernel
theorem zd_F_tellReady_4 : decode I_F_tellReady.2.1 4 = .ok (.iload_n 1, 1) := by decide +kernel
theorem zd_F_tellReady_5 : decode I_F_tellReady.2.1 5 = .ok (.iload_n 2, 1) := by decide +kernel
theorem zd_F_tellReady_6 : decode I_F_tellReady.2.1 6 = .ok (.iastore, 1) := by decide +kernel
theorem zd_F_tellReady_7 : decode I_F_tellReady.2.1 7 = .ok (.aload_n 0, 1) := by decide +kernel
theorem zd_F_tellReady_8 : decode I_F_tellReady.2.1 8 = .ok (.getfield 25, 3) := by decide +kernel
theorem zd_F_tellReady_11 : decode I_F_tellReady.2.1 11 = .ok (.iload_n 1, 1) := by decide +kernel
theorem zd_F_tellReady_12 : decode I_F_tellReady.2.1 12 = .ok (.iconst 0, 1) := by decide +kernel
theorem zd_F_tellReady_13 : decode I_F_tellReady.2.1 13 = .ok (.iload_n 3, 1) := by decide +kernel
theorem zd_F_tellReady_14 : decode I_F_tellReady.2.1 14 = .ok (.iconst 1, 1) := by decide +kernel
theorem zd_F_tellReady_15 : decode I_F_tellReady.2.1 15 = .ok (.isub, 1) := by decide +kernel
theorem zd_F_tellReady_16 : decode I_F_tellReady.2.1 16 = .ok (.invokestatic 35, 3) := by decide +kernel
theorem zd_F_tellReady_19 : decode I_F_tellReady.2.1 19 = .ok (.iastore, 1) := by decide +kernel
theorem zd_F_tellReady_20 : decode I_F_tellReady.2.1 20 = .ok (.aload_n 0, 1) := by decide +kernel
theorem zd_F_tellReady_21 : decode I_F_tellReady.2.1 21 = .ok (.getfield 28, 3) := by decide +kernel
theorem zd_F_tellReady_24 : decode I_F_tellReady.2.1 24 = .ok (.iload_n 1, 1) := by decide +kernel
theorem zd_F_tellReady_25 : decode I_F_tellReady.2.1 25 = .ok (.iload_n 3, 1) := by decide +kernel
theorem zd_F_tellReady_26 : decode I_F_tellReady.2.1 26 = .ok (.ifCond .ne 7, 3) := by decide +kernel
theorem zd_F_tellReady_29 : decode I_F_tellReady.2.1 29 = .ok (.iconst 1, 1) := by decide +kernel
theorem zd_F_tellReady_30 : decode I_F_tellReady.2.1 30 = .ok (.goto 4, 3) := by decide +kernel
theorem zd_F_tellReady_33 : decode I_F_tellReady.2.1 33 = .ok (.iconst 0, 1) := by decide +kernel
theorem zd_F_tellReady_34 : decode I_F_tellReady.2.1 34 = .ok (.bastore, 1) := by decide +kernel
theorem zd_F_tellReady_35 : decode I_F_tellReady.2.1 35 = .ok (.return_, 1) := by decide +kernel
theorem zd_F_find_0 : decode I_F_find.2.1 0 = .ok (.aload_n 0, 1) := by decide +kernel
theorem zd_F_find_1 : decode I_F_find.2.1 1 = .ok (.iconst (-1), 1) := by decide +kernel
theorem zd_F_find_2 : decode I_F_find.2.1 2 = .ok (.putfield 15, 3) := by decide +kernel
theorem zd_F_find_5 : decode I_F_find.2.1 5 = .ok (.aload_n 0, 1) := by decide +kernel
theorem zd_F_find_6 : decode I_F_find.2.1 6 = .ok (.iconst 0, 1) := by decide +kernel
theorem zd_F_find_7 : decode I_F_find.2.1 7 = .ok (.putfield 19, 3) := by decide +kernel
theorem zd_F_find_10 : decode I_F_find.2.1 10 = .ok (.aload_n 0, 1) := by decide +kernel
theorem zd_F_find_11 : decode I_F_find.2.1 11 = .ok (.iconst 0, 1) := by decide +kernel
theorem zd_F_find_12 : decode I_F_find.2.1 12 = .ok (.iconst 0, 1) := by decide +kernel
theorem zd_F_find_13 : decode I_F_find.2.1 13 = .ok (.iconst 0, 1) := by decide +kernel
theorem zd_F_find_14 : decode I_F_find.2.1 14 = .ok (.invokestatic 41, 3) := by decide +kernel
theorem zd_F_find_17 : decode I_F_find.2.1 17 = .ok (.return_, 1) := by decide +kernel
theorem zd_F_tryFrom_0 : decode I_F_tryFrom.2.1 0 = .ok (.iload_n 1, 1) := by decide +kernel
theorem zd_F_tryFrom_1 : decode I_F_tryFrom.2.1 1 = .ok (.bipush 6, 2) := by decide +kernel
theorem zd_F_tryFrom_3 : decode I_F_tryFrom.2.1 3 = .ok (.if_icmp .lt 10, 3) := by decide +kernel
theorem zd_F_tryFrom_6 : decode I_F_tryFrom.2.1 6 = .ok (.aload_n 0, 1) := by decide +kernel
theorem zd_F_tryFrom_7 : decode I_F_tryFrom.2.1 7 = .ok (.iload_n 2, 1) := by decide +kernel
theorem zd_F_tryFrom_8 : decode I_F_tryFrom.2.1 8 = .ok (.iload_n 3, 1) := by decide +kernel
theorem zd_F_tryFrom_9 : decode I_F_tryFrom.2.1 9 = .ok (.invokevirtual 45, 3) := by decide +kernel
theorem zd_F_tryFrom_12 : decode I_F_tryFrom.2.1 12 = .ok (.return_, 1) := by decide +kernel
theorem zd_F_tryFrom_13 : decode I_F_tryFrom.2.1 13 = .ok (.iconst 0, 1) := by decide +kernel
theorem zd_F_tryFrom_14 : decode I_F_tryFrom.2.1 14 = .ok (.istore 4, 2) := by decide +kernel
theorem zd_F_tryFrom_16 : decode I_F_tryFrom.2.1 16 = .ok (.aload_n 0, 1) := by decide +kernel
theorem zd_F_tryFrom_17 : decode I_F_tryFrom.2.1 17 = .ok (.getfield 28, 3) := by decide +kernel
theorem zd_F_tryFrom_20 : decode I_F_tryFrom.2.1 20 = .ok (.iload_n 1, 1) := by decide +kernel
theorem zd_F_tryFrom_21 : decode I_F_tryFrom.2.1 21 = .ok (.baload, 1) := by decide +kernel
theorem zd_F_tryFrom_22 : decode I_F_tryFrom.2.1 22 = .ok (.ifCond .eq 100, 3) := by decide +kernel
theorem zd_F_tryFrom_25 : decode I_F_tryFrom.2.1 25 = .ok (.iload 4, 2) := by decide +kernel
theorem zd_F_tryFrom_27 : decode I_F_tryFrom.2.1 27 = .ok (.bipush 6, 2) := by decide +kernel
theorem zd_F_tryFrom_29 : decode I_F_tryFrom.2.1 29 = .ok (.if_icmp .ge 93, 3) := by decide +kernel
theorem zd_F_tryFrom_32 : decode I_F_tryFrom.2.1 32 = .ok (.aload_n 0, 1) := by decide +kernel
theorem zd_F_tryFrom_33 : decode I_F_tryFrom.2.1 33 = .ok (.getfield 22, 3) := by decide +kernel
theorem zd_F_tryFrom_36 : decode I_F_tryFrom.2.1 36 = .ok (.iload 4, 2) := by decide +kernel
theorem zd_F_tryFrom_38 : decode I_F_tryFrom.2.1 38 = .ok (.iaload, 1) := by decide +kernel
theorem zd_F_tryFrom_39 : decode I_F_tryFrom.2.1 39 = .ok (.aload_n 0, 1) := by decide +kernel
theorem zd_F_tryFrom_40 : decode I_F_tryFrom.2.1 40 = .ok (.getfield 22, 3) := by decide +kernel
theorem zd_F_tryFrom_43 : decode I_F_tryFrom.2.1 43 = .ok (.iload_n 1, 1) := by decide +kernel
theorem zd_F_tryFrom_44 : decode I_F_tryFrom.2.1 44 = .ok (.iaload, 1) := by decide +kernel
theorem zd_F_tryFrom_45 : decode I_F_tryFrom.2.1 45 = .ok (.isub, 1) := by decide +kernel
theorem zd_F_tryFrom_46 : decode I_F_tryFrom.2.1 46 = .ok (.invokestatic 49, 3) := by decide +kernel
theorem zd_F_tryFrom_49 : decode I_F_tryFrom.2.1 49 = .ok (.istore 5, 2) := by decide +kernel
theorem zd_F_tryFrom_51 : decode I_F_tryFrom.2.1 51 = .ok (.aload_n 0, 1) := by decide +kernel
theorem zd_F_tryFrom_52 : decode I_F_tryFrom.2.1 52 = .ok (.getfield 25, 3) := by decide +kernel
theorem zd_F_tryFrom_55 : decode I_F_tryFrom.2.1 55 = .ok (.iload 4, 2) := by decide +kernel
theorem zd_F_tryFrom_57 : decode I_F_tryFrom.2.1 57 = .ok (.iaload, 1) := by decide +kernel
theorem zd_F_tryFrom_58 : decode I_F_tryFrom.2.1 58 = .ok (.iconst 1, 1) := by decide +kernel
theorem zd_F_tryFrom_59 : decode I_F_tryFrom.2.1 59 = .ok (.if_icmp .lt 57, 3) := by decide +kernel
theorem zd_F_tryFrom_62 : decode I_F_tryFrom.2.1 62 = .ok (.iload 5, 2) := by decide +kernel
theorem zd_F_tryFrom_64 : decode I_F_tryFrom.2.1 64 = .ok (.bipush 80, 2) := by decide +kernel
theorem zd_F_tryFrom_66 : decode I_F_tryFrom.2.1 66 = .ok (.if_icmp .le 6, 3) := by decide +kernel
theorem zd_F_tryFrom_69 : decode I_F_tryFrom.2.1 69 = .ok (.goto 47, 3) := by decide +kernel
theorem zd_F_tryFrom_72 : decode I_F_tryFrom.2.1 72 = .ok (.aload_n 0, 1) := by decide +kernel
theorem zd_F_tryFrom_73 : decode I_F_tryFrom.2.1 73 = .ok (.getfield 25, 3) := by decide +kernel
theorem zd_F_tryFrom_76 : decode I_F_tryFrom.2.1 76 = .ok (.iload 4, 2) := by decide +kernel
theorem zd_F_tryFrom_78 : decode I_F_tryFrom.2.1 78 = .ok (.dup2, 1) := by decide +kernel
theorem zd_F_tryFrom_79 : decode I_F_tryFrom.2.1 79 = .ok (.iaload, 1) := by decide +kernel
theorem zd_F_tryFrom_80 : decode I_F_tryFrom.2.1 80 = .ok (.iconst 1, 1) := by decide +kernel
theorem zd_F_tryFrom_81 : decode I_F_tryFrom.2.1 81 = .ok (.isub, 1) := by decide +kernel
theorem zd_F_tryFrom_82 : decode I_F_tryFrom.2.1 82 = .ok (.iastore, 1) := by decide +kernel
theorem zd_F_tryFrom_83 : decode I_F_tryFrom.2.1 83 = .ok (.aload_n 0, 1) := by decide +kernel
theorem zd_F_tryFrom_84 : decode I_F_tryFrom.2.1 84 = .ok (.getfield 32, 3) := by decide +kernel
theorem zd_F_tryFrom_87 : decode I_F_tryFrom.2.1 87 = .ok (.iload_n 1, 1) := by decide +kernel
theorem zd_F_tryFrom_88 : decode I_F_tryFrom.2.1 88 = .ok (.iload 4, 2) := by decide +kernel
theorem zd_F_tryFrom_90 : decode I_F_tryFrom.2.1 90 = .ok (.iastore, 1) := by decide +kernel
theorem zd_F_tryFrom_91 : decode I_F_tryFrom.2.1 91 = .ok (.aload_n 0, 1) := by decide +kernel
theorem zd_F_tryFrom_92 : decode I_F_tryFrom.2.1 92 = .ok (.iload_n 1, 1) := by decide +kernel
theorem zd_F_tryFrom_93 : decode I_F_tryFrom.2.1 93 = .ok (.iconst 1, 1) := by decide +kernel
theorem zd_F_tryFrom_94 : decode I_F_tryFrom.2.1 94 = .ok (.iadd, 1) := by decide +kernel
theorem zd_F_tryFrom_95 : decode I_F_tryFrom.2.1 95 = .ok (.iload_n 2, 1) := by decide +kernel
theorem zd_F_tryFrom_96 : decode I_F_tryFrom.2.1 96 = .ok (.iconst 1, 1) := by decide +kernel
theorem zd_F_tryFrom_97 : decode I_F_tryFrom.2.1 97 = .ok (.iadd, 1) := by decide +kernel
theorem zd_F_tryFrom_98 : decode I_F_tryFrom.2.1 98 = .ok (.iload_n 3, 1) := by decide +kernel
theorem zd_F_tryFrom_99 : decode I_F_tryFrom.2.1 99 = .ok (.iload 5, 2) := by decide +kernel
theorem zd_F_tryFrom_101 : decode I_F_tryFrom.2.1 101 = .ok (.iadd, 1) := by decide +kernel
theorem zd_F_tryFrom_102 : decode I_F_tryFrom.2.1 102 = .ok (.invokestatic 41, 3) := by decide +kernel
theorem zd_F_tryFrom_105 : decode I_F_tryFrom.2.1 105 = .ok (.aload_n 0, 1) := by decide +kernel
theorem zd_F_tryFrom_106 : decode I_F_tryFrom.2.1 106 = .ok (.getfield 25, 3) := by decide +kernel
theorem zd_F_tryFrom_109 : decode I_F_tryFrom.2.1 109 = .ok (.iload 4, 2) := by decide +kernel
theorem zd_F_tryFrom_111 : decode I_F_tryFrom.2.1 111 = .ok (.dup2, 1) := by decide +kernel
theorem zd_F_tryFrom_112 : decode I_F_tryFrom.2.1 112 = .ok (.iaload, 1) := by decide +kernel
theorem zd_F_tryFrom_113 : decode I_F_tryFrom.2.1 113 = .ok (.iconst 1, 1) := by decide +kernel
theorem zd_F_tryFrom_114 : decode I_F_tryFrom.2.1 114 = .ok (.iadd, 1) := by decide +kernel
theorem zd_F_tryFrom_115 : decode I_F_tryFrom.2.1 115 = .ok (.iastore, 1) := by decide +kernel
theorem zd_F_tryFrom_116 : decode I_F_tryFrom.2.1 116 = .ok (.iinc 4 1, 3) := by decide +kernel
theorem zd_F_tryFrom_119 : decode I_F_tryFrom.2.1 119 = .ok (.goto (-103), 3) := by decide +kernel
theorem zd_F_tryFrom_122 : decode I_F_tryFrom.2.1 122 = .ok (.aload_n 0, 1) := by decide +kernel
theorem zd_F_tryFrom_123 : decode I_F_tryFrom.2.1 123 = .ok (.getfield 32, 3) := by decide +kernel
theorem zd_F_tryFrom_126 : decode I_F_tryFrom.2.1 126 = .ok (.iload_n 1, 1) := by decide +kernel
theorem zd_F_tryFrom_127 : decode I_F_tryFrom.2.1 127 = .ok (.bipush (-9), 2) := by decide +kernel
theorem zd_F_tryFrom_129 : decode I_F_tryFrom.2.1 129 = .ok (.iastore, 1) := by decide +kernel
theorem zd_F_tryFrom_130 : decode I_F_tryFrom.2.1 130 = .ok (.aload_n 0, 1) := by decide +kernel
theorem zd_F_tryFrom_131 : decode I_F_tryFrom.2.1 131 = .ok (.iload_n 1, 1) := by decide +kernel
theorem zd_F_tryFrom_132 : decode I_F_tryFrom.2.1 132 = .ok (.iconst 1, 1) := by decide +kernel
theorem zd_F_tryFrom_133 : decode I_F_tryFrom.2.1 133 = .ok (.iadd, 1) := by decide +kernel
theorem zd_F_tryFrom_134 : decode I_F_tryFrom.2.1 134 = .ok (.iload_n 2, 1) := by decide +kernel
theorem zd_F_tryFrom_135 : decode I_F_tryFrom.2.1 135 = .ok (.iload_n 3, 1) := by decide +kernel
theorem zd_F_tryFrom_136 : decode I_F_tryFrom.2.1 136 = .ok (.invokestatic 41, 3) := by decide +kernel
theorem zd_F_tryFrom_139 : decode I_F_tryFrom.2.1 139 = .ok (.return_, 1) := by decide +kernel
theorem zd_F_keepIfBetter_0 : decode I_F_keepIfBetter.2.1 0 = .ok (.iload_n 1, 1) := by decide +kernel
theorem zd_F_keepIfBetter_1 : decode I_F_keepIfBetter.2.1 1 = .ok (.aload_n 0, 1) := by decide +kernel
theorem zd_F_keepIfBetter_2 : decode I_F_keepIfBetter.2.1 2 = .ok (.getfield 15, 3) := by decide +kernel
theorem zd_F_keepIfBetter_5 : decode I_F_keepIfBetter.2.1 5 = .ok (.if_icmp .lt 19, 3) := by decide +kernel
theorem zd_F_keepIfBetter_8 : decode I_F_keepIfBetter.2.1 8 = .ok (.iload_n 1, 1) := by decide +kernel
theorem zd_F_keepIfBetter_9 : decode I_F_keepIfBetter.2.1 9 = .ok (.aload_n 0, 1) := by decide +kernel
theorem zd_F_keepIfBetter_10 : decode I_F_keepIfBetter.2.1 10 = .ok (.getfield 15, 3) := by decide +kernel
theorem zd_F_keepIfBetter_13 : decode I_F_keepIfBetter.2.1 13 = .ok (.if_icmp .ne 12, 3) := by decide +kernel
theorem zd_F_keepIfBetter_16 : decode I_F_keepIfBetter.2.1 16 = .ok (.iload_n 2, 1) := by decide +kernel
theorem zd_F_keepIfBetter_17 : decode I_F_keepIfBetter.2.1 17 = .ok (.aload_n 0, 1) := by decide +kernel
theorem zd_F_keepIfBetter_18 : decode I_F_keepIfBetter.2.1 18 = .ok (.getfield 19, 3) := by decide +kernel
theorem zd_F_keepIfBetter_21 : decode I_F_keepIfBetter.2.1 21 = .ok (.if_icmp .lt 4, 3) := by decide +kernel
theorem zd_F_keepIfBetter_24 : decode I_F_keepIfBetter.2.1 24 = .ok (.return_, 1) := by decide +kernel
theorem zd_F_keepIfBetter_25 : decode I_F_keepIfBetter.2.1 25 = .ok (.aload_n 0, 1) := by decide +kernel
theorem zd_F_keepIfBetter_26 : decode I_F_keepIfBetter.2.1 26 = .ok (.iload_n 1, 1) := by decide +kernel
theorem zd_F_keepIfBetter_27 : decode I_F_keepIfBetter.2.1 27 = .ok (.putfield 15, 3) := by decide +kernel
theorem zd_F_keepIfBetter_30 : decode I_F_keepIfBetter.2.1 30 = .ok (.aload_n 0, 1) := by decide +kernel
theorem zd_F_keepIfBetter_31 : decode I_F_keepIfBetter.2.1 31 = .ok (.iload_n 2, 1) := by decide +kernel
theorem zd_F_keepIfBetter_32 : decode I_F_keepIfBetter.2.1 32 = .ok (.putfield 19, 3) := by decide +kernel
theorem zd_F_keepIfBetter_35 : decode I_F_keepIfBetter.2.1 35 = .ok (.aload_n 0, 1) := by decide +kernel
theorem zd_F_keepIfBetter_36 : decode I_F_keepIfBetter.2.1 36 = .ok (.getfield 32, 3) := by decide +kernel
theorem zd_F_keepIfBetter_39 : decode I_F_keepIfBetter.2.1 39 = .ok (.iconst 0, 1) := by decide +kernel
theorem zd_F_keepIfBetter_40 : decode I_F_keepIfBetter.2.1 40 = .ok (.aload_n 0, 1) := by decide +kernel
theorem zd_F_keepIfBetter_41 : decode I_F_keepIfBetter.2.1 41 = .ok (.getfield 9, 3) := by decide +kernel
theorem zd_F_keepIfBetter_44 : decode I_F_keepIfBetter.2.1 44 = .ok (.iconst 0, 1) := by decide +kernel
theorem zd_F_keepIfBetter_45 : decode I_F_keepIfBetter.2.1 45 = .ok (.bipush 6, 2) := by decide +kernel
theorem zd_F_keepIfBetter_47 : decode I_F_keepIfBetter.2.1 47 = .ok (.invokestatic 53, 3) := by decide +kernel
theorem zd_F_keepIfBetter_50 : decode I_F_keepIfBetter.2.1 50 = .ok (.return_, 1) := by decide +kernel
theorem zd_H_flank_0 : decode I_H_flank.2.1 0 = .ok (.iload_n 1, 1) := by decide +kernel
theorem zd_H_flank_1 : decode I_H_flank.2.1 1 = .ok (.invokestatic 80, 3) := by decide +kernel
theorem zd_H_flank_4 : decode I_H_flank.2.1 4 = .ok (.ifCond .ne 9, 3) := by decide +kernel
theorem zd_H_flank_7 : decode I_H_flank.2.1 7 = .ok (.aload_n 0, 1) := by decide +kernel
theorem zd_H_flank_8 : decode I_H_flank.2.1 8 = .ok (.iconst (-1), 1) := by decide +kernel
theorem zd_H_flank_9 : decode I_H_flank.2.1 9 = .ok (.invokevirtual 84, 3) := by decide +kernel
theorem zd_H_flank_12 : decode I_H_flank.2.1 12 = .ok (.ireturn, 1) := by decide +kernel
theorem zd_H_flank_13 : decode I_H_flank.2.1 13 = .ok (.aload_n 0, 1) := by decide +kernel
theorem zd_H_flank_14 : decode I_H_flank.2.1 14 = .ok (.invokevirtual 256, 3) := by decide +kernel
theorem zd_H_flank_17 : decode I_H_flank.2.1 17 = .ok (.aload_n 0, 1) := by decide +kernel
theorem zd_H_flank_18 : decode I_H_flank.2.1 18 = .ok (.getfield 56, 3) := by decide +kernel
theorem zd_H_flank_21 : decode I_H_flank.2.1 21 = .ok (.getfield 265, 3) := by decide +kernel
theorem zd_H_flank_24 : decode I_H_flank.2.1 24 = .ok (.iload_n 1, 1) := by decide +kernel
theorem zd_H_flank_25 : decode I_H_flank.2.1 25 = .ok (.iaload, 1) := by decide +kernel
theorem zd_H_flank_26 : decode I_H_flank.2.1 26 = .ok (.ireturn, 1) := by decide +kernel
theorem zd_H_box_0 : decode I_H_box.2.1 0 = .ok (.iload_n 1, 1) := by decide +kernel
theorem zd_H_box_1 : decode I_H_box.2.1 1 = .ok (.invokestatic 274, 3) := by decide +kernel
theorem zd_H_box_4 : decode I_H_box.2.1 4 = .ok (.ifCond .ne 9, 3) := by decide +kernel
theorem zd_H_box_7 : decode I_H_box.2.1 7 = .ok (.aload_n 0, 1) := by decide +kernel
theorem zd_H_box_8 : decode I_H_box.2.1 8 = .ok (.iconst (-1), 1) := by decide +kernel
theorem zd_H_box_9 : decode I_H_box.2.1 9 = .ok (.invokevirtual 84, 3) := by decide +kernel
theorem zd_H_box_12 : decode I_H_box.2.1 12 = .ok (.ireturn, 1) := by decide +kernel
theorem zd_H_box_13 : decode I_H_box.2.1 13 = .ok (.iload_n 2, 1) := by decide +kernel
theorem zd_H_box_14 : decode I_H_box.2.1 14 = .ok (.iconst 0, 1) := by decide +kernel
theorem zd_H_box_15 : decode I_H_box.2.1 15 = .ok (.sipush 9999, 3) := by decide +kernel
theorem zd_H_box_18 : decode I_H_box.2.1 18 = .ok (.invokestatic 88, 3) := by decide +kernel
theorem zd_H_box_21 : decode I_H_box.2.1 21 = .ok (.istore_n 3, 1) := by decide +kernel
theorem zd_H_box_22 : decode I_H_box.2.1 22 = .ok (.iload_n 3, 1) := by decide +kernel
theorem zd_H_box_23 : decode I_H_box.2.1 23 = .ok (.ifCond .eq 9, 3) := by decide +kernel
theorem zd_H_box_26 : decode I_H_box.2.1 26 = .ok (.aload_n 0, 1) := by decide +kernel
theorem zd_H_box_27 : decode I_H_box.2.1 27 = .ok (.iload_n 3, 1) := by decide +kernel
theorem zd_H_box_28 : decode I_H_box.2.1 28 = .ok (.invokevirtual 84, 3) := by decide +kernel
theorem zd_H_box_31 : decode I_H_box.2.1 31 = .ok (.ireturn, 1) := by decide +kernel
theorem zd_H_box_32 : decode I_H_box.2.1 32 = .ok (.aload_n 0, 1) := by decide +kernel
theorem zd_H_box_33 : decode I_H_box.2.1 33 = .ok (.getfield 63, 3) := by decide +kernel
theorem zd_H_box_36 : decode I_H_box.2.1 36 = .ok (.getfield 277, 3) := by decide +kernel
theorem zd_H_box_39 : decode I_H_box.2.1 39 = .ok (.iload_n 1, 1) := by decide +kernel
theorem zd_H_box_40 : decode I_H_box.2.1 40 = .ok (.iaload, 1) := by decide +kernel
theorem zd_H_box_41 : decode I_H_box.2.1 41 = .ok (.istore 4, 2) := by decide +kernel
theorem zd_H_box_43 : decode I_H_box.2.1 43 = .ok (.aload_n 0, 1) := by decide +kernel
theorem zd_H_box_44 : decode I_H_box.2.1 44 = .ok (.getfield 63, 3) := by decide +kernel
theorem zd_H_box_47 : decode I_H_box.2.1 47 = .ok (.getfield 277, 3) := by decide +kernel
theorem zd_H_box_50 : decode I_H_box.2.1 50 = .ok (.iload_n 1, 1) := by decide +kernel
theorem zd_H_box_51 : decode I_H_box.2.1 51 = .ok (.iload_n 2, 1) := by decide +kernel
theorem zd_H_box_52 : decode I_H_box.2.1 52 = .ok (.iastore, 1) := by decide +kernel
theorem zd_H_box_53 : decode I_H_box.2.1 53 = .ok (.iload 4, 2) := by decide +kernel
theorem zd_H_box_55 : decode I_H_box.2.1 55 = .ok (.ireturn, 1) := by decide +kernel
theorem zd_H_isBox_0 : decode I_H_isBox.2.1 0 = .ok (.iload_n 0, 1) := by decide +kernel
theorem zd_H_isBox_1 : decode I_H_isBox.2.1 1 = .ok (.ifCond .lt 13, 3) := by decide +kernel
theorem zd_H_isBox_4 : decode I_H_isBox.2.1 4 = .ok (.iload_n 0, 1) := by decide +kernel
theorem zd_H_isBox_5 : decode I_H_isBox.2.1 5 = .ok (.bipush 12, 2) := by decide +kernel
theorem zd_H_isBox_7 : decode I_H_isBox.2.1 7 = .ok (.if_icmp .ge 7, 3) := by decide +kernel
theorem zd_H_isBox_10 : decode I_H_isBox.2.1 10 = .ok (.iconst 1, 1) := by decide +kernel
theorem zd_H_isBox_11 : decode I_H_isBox.2.1 11 = .ok (.goto 4, 3) := by decide +kernel
theorem zd_H_isBox_14 : decode I_H_isBox.2.1 14 = .ok (.iconst 0, 1) := by decide +kernel
theorem zd_H_isBox_15 : decode I_H_isBox.2.1 15 = .ok (.ireturn, 1) := by decide +kernel
theorem zd_H_look_0 : decode I_H_look.2.1 0 = .ok (.iload_n 1, 1) := by decide +kernel
theorem zd_H_look_1 : decode I_H_look.2.1 1 = .ok (.invokestatic 274, 3) := by decide +kernel
theorem zd_H_look_4 : decode I_H_look.2.1 4 = .ok (.ifCond .ne 9, 3) := by decide +kernel
theorem zd_H_look_7 : decode I_H_look.2.1 7 = .ok (.aload_n 0, 1) := by decide +kernel
theorem zd_H_look_8 : decode I_H_look.2.1 8 = .ok (.iconst (-1), 1) := by decide +kernel
theorem zd_H_look_9 : decode I_H_look.2.1 9 = .ok (.invokevirtual 84, 3) := by decide +kernel
theorem zd_H_look_12 : decode I_H_look.2.1 12 = .ok (.ireturn, 1) := by decide +kernel
theorem zd_H_look_13 : decode I_H_look.2.1 13 = .ok (.iload_n 2, 1) := by decide +kernel
theorem zd_H_look_14 : decode I_H_look.2.1 14 = .ok (.iconst 0, 1) := by decide +kernel
theorem zd_H_look_15 : decode I_H_look.2.1 15 = .ok (.bipush 9, 2) := by decide +kernel
theorem zd_H_look_17 : decode I_H_look.2.1 17 = .ok (.invokestatic 88, 3) := by decide +kernel
theorem zd_H_look_20 : decode I_H_look.2.1 20 = .ok (.istore_n 3, 1) := by decide +kernel
theorem zd_H_look_21 : decode I_H_look.2.1 21 = .ok (.iload_n 3, 1) := by decide +kernel
theorem zd_H_look_22 : decode I_H_look.2.1 22 = .ok (.ifCond .eq 9, 3) := by decide +kernel
theorem zd_H_look_25 : decode I_H_look.2.1 25 = .ok (.aload_n 0, 1) := by decide +kernel
theorem zd_H_look_26 : decode I_H_look.2.1 26 = .ok (.iload_n 3, 1) := by decide +kernel
theorem zd_H_look_27 : decode I_H_look.2.1 27 = .ok (.invokevirtual 84, 3) := by decide +kernel
theorem zd_H_look_30 : decode I_H_look.2.1 30 = .ok (.ireturn, 1) := by decide +kernel
theorem zd_H_look_31 : decode I_H_look.2.1 31 = .ok (.aload_n 0, 1) := by decide +kernel
theorem zd_H_look_32 : decode I_H_look.2.1 32 = .ok (.getfield 63, 3) := by decide +kernel
theorem zd_H_look_35 : decode I_H_look.2.1 35 = .ok (.getfield 277, 3) := by decide +kernel
theorem zd_H_look_38 : decode I_H_look.2.1 38 = .ok (.iload_n 1, 1) := by decide +kernel
theorem zd_H_look_39 : decode I_H_look.2.1 39 = .ok (.aload_n 0, 1) := by decide +kernel
theorem zd_H_look_40 : decode I_H_look.2.1 40 = .ok (.getfield 63, 3) := by decide +kernel
theorem zd_H_look_43 : decode I_H_look.2.1 43 = .ok (.getfield 277, 3) := by decide +kernel
theorem zd_H_look_46 : decode I_H_look.2.1 46 = .ok (.iload_n 1, 1) := by decide +kernel
theorem zd_H_look_47 : decode I_H_look.2.1 47 = .ok (.iaload, 1) := by decide +kernel
theorem zd_H_look_48 : decode I_H_look.2.1 48 = .ok (.iload_n 2, 1) := by decide +kernel
theorem zd_H_look_49 : decode I_H_look.2.1 49 = .ok (.invokestatic 280, 3) := by decide +kernel
theorem zd_H_look_52 : decode I_H_look.2.1 52 = .ok (.iastore, 1) := by decide +kernel
theorem zd_H_look_53 : decode I_H_look.2.1 53 = .ok (.aload_n 0, 1) := by decide +kernel
theorem zd_H_look_54 : decode I_H_look.2.1 54 = .ok (.getfield 63, 3) := by decide +kernel
theorem zd_H_look_57 : decode I_H_look.2.1 57 = .ok (.getfield 277, 3) := by decide +kernel
theorem zd_H_look_60 : decode I_H_look.2.1 60 = .ok (.iload_n 1, 1) := by decide +kernel
theorem zd_H_look_61 : decode I_H_look.2.1 61 = .ok (.iaload, 1) := by decide +kernel
theorem zd_H_look_62 : decode I_H_look.2.1 62 = .ok (.ireturn, 1) := by decide +kernel
theorem zd_S_leftOf_0 : decode I_S_leftOf.2.1 0 = .ok (.iload_n 0, 1) := by decide +kernel
theorem zd_S_leftOf_1 : decode I_S_leftOf.2.1 1 = .ok (.bipush 10, 2) := by decide +kernel
theorem zd_S_leftOf_3 : decode I_S_leftOf.2.1 3 = .ok (.iload_n 1, 1) := by decide +kernel
theorem zd_S_leftOf_4 : decode I_S_leftOf.2.1 4 = .ok (.isub, 1) := by decide +kernel
theorem zd_S_leftOf_5 : decode I_S_leftOf.2.1 5 = .ok (.imul, 1) := by decide +kernel
theorem zd_S_leftOf_6 : decode I_S_leftOf.2.1 6 = .ok (.bipush 10, 2) := by decide +kernel
theorem zd_S_leftOf_8 : decode I_S_leftOf.2.1 8 = .ok (.idiv, 1) := by decide +kernel
theorem zd_S_leftOf_9 : decode I_S_leftOf.2.1 9 = .ok (.ireturn, 1) := by decide +kernel
theorem zd_H_looks_0 : decode I_H_looks.2.1 0 = .ok (.iload_n 1, 1) := by decide +kernel
theorem zd_H_looks_1 : decode I_H_looks.2.1 1 = .ok (.iload_n 2, 1) := by decide +kernel
theorem zd_H_looks_2 : decode I_H_looks.2.1 2 = .ok (.invokestatic 283, 3) := by decide +kernel
theorem zd_H_looks_5 : decode I_H_looks.2.1 5 = .ok (.istore_n 3, 1) := by decide +kernel
theorem zd_H_looks_6 : decode I_H_looks.2.1 6 = .ok (.iload_n 3, 1) := by decide +kernel
theorem zd_H_looks_7 : decode I_H_looks.2.1 7 = .ok (.ifCond .eq 9, 3) := by decide +kernel
theorem zd_H_looks_10 : decode I_H_looks.2.1 10 = .ok (.aload_n 0, 1) := by decide +kernel
theorem zd_H_looks_11 : decode I_H_looks.2.1 11 = .ok (.iload_n 3, 1) := by decide +kernel
theorem zd_H_looks_12 : decode I_H_looks.2.1 12 = .ok (.invokevirtual 84, 3) := by decide +kernel
theorem zd_H_looks_15 : decode I_H_looks.2.1 15 = .ok (.ireturn, 1) := by decide +kernel
theorem zd_H_looks_16 : decode I_H_looks.2.1 16 = .ok (.aload_n 0, 1) := by decide +kernel
theorem zd_H_looks_17 : decode I_H_looks.2.1 17 = .ok (.getfield 63, 3) := by decide +kernel
theorem zd_H_looks_20 : decode I_H_looks.2.1 20 = .ok (.iload_n 1, 1) := by decide +kernel
theorem zd_H_looks_21 : decode I_H_looks.2.1 21 = .ok (.iload_n 2, 1) := by decide +kernel
theorem zd_H_looks_22 : decode I_H_looks.2.1 22 = .ok (.invokevirtual 286, 3) := by decide +kernel
theorem zd_H_looks_25 : decode I_H_looks.2.1 25 = .ok (.aload_n 0, 1) := by decide +kernel
theorem zd_H_looks_26 : decode I_H_looks.2.1 26 = .ok (.getfield 63, 3) := by decide +kernel
theorem zd_H_looks_29 : decode I_H_looks.2.1 29 = .ok (.getfield 289, 3) := by decide +kernel
theorem zd_H_looks_32 : decode I_H_looks.2.1 32 = .ok (.ireturn, 1) := by decide +kernel
theorem zd_H_wrongLooks_0 : decode I_H_wrongLooks.2.1 0 = .ok (.iload_n 0, 1) := by decide +kernel
theorem zd_H_wrongLooks_1 : decode I_H_wrongLooks.2.1 1 = .ok (.iconst 1, 1) := by decide +kernel
theorem zd_H_wrongLooks_2 : decode I_H_wrongLooks.2.1 2 = .ok (.if_icmp .lt 7, 3) := by decide +kernel
theorem zd_H_wrongLooks_5 : decode I_H_wrongLooks.2.1 5 = .ok (.iload_n 1, 1) := by decide +kernel
theorem zd_H_wrongLooks_6 : decode I_H_wrongLooks.2.1 6 = .ok (.ifCond .ge 6, 3) := by decide +kernel
theorem zd_H_wrongLooks_9 : decode I_H_wrongLooks.2.1 9 = .ok (.bipush (-4), 2) := by decide +kernel
theorem zd_H_wrongLooks_11 : decode I_H_wrongLooks.2.1 11 = .ok (.ireturn, 1) := by decide +kernel
theorem zd_H_wrongLooks_12 : decode I_H_wrongLooks.2.1 12 = .ok (.iload_n 0, 1) := by decide +kernel
theorem zd_H_wrongLooks_13 : decode I_H_wrongLooks.2.1 13 = .ok (.bipush 20, 2) := by decide +kernel
theorem zd_H_wrongLooks_15 : decode I_H_wrongLooks.2.1 15 = .ok (.if_icmp .gt 9, 3) := by decide +kernel
theorem zd_H_wrongLooks_18 : decode I_H_wrongLooks.2.1 18 = .ok (.iload_n 1, 1) := by decide +kernel
theorem zd_H_wrongLooks_19 : decode I_H_wrongLooks.2.1 19 = .ok (.bipush 9, 2) := by decide +kernel
theorem zd_H_wrongLooks_21 : decode I_H_wrongLooks.2.1 21 = .ok (.if_icmp .le 8, 3) := by decide +kernel
theorem zd_H_wrongLooks_24 : decode I_H_wrongLooks.2.1 24 = .ok (.bipush (-6), 2) := by decide +kernel
theorem zd_H_wrongLooks_26 : decode I_H_wrongLooks.2.1 26 = .ok (.goto 4, 3) := by decide +kernel
theorem zd_H_wrongLooks_29 : decode I_H_wrongLooks.2.1 29 = .ok (.iconst 0, 1) := by decide +kernel
theorem zd_H_wrongLooks_30 : decode I_H_wrongLooks.2.1 30 = .ok (.ireturn, 1) := by decide +kernel
theorem zd_S_plan_0 : decode I_S_plan.2.1 0 = .ok (.aload_n 0, 1) := by decide +kernel
theorem zd_S_plan_1 : decode I_S_plan.2.1 1 = .ok (.getfield 9, 3) := by decide +kernel
theorem zd_S_plan_4 : decode I_S_plan.2.1 4 = .ok (.iconst 0, 1) := by decide +kernel
theorem zd_S_plan_5 : decode I_S_plan.2.1 5 = .ok (.aload_n 0, 1) := by decide +kernel
theorem zd_S_plan_6 : decode I_S_plan.2.1 6 = .ok (.getfield 22, 3) := by decide +kernel
theorem zd_S_plan_9 : decode I_S_plan.2.1 9 = .ok (.iconst 0, 1) := by decide +kernel
theorem zd_S_plan_10 : decode I_S_plan.2.1 10 = .ok (.bipush 12, 2) := by decide +kernel
theorem zd_S_plan_12 : decode I_S_plan.2.1 12 = .ok (.invokestatic 25, 3) := by decide +kernel
theorem zd_S_plan_15 : decode I_S_plan.2.1 15 = .ok (.aload_n 0, 1) := by decide +kernel
theorem zd_S_plan_16 : decode I_S_plan.2.1 16 = .ok (.iconst 0, 1) := by decide +kernel
theorem zd_S_plan_17 : decode I_S_plan.2.1 17 = .ok (.putfield 18, 3) := by decide +kernel
theorem zd_S_plan_20 : decode I_S_plan.2.1 20 = .ok (.iconst 0, 1) := by decide +kernel
theorem zd_S_plan_21 : decode I_S_plan.2.1 21 = .ok (.istore_n 3, 1) := by decide +kernel
theorem zd_S_plan_22 : decode I_S_plan.2.1 22 = .ok (.iload_n 3, 1) := by decide +kernel
theorem zd_S_plan_23 : decode I_S_plan.2.1 23 = .ok (.iload_n 1, 1) := by decide +kernel
theorem zd_S_plan_24 : decode I_S_plan.2.1 24 = .ok (.if_icmp .ge 68, 3) := by decide +kernel
theorem zd_S_plan_27 : decode I_S_plan.2.1 27 = .ok (.iload_n 3, 1) := by decide +kernel
theorem zd_S_plan_28 : decode I_S_plan.2.1 28 = .ok (.bipush 20, 2) := by decide +kernel
theorem zd_S_plan_30 : decode I_S_plan.2.1 30 = .ok (.if_icmp .ge 62, 3) := by decide +kernel
theorem zd_S_plan_33 : decode I_S_plan.2.1 33 = .ok (.aload_n 0, 1) := by decide +kernel
theorem zd_S_plan_34 : decode I_S_plan.2.1 34 = .ok (.iload_n 2, 1) := by decide +kernel
theorem zd_S_plan_35 : decode I_S_plan.2.1 35 = .ok (.invokevirtual 31, 3) := by decide +kernel
theorem zd_S_plan_38 : decode I_S_plan.2.1 38 = .ok (.istore 4, 2) := by decide +kernel
theorem zd_S_plan_40 : decode I_S_plan.2.1 40 = .ok (.aload_n 0, 1) := by decide +kernel
theorem zd_S_plan_41 : decode I_S_plan.2.1 41 = .ok (.getfield 15, 3) := by decide +kernel
theorem zd_S_plan_44 : decode I_S_plan.2.1 44 = .ok (.iload_n 3, 1) := by decide +kernel
theorem zd_S_plan_45 : decode I_S_plan.2.1 45 = .ok (.iload 4, 2) := by decide +kernel
theorem zd_S_plan_47 : decode I_S_plan.2.1 47 = .ok (.iastore, 1) := by decide +kernel
theorem zd_S_plan_48 : decode I_S_plan.2.1 48 = .ok (.aload_n 0, 1) := by decide +kernel
theorem zd_S_plan_49 : decode I_S_plan.2.1 49 = .ok (.dup, 1) := by decide +kernel
theorem zd_S_plan_50 : decode I_S_plan.2.1 50 = .ok (.getfield 18, 3) := by decide +kernel
theorem zd_S_plan_53 : decode I_S_plan.2.1 53 = .ok (.aload_n 0, 1) := by decide +kernel
theorem zd_S_plan_54 : decode I_S_plan.2.1 54 = .ok (.getfield 22, 3) := by decide +kernel
theorem zd_S_plan_57 : decode I_S_plan.2.1 57 = .ok (.iload 4, 2) := by decide +kernel
theorem zd_S_plan_59 : decode I_S_plan.2.1 59 = .ok (.iaload, 1) := by decide +kernel
theorem zd_S_plan_60 : decode I_S_plan.2.1 60 = .ok (.iload_n 2, 1) := by decide +kernel
theorem zd_S_plan_61 : decode I_S_plan.2.1 61 = .ok (.invokestatic 35, 3) := by decide +kernel
theorem zd_S_plan_64 : decode I_S_plan.2.1 64 = .ok (.iadd, 1) := by decide +kernel
theorem zd_S_plan_65 : decode I_S_plan.2.1 65 = .ok (.putfield 18, 3) := by decide +kernel
theorem zd_S_plan_68 : decode I_S_plan.2.1 68 = .ok (.aload_n 0, 1) := by decide +kernel
theorem zd_S_plan_69 : decode I_S_plan.2.1 69 = .ok (.getfield 22, 3) := by decide +kernel
theorem zd_S_plan_72 : decode I_S_plan.2.1 72 = .ok (.iload 4, 2) := by decide +kernel
theorem zd_S_plan_74 : decode I_S_plan.2.1 74 = .ok (.aload_n 0, 1) := by decide +kernel
theorem zd_S_plan_75 : decode I_S_plan.2.1 75 = .ok (.getfield 22, 3) := by decide +kernel
theorem zd_S_plan_78 : decode I_S_plan.2.1 78 = .ok (.iload 4, 2) := by decide +kernel
theorem zd_S_plan_80 : decode I_S_plan.2.1 80 = .ok (.iaload, 1) := by decide +kernel
theorem zd_S_plan_81 : decode I_S_plan.2.1 81 = .ok (.iload_n 2, 1) := by decide +kernel
theorem zd_S_plan_82 : decode I_S_plan.2.1 82 = .ok (.invokestatic 39, 3) := by decide +kernel
theorem zd_S_plan_85 : decode I_S_plan.2.1 85 = .ok (.iastore, 1) := by decide +kernel
theorem zd_S_plan_86 : decode I_S_plan.2.1 86 = .ok (.iinc 3 1, 3) := by decide +kernel
theorem zd_S_plan_89 : decode I_S_plan.2.1 89 = .ok (.goto (-67), 3) := by decide +kernel
theorem zd_S_plan_92 : decode I_S_plan.2.1 92 = .ok (.return_, 1) := by decide +kernel
theorem zd_S_richest_0 : decode I_S_richest.2.1 0 = .ok (.iconst 0, 1) := by decide +kernel
theorem zd_S_richest_1 : decode I_S_richest.2.1 1 = .ok (.istore_n 2, 1) := by decide +kernel
theorem zd_S_richest_2 : decode I_S_richest.2.1 2 = .ok (.iconst 1, 1) := by decide +kernel
theorem zd_S_richest_3 : decode I_S_richest.2.1 3 = .ok (.istore_n 3, 1) := by decide +kernel
theorem zd_S_richest_4 : decode I_S_richest.2.1 4 = .ok (.iload_n 3, 1) := by decide +kernel
theorem zd_S_richest_5 : decode I_S_richest.2.1 5 = .ok (.bipush 12, 2) := by decide +kernel
theorem zd_S_richest_7 : decode I_S_richest.2.1 7 = .ok (.if_icmp .ge 34, 3) := by decide +kernel
theorem zd_S_richest_10 : decode I_S_richest.2.1 10 = .ok (.aload_n 0, 1) := by decide +kernel
theorem zd_S_richest_11 : decode I_S_richest.2.1 11 = .ok (.getfield 22, 3) := by decide +kernel
theorem zd_S_richest_14 : decode I_S_richest.2.1 14 = .ok (.iload_n 3, 1) := by decide +kernel
theorem zd_S_richest_15 : decode I_S_richest.2.1 15 = .ok (.iaload, 1) := by decide +kernel
theorem zd_S_richest_16 : decode I_S_richest.2.1 16 = .ok (.iload_n 1, 1) := by decide +kernel
theorem zd_S_richest_17 : decode I_S_richest.2.1 17 = .ok (.invokestatic 35, 3) := by decide +kernel
theorem zd_S_richest_20 : decode I_S_richest.2.1 20 = .ok (.aload_n 0, 1) := by decide +kernel
theorem zd_S_richest_21 : decode I_S_richest.2.1 21 = .ok (.getfield 22, 3) := by decide +kernel
theorem zd_S_richest_24 : decode I_S_richest.2.1 24 = .ok (.iload_n 2, 1) := by decide +kernel
theorem zd_S_richest_25 : decode I_S_richest.2.1 25 = .ok (.iaload, 1) := by decide +kernel
theorem zd_S_richest_26 : decode I_S_richest.2.1 26 = .ok (.iload_n 1, 1) := by decide +kernel
theorem zd_S_richest_27 : decode I_S_richest.2.1 27 = .ok (.invokestatic 35, 3) := by decide +kernel
theorem zd_S_richest_30 : decode I_S_richest.2.1 30 = .ok (.if_icmp .le 5, 3) := by decide +kernel
theorem zd_S_richest_33 : decode I_S_richest.2.1 33 = .ok (.iload_n 3, 1) := by decide +kernel
theorem zd_S_richest_34 : decode I_S_richest.2.1 34 = .ok (.istore_n 2, 1) := by decide +kernel
theorem zd_S_richest_35 : decode I_S_richest.2.1 35 = .ok (.iinc 3 1, 3) := by decide +kernel
theorem zd_S_richest_38 : decode I_S_richest.2.1 38 = .ok (.goto (-34), 3) := by decide +kernel
theorem zd_S_richest_41 : decode I_S_richest.2.1 41 = .ok (.iload_n 2, 1) := by decide +kernel
theorem zd_S_richest_42 : decode I_S_richest.2.1 42 = .ok (.ireturn, 1) := by decide +kernel
theorem zd_S_foundOf_0 : decode I_S_foundOf.2.1 0 = .ok (.iload_n 0, 1) := by decide +kernel
theorem zd_S_foundOf_1 : decode I_S_foundOf.2.1 1 = .ok (.iload_n 1, 1) := by decide +kernel
theorem zd_S_foundOf_2 : decode I_S_foundOf.2.1 2 = .ok (.imul, 1) := by decide +kernel
theorem zd_S_foundOf_3 : decode I_S_foundOf.2.1 3 = .ok (.bipush 10, 2) := by decide +kernel
theorem zd_S_foundOf_5 : decode I_S_foundOf.2.1 5 = .ok (.idiv, 1) := by decide +kernel
theorem zd_S_foundOf_6 : decode I_S_foundOf.2.1 6 = .ok (.ireturn, 1) := by decide +kernel
theorem zd_H_lookAt_0 : decode I_H_lookAt.2.1 0 = .ok (.iload_n 1, 1) := by decide +kernel
theorem zd_H_lookAt_1 : decode I_H_lookAt.2.1 1 = .ok (.iload_n 2, 1) := by decide +kernel
theorem zd_H_lookAt_2 : decode I_H_lookAt.2.1 2 = .ok (.invokestatic 283, 3) := by decide +kernel
theorem zd_H_lookAt_5 : decode I_H_lookAt.2.1 5 = .ok (.istore 4, 2) := by decide +kernel
theorem zd_H_lookAt_7 : decode I_H_lookAt.2.1 7 = .ok (.iload 4, 2) := by decide +kernel
theorem zd_H_lookAt_9 : decode I_H_lookAt.2.1 9 = .ok (.ifCond .eq 10, 3) := by decide +kernel
theorem zd_H_lookAt_12 : decode I_H_lookAt.2.1 12 = .ok (.aload_n 0, 1) := by decide +kernel
theorem zd_H_lookAt_13 : decode I_H_lookAt.2.1 13 = .ok (.iload 4, 2) := by decide +kernel
theorem zd_H_lookAt_15 : decode I_H_lookAt.2.1 15 = .ok (.invokevirtual 84, 3) := by decide +kernel
theorem zd_H_lookAt_18 : decode I_H_lookAt.2.1 18 = .ok (.ireturn, 1) := by decide +kernel
theorem zd_H_lookAt_19 : decode I_H_lookAt.2.1 19 = .ok (.iload_n 3, 1) := by decide +kernel
theorem zd_H_lookAt_20 : decode I_H_lookAt.2.1 20 = .ok (.ifCond .lt 8, 3) := by decide +kernel
theorem zd_H_lookAt_23 : decode I_H_lookAt.2.1 23 = .ok (.iload_n 3, 1) := by decide +kernel
theorem zd_H_lookAt_24 : decode I_H_lookAt.2.1 24 = .ok (.iload_n 1, 1) := by decide +kernel
theorem zd_H_lookAt_25 : decode I_H_lookAt.2.1 25 = .ok (.if_icmp .lt 6, 3) := by decide +kernel
theorem zd_H_lookAt_28 : decode I_H_lookAt.2.1 28 = .ok (.bipush (-9), 2) := by decide +kernel
theorem zd_H_lookAt_30 : decode I_H_lookAt.2.1 30 = .ok (.ireturn, 1) := by decide +kernel
theorem zd_H_lookAt_31 : decode I_H_lookAt.2.1 31 = .ok (.aload_n 0, 1) := by decide +kernel
theorem zd_H_lookAt_32 : decode I_H_lookAt.2.1 32 = .ok (.getfield 63, 3) := by decide +kernel
theorem zd_H_lookAt_35 : decode I_H_lookAt.2.1 35 = .ok (.iload_n 1, 1) := by decide +kernel
theorem zd_H_lookAt_36 : decode I_H_lookAt.2.1 36 = .ok (.iload_n 2, 1) := by decide +kernel
theorem zd_H_lookAt_37 : decode I_H_lookAt.2.1 37 = .ok (.invokevirtual 286, 3) := by decide +kernel
theorem zd_H_lookAt_40 : decode I_H_lookAt.2.1 40 = .ok (.aload_n 0, 1) := by decide +kernel
theorem zd_H_lookAt_41 : decode I_H_lookAt.2.1 41 = .ok (.getfield 63, 3) := by decide +kernel
theorem zd_H_lookAt_44 : decode I_H_lookAt.2.1 44 = .ok (.getfield 292, 3) := by decide +kernel
theorem zd_H_lookAt_47 : decode I_H_lookAt.2.1 47 = .ok (.iload_n 3, 1) := by decide +kernel
theorem zd_H_lookAt_48 : decode I_H_lookAt.2.1 48 = .ok (.iaload, 1) := by decide +kernel
theorem zd_H_lookAt_49 : decode I_H_lookAt.2.1 49 = .ok (.ireturn, 1) := by decide +kernel
theorem zd_H_rest_0 : decode I_H_rest.2.1 0 = .ok (.aload_n 0, 1) := by decide +kernel
theorem zd_H_rest_1 : decode I_H_rest.2.1 1 = .ok (.iload_n 1, 1) := by decide +kernel
theorem zd_H_rest_2 : decode I_H_rest.2.1 2 = .ok (.invokevirtual 104, 3) := by decide +kernel
theorem zd_H_rest_5 : decode I_H_rest.2.1 5 = .ok (.astore_n 3, 1) := by decide +kernel
theorem zd_H_rest_6 : decode I_H_rest.2.1 6 = .ok (.aload_n 3, 1) := by decide +kernel
theorem zd_H_rest_7 : decode I_H_rest.2.1 7 = .ok (.ifnonnull 9, 3) := by decide +kernel
theorem zd_H_rest_10 : decode I_H_rest.2.1 10 = .ok (.aload_n 0, 1) := by decide +kernel
theorem zd_H_rest_11 : decode I_H_rest.2.1 11 = .ok (.iconst (-1), 1) := by decide +kernel
theorem zd_H_rest_12 : decode I_H_rest.2.1 12 = .ok (.invokevirtual 84, 3) := by decide +kernel
theorem zd_H_rest_15 : decode I_H_rest.2.1 15 = .ok (.ireturn, 1) := by decide +kernel
theorem zd_H_rest_16 : decode I_H_rest.2.1 16 = .ok (.iload_n 2, 1) := by decide +kernel
theorem zd_H_rest_17 : decode I_H_rest.2.1 17 = .ok (.aload_n 0, 1) := by decide +kernel
theorem zd_H_rest_18 : decode I_H_rest.2.1 18 = .ok (.getfield 70, 3) := by decide +kernel
theorem zd_H_rest_21 : decode I_H_rest.2.1 21 = .ok (.ldc 158, 2) := by decide +kernel
theorem zd_H_rest_23 : decode I_H_rest.2.1 23 = .ok (.invokestatic 88, 3) := by decide +kernel
theorem zd_H_rest_26 : decode I_H_rest.2.1 26 = .ok (.istore 4, 2) := by decide +kernel
theorem zd_H_rest_28 : decode I_H_rest.2.1 28 = .ok (.iload 4, 2) := by decide +kernel
theorem zd_H_rest_30 : decode I_H_rest.2.1 30 = .ok (.ifCond .eq 10, 3) := by decide +kernel
theorem zd_H_rest_33 : decode I_H_rest.2.1 33 = .ok (.aload_n 0, 1) := by decide +kernel
theorem zd_H_rest_34 : decode I_H_rest.2.1 34 = .ok (.iload 4, 2) := by decide +kernel
theorem zd_H_rest_36 : decode I_H_rest.2.1 36 = .ok (.invokevirtual 84, 3) := by decide +kernel
theorem zd_H_rest_39 : decode I_H_rest.2.1 39 = .ok (.ireturn, 1) := by decide +kernel
theorem zd_H_rest_40 : decode I_H_rest.2.1 40 = .ok (.aload_n 3, 1) := by decide +kernel
theorem zd_H_rest_41 : decode I_H_rest.2.1 41 = .ok (.getfield 295, 3) := by decide +kernel
theorem zd_H_rest_44 : decode I_H_rest.2.1 44 = .ok (.istore 5, 2) := by decide +kernel
theorem zd_H_rest_46 : decode I_H_rest.2.1 46 = .ok (.aload_n 3, 1) := by decide +kernel
theorem zd_H_rest_47 : decode I_H_rest.2.1 47 = .ok (.iload_n 2, 1) := by decide +kernel
theorem zd_H_rest_48 : decode I_H_rest.2.1 48 = .ok (.putfield 295, 3) := by decide +kernel
theorem zd_H_rest_51 : decode I_H_rest.2.1 51 = .ok (.iload 5, 2) := by decide +kernel
theorem zd_H_rest_53 : decode I_H_rest.2.1 53 = .ok (.ireturn, 1) := by decide +kernel
theorem zd_H_turn_0 : decode I_H_turn.2.1 0 = .ok (.iload_n 1, 1) := by decide +kernel
theorem zd_H_turn_1 : decode I_H_turn.2.1 1 = .ok (.invokestatic 80, 3) := by decide +kernel
theorem zd_H_turn_4 : decode I_H_turn.2.1 4 = .ok (.ifCond .ne 9, 3) := by decide +kernel
theorem zd_H_turn_7 : decode I_H_turn.2.1 7 = .ok (.aload_n 0, 1) := by decide +kernel
theorem zd_H_turn_8 : decode I_H_turn.2.1 8 = .ok (.iconst (-1), 1) := by decide +kernel
theorem zd_H_turn_9 : decode I_H_turn.2.1 9 = .ok (.invokevirtual 84, 3) := by decide +kernel
theorem zd_H_turn_12 : decode I_H_turn.2.1 12 = .ok (.ireturn, 1) := by decide +kernel
theorem zd_H_turn_13 : decode I_H_turn.2.1 13 = .ok (.iconst 0, 1) := by decide +kernel
theorem zd_H_turn_14 : decode I_H_turn.2.1 14 = .ok (.istore_n 3, 1) := by decide +kernel
theorem zd_H_turn_15 : decode I_H_turn.2.1 15 = .ok (.iload_n 3, 1) := by decide +kernel
theorem zd_H_turn_16 : decode I_H_turn.2.1 16 = .ok (.aload_n 0, 1) := by decide +kernel
theorem zd_H_turn_17 : decode I_H_turn.2.1 17 = .ok (.getfield 19, 3) := by decide +kernel
theorem zd_H_turn_20 : decode I_H_turn.2.1 20 = .ok (.invokevirtual 92, 3) := by decide +kernel
theorem zd_H_turn_23 : decode I_H_turn.2.1 23 = .ok (.if_icmp .ge 38, 3) := by decide +kernel
theorem zd_H_turn_26 : decode I_H_turn.2.1 26 = .ok (.aload_n 0, 1) := by decide +kernel
theorem zd_H_turn_27 : decode I_H_turn.2.1 27 = .ok (.getfield 19, 3) := by decide +kernel
theorem zd_H_turn_30 : decode I_H_turn.2.1 30 = .ok (.iload_n 3, 1) := by decide +kernel
theorem zd_H_turn_31 : decode I_H_turn.2.1 31 = .ok (.invokevirtual 134, 3) := by decide +kernel
theorem zd_H_turn_34 : decode I_H_turn.2.1 34 = .ok (.checkcast 95, 3) := by decide +kernel
theorem zd_H_turn_37 : decode I_H_turn.2.1 37 = .ok (.getfield 138, 3) := by decide +kernel
theorem zd_H_turn_40 : decode I_H_turn.2.1 40 = .ok (.iload_n 1, 1) := by decide +kernel
theorem zd_H_turn_41 : decode I_H_turn.2.1 41 = .ok (.if_icmp .ne 14, 3) := by decide +kernel
theorem zd_H_turn_44 : decode I_H_turn.2.1 44 = .ok (.aload_n 0, 1) := by decide +kernel
theorem zd_H_turn_45 : decode I_H_turn.2.1 45 = .ok (.iload_n 3, 1) := by decide +kernel
theorem zd_H_turn_46 : decode I_H_turn.2.1 46 = .ok (.invokevirtual 298, 3) := by decide +kernel
theorem zd_H_turn_49 : decode I_H_turn.2.1 49 = .ok (.iload_n 2, 1) := by decide +kernel
theorem zd_H_turn_50 : decode I_H_turn.2.1 50 = .ok (.if_icmp .ne 5, 3) := by decide +kernel
theorem zd_H_turn_53 : decode I_H_turn.2.1 53 = .ok (.iload_n 3, 1) := by decide +kernel
theorem zd_H_turn_54 : decode I_H_turn.2.1 54 = .ok (.ireturn, 1) := by decide +kernel
theorem zd_H_turn_55 : decode I_H_turn.2.1 55 = .ok (.iinc 3 1, 3) := by decide +kernel
theorem zd_H_turn_58 : decode I_H_turn.2.1 58 = .ok (.goto (-43), 3) := by decide +kernel
theorem zd_H_turn_61 : decode I_H_turn.2.1 61 = .ok (.bipush (-9), 2) := by decide +kernel
theorem zd_H_turn_63 : decode I_H_turn.2.1 63 = .ok (.ireturn, 1) := by decide +kernel
theorem zd_H_placeInTurn_0 : decode I_H_placeInTurn.2.1 0 = .ok (.aload_n 0, 1) := by decide +kernel
theorem zd_H_placeInTurn_1 : decode I_H_placeInTurn.2.1 1 = .ok (.getfield 19, 3) := by decide +kernel
theorem zd_H_placeInTurn_4 : decode I_H_placeInTurn.2.1 4 = .ok (.iload_n 1, 1) := by decide +kernel
theorem zd_H_placeInTurn_5 : decode I_H_placeInTurn.2.1 5 = .ok (.invokevirtual 134, 3) := by decide +kernel
theorem zd_H_placeInTurn_8 : decode I_H_placeInTurn.2.1 8 = .ok (.checkcast 95, 3) := by decide +kernel
theorem zd_H_placeInTurn_11 : decode I_H_placeInTurn.2.1 11 = .ok (.astore_n 2, 1) := by decide +kernel
theorem zd_H_placeInTurn_12 : decode I_H_placeInTurn.2.1 12 = .ok (.iconst 0, 1) := by decide +kernel
theorem zd_H_placeInTurn_13 : decode I_H_placeInTurn.2.1 13 = .ok (.istore_n 3, 1) := by decide +kernel
theorem zd_H_placeInTurn_14 : decode I_H_placeInTurn.2.1 14 = .ok (.iconst 0, 1) := by decide +kernel
theorem zd_H_placeInTurn_15 : decode I_H_placeInTurn.2.1 15 = .ok (.istore 4, 2) := by decide +kernel
theorem zd_H_placeInTurn_17 : decode I_H_placeInTurn.2.1 17 = .ok (.iload 4, 2) := by decide +kernel
theorem zd_H_placeInTurn_19 : decode I_H_placeInTurn.2.1 19 = .ok (.aload_n 0, 1) := by decide +kernel
theorem zd_H_placeInTurn_20 : decode I_H_placeInTurn.2.1 20 = .ok (.getfield 19, 3) := by decide +kernel
theorem zd_H_placeInTurn_23 : decode I_H_placeInTurn.2.1 23 = .ok (.invokevirtual 92, 3) := by decide +kernel
theorem zd_H_placeInTurn_26 : decode I_H_placeInTurn.2.1 26 = .ok (.if_icmp .ge 71, 3) := by decide +kernel
theorem zd_H_placeInTurn_29 : decode I_H_placeInTurn.2.1 29 = .ok (.aload_n 0, 1) := by decide +kernel
theorem zd_H_placeInTurn_30 : decode I_H_placeInTurn.2.1 30 = .ok (.getfield 19, 3) := by decide +kernel
theorem zd_H_placeInTurn_33 : decode I_H_placeInTurn.2.1 33 = .ok (.iload 4, 2) := by decide +kernel
theorem zd_H_placeInTurn_35 : decode I_H_placeInTurn.2.1 35 = .ok (.invokevirtual 134, 3) := by decide +kernel
theorem zd_H_placeInTurn_38 : decode I_H_placeInTurn.2.1 38 = .ok (.checkcast 95, 3) := by decide +kernel
theorem zd_H_placeInTurn_41 : decode I_H_placeInTurn.2.1 41 = .ok (.astore 5, 2) := by decide +kernel
theorem zd_H_placeInTurn_43 : decode I_H_placeInTurn.2.1 43 = .ok (.aload 5, 2) := by decide +kernel
theorem zd_H_placeInTurn_45 : decode I_H_placeInTurn.2.1 45 = .ok (.getfield 138, 3) := by decide +kernel
theorem zd_H_placeInTurn_48 : decode I_H_placeInTurn.2.1 48 = .ok (.aload_n 2, 1) := by decide +kernel
theorem zd_H_placeInTurn_49 : decode I_H_placeInTurn.2.1 49 = .ok (.getfield 138, 3) := by decide +kernel
theorem zd_H_placeInTurn_52 : decode I_H_placeInTurn.2.1 52 = .ok (.if_icmp .eq 6, 3) := by decide +kernel
theorem zd_H_placeInTurn_55 : decode I_H_placeInTurn.2.1 55 = .ok (.goto 36, 3) := by decide +kernel
theorem zd_H_placeInTurn_58 : decode I_H_placeInTurn.2.1 58 = .ok (.aload 5, 2) := by decide +kernel
theorem zd_H_placeInTurn_60 : decode I_H_placeInTurn.2.1 60 = .ok (.getfield 108, 3) := by decide +kernel
theorem zd_H_placeInTurn_63 : decode I_H_placeInTurn.2.1 63 = .ok (.aload_n 2, 1) := by decide +kernel
theorem zd_H_placeInTurn_64 : decode I_H_placeInTurn.2.1 64 = .ok (.getfield 108, 3) := by decide +kernel
theorem zd_H_placeInTurn_67 : decode I_H_placeInTurn.2.1 67 = .ok (.if_icmp .lt 21, 3) := by decide +kernel
theorem zd_H_placeInTurn_70 : decode I_H_placeInTurn.2.1 70 = .ok (.aload 5, 2) := by decide +kernel
theorem zd_H_placeInTurn_72 : decode I_H_placeInTurn.2.1 72 = .ok (.getfield 108, 3) := by decide +kernel
theorem zd_H_placeInTurn_75 : decode I_H_placeInTurn.2.1 75 = .ok (.aload_n 2, 1) := by decide +kernel
theorem zd_H_placeInTurn_76 : decode I_H_placeInTurn.2.1 76 = .ok (.getfield 108, 3) := by decide +kernel
theorem zd_H_placeInTurn_79 : decode I_H_placeInTurn.2.1 79 = .ok (.if_icmp .ne 12, 3) := by decide +kernel
theorem zd_H_placeInTurn_82 : decode I_H_placeInTurn.2.1 82 = .ok (.iload 4, 2) := by decide +kernel
theorem zd_H_placeInTurn_84 : decode I_H_placeInTurn.2.1 84 = .ok (.iload_n 1, 1) := by decide +kernel
theorem zd_H_placeInTurn_85 : decode I_H_placeInTurn.2.1 85 = .ok (.if_icmp .ge 6, 3) := by decide +kernel
theorem zd_H_placeInTurn_88 : decode I_H_placeInTurn.2.1 88 = .ok (.iinc 3 1, 3) := by decide +kernel
theorem zd_H_placeInTurn_91 : decode I_H_placeInTurn.2.1 91 = .ok (.iinc 4 1, 3) := by decide +kernel
theorem zd_H_placeInTurn_94 : decode I_H_placeInTurn.2.1 94 = .ok (.goto (-77), 3) := by decide +kernel
theorem zd_H_placeInTurn_97 : decode I_H_placeInTurn.2.1 97 = .ok (.iload_n 3, 1) := by decide +kernel
theorem zd_H_placeInTurn_98 : decode I_H_placeInTurn.2.1 98 = .ok (.ireturn, 1) := by decide +kernel
theorem zd_H_personOf_0 : decode I_H_personOf.2.1 0 = .ok (.aload_n 0, 1) := by decide +kernel
theorem zd_H_personOf_1 : decode I_H_personOf.2.1 1 = .ok (.iload_n 1, 1) := by decide +kernel
theorem zd_H_personOf_2 : decode I_H_personOf.2.1 2 = .ok (.invokevirtual 104, 3) := by decide +kernel
theorem zd_H_personOf_5 : decode I_H_personOf.2.1 5 = .ok (.astore_n 3, 1) := by decide +kernel
theorem zd_H_personOf_6 : decode I_H_personOf.2.1 6 = .ok (.aload_n 3, 1) := by decide +kernel
theorem zd_H_personOf_7 : decode I_H_personOf.2.1 7 = .ok (.ifnonnull 9, 3) := by decide +kernel
theorem zd_H_personOf_10 : decode I_H_personOf.2.1 10 = .ok (.aload_n 0, 1) := by decide +kernel
theorem zd_H_personOf_11 : decode I_H_personOf.2.1 11 = .ok (.iconst (-1), 1) := by decide +kernel
theorem zd_H_personOf_12 : decode I_H_personOf.2.1 12 = .ok (.invokevirtual 84, 3) := by decide +kernel
theorem zd_H_personOf_15 : decode I_H_personOf.2.1 15 = .ok (.ireturn, 1) := by decide +kernel
theorem zd_H_personOf_16 : decode I_H_personOf.2.1 16 = .ok (.iload_n 2, 1) := by decide +kernel
theorem zd_H_personOf_17 : decode I_H_personOf.2.1 17 = .ok (.ifCond .lt 9, 3) := by decide +kernel
theorem zd_H_personOf_20 : decode I_H_personOf.2.1 20 = .ok (.iload_n 2, 1) := by decide +kernel
theorem zd_H_personOf_21 : decode I_H_personOf.2.1 21 = .ok (.bipush 20, 2) := by decide +kernel
theorem zd_H_personOf_23 : decode I_H_personOf.2.1 23 = .ok (.if_icmp .lt 10, 3) := by decide +kernel
theorem zd_H_personOf_26 : decode I_H_personOf.2.1 26 = .ok (.aload_n 0, 1) := by decide +kernel
theorem zd_H_personOf_27 : decode I_H_personOf.2.1 27 = .ok (.bipush (-2), 2) := by decide +kernel
theorem zd_H_personOf_29 : decode I_H_personOf.2.1 29 = .ok (.invokevirtual 84, 3) := by decide +kernel
theorem zd_H_personOf_32 : decode I_H_personOf.2.1 32 = .ok (.ireturn, 1) := by decide +kernel
theorem zd_H_personOf_33 : decode I_H_personOf.2.1 33 = .ok (.iload_n 2, 1) := by decide +kernel
theorem zd_H_personOf_34 : decode I_H_personOf.2.1 34 = .ok (.bipush 12, 2) := by decide +kernel
theorem zd_H_personOf_36 : decode I_H_personOf.2.1 36 = .ok (.if_icmp .lt 15, 3) := by decide +kernel
theorem zd_H_personOf_39 : decode I_H_personOf.2.1 39 = .ok (.aload_n 3, 1) := by decide +kernel
theorem zd_H_personOf_40 : decode I_H_personOf.2.1 40 = .ok (.getfield 117, 3) := by decide +kernel
theorem zd_H_personOf_43 : decode I_H_personOf.2.1 43 = .ok (.iload_n 2, 1) := by decide +kernel
theorem zd_H_personOf_44 : decode I_H_personOf.2.1 44 = .ok (.iconst 4, 1) := by decide +kernel
theorem zd_H_personOf_45 : decode I_H_personOf.2.1 45 = .ok (.isub, 1) := by decide +kernel
theorem zd_H_personOf_46 : decode I_H_personOf.2.1 46 = .ok (.bipush 8, 2) := by decide +kernel
theorem zd_H_personOf_48 : decode I_H_personOf.2.1 48 = .ok (.isub, 1) := by decide +kernel
theorem zd_H_personOf_49 : decode I_H_personOf.2.1 49 = .ok (.iaload, 1) := by decide +kernel
theorem zd_H_personOf_50 : decode I_H_personOf.2.1 50 = .ok (.ireturn, 1) := by decide +kernel
theorem zd_H_personOf_51 : decode I_H_personOf.2.1 51 = .ok (.iload_n 2, 1) := by decide +kernel
theorem zd_H_personOf_52 : decode I_H_personOf.2.1 52 = .ok (.iconst 4, 1) := by decide +kernel
theorem zd_H_personOf_53 : decode I_H_personOf.2.1 53 = .ok (.if_icmp .lt 12, 3) := by decide +kernel
theorem zd_H_personOf_56 : decode I_H_personOf.2.1 56 = .ok (.aload_n 3, 1) := by decide +kernel
theorem zd_H_personOf_57 : decode I_H_personOf.2.1 57 = .ok (.getfield 114, 3) := by decide +kernel
theorem zd_H_personOf_60 : decode I_H_personOf.2.1 60 = .ok (.iload_n 2, 1) := by decide +kernel
theorem zd_H_personOf_61 : decode I_H_personOf.2.1 61 = .ok (.iconst 4, 1) := by decide +kernel
theorem zd_H_personOf_62 : decode I_H_personOf.2.1 62 = .ok (.isub, 1) := by decide +kernel
theorem zd_H_personOf_63 : decode I_H_personOf.2.1 63 = .ok (.iaload, 1) := by decide +kernel
theorem zd_H_personOf_64 : decode I_H_personOf.2.1 64 = .ok (.ireturn, 1) := by decide +kernel
theorem zd_H_personOf_65 : decode I_H_personOf.2.1 65 = .ok (.iload_n 2, 1) := by decide +kernel
theorem zd_H_personOf_66 : decode I_H_personOf.2.1 66 = .ok (.tableswitch 41 0 2 #[26, 31, 36], 26) := by decide +kernel
theorem zd_H_personOf_92 : decode I_H_personOf.2.1 92 = .ok (.aload_n 3, 1) := by decide +kernel
theorem zd_H_personOf_93 : decode I_H_personOf.2.1 93 = .ok (.getfield 138, 3) := by decide +kernel
theorem zd_H_personOf_96 : decode I_H_personOf.2.1 96 = .ok (.ireturn, 1) := by decide +kernel
theorem zd_H_personOf_97 : decode I_H_personOf.2.1 97 = .ok (.aload_n 3, 1) := by decide +kernel
theorem zd_H_personOf_98 : decode I_H_personOf.2.1 98 = .ok (.getfield 141, 3) := by decide +kernel
theorem zd_H_personOf_101 : decode I_H_personOf.2.1 101 = .ok (.ireturn, 1) := by decide +kernel
theorem zd_H_personOf_102 : decode I_H_personOf.2.1 102 = .ok (.aload_n 3, 1) := by decide +kernel
theorem zd_H_personOf_103 : decode I_H_personOf.2.1 103 = .ok (.getfield 108, 3) := by decide +kernel
theorem zd_H_personOf_106 : decode I_H_personOf.2.1 106 = .ok (.ireturn, 1) := by decide +kernel
theorem zd_H_personOf_107 : decode I_H_personOf.2.1 107 = .ok (.aload_n 3, 1) := by decide +kernel
theorem zd_H_personOf_108 : decode I_H_personOf.2.1 108 = .ok (.getfield 295, 3) := by decide +kernel
theorem zd_H_personOf_111 : decode I_H_personOf.2.1 111 = .ok (.ireturn, 1) := by decide +kernel
theorem zd_H_count_0 : decode I_H_count.2.1 0 = .ok (.iload_n 1, 1) := by decide +kernel
theorem zd_H_count_1 : decode I_H_count.2.1 1 = .ok (.bipush 11, 2) := by decide +kernel
theorem zd_H_count_3 : decode I_H_count.2.1 3 = .ok (.if_icmp .lt 19, 3) := by decide +kernel
theorem zd_H_count_6 : decode I_H_count.2.1 6 = .ok (.iload_n 1, 1) := by decide +kernel
theorem zd_H_count_7 : decode I_H_count.2.1 7 = .ok (.bipush 16, 2) := by decide +kernel
theorem zd_H_count_9 : decode I_H_count.2.1 9 = .ok (.if_icmp .gt 13, 3) := by decide +kernel
theorem zd_H_count_12 : decode I_H_count.2.1 12 = .ok (.aload_n 0, 1) := by decide +kernel
theorem zd_H_count_13 : decode I_H_count.2.1 13 = .ok (.getfield 67, 3) := by decide +kernel
theorem zd_H_count_16 : decode I_H_count.2.1 16 = .ok (.iload_n 1, 1) := by decide +kernel
theorem zd_H_count_17 : decode I_H_count.2.1 17 = .ok (.bipush 10, 2) := by decide +kernel
theorem zd_H_count_19 : decode I_H_count.2.1 19 = .ok (.isub, 1) := by decide +kernel
theorem zd_H_count_20 : decode I_H_count.2.1 20 = .ok (.iaload, 1) := by decide +kernel
theorem zd_H_count_21 : decode I_H_count.2.1 21 = .ok (.ireturn, 1) := by decide +kernel
theorem zd_H_count_22 : decode I_H_count.2.1 22 = .ok (.iload_n 1, 1) := by decide +kernel
theorem zd_H_count_23 : decode I_H_count.2.1 23 = .ok (.tableswitch 97 0 7 #[45, 50, 55, 63, 71, 76, 84, 92], 45) := by decide +kernel
theorem zd_H_count_68 : decode I_H_count.2.1 68 = .ok (.aload_n 0, 1) := by decide +kernel
theorem zd_H_count_69 : decode I_H_count.2.1 69 = .ok (.getfield 70, 3) := by decide +kernel
theorem zd_H_count_72 : decode I_H_count.2.1 72 = .ok (.ireturn, 1) := by decide +kernel
theorem zd_H_count_73 : decode I_H_count.2.1 73 = .ok (.aload_n 0, 1) := by decide +kernel
theorem zd_H_count_74 : decode I_H_count.2.1 74 = .ok (.invokevirtual 111, 3) := by decide +kernel
theorem zd_H_count_77 : decode I_H_count.2.1 77 = .ok (.ireturn, 1) := by decide +kernel
theorem zd_H_count_78 : decode I_H_count.2.1 78 = .ok (.aload_n 0, 1) := by decide +kernel
theorem zd_H_count_79 : decode I_H_count.2.1 79 = .ok (.getfield 19, 3) := by decide +kernel
theorem zd_H_count_82 : decode I_H_count.2.1 82 = .ok (.invokevirtual 92, 3) := by decide +kernel
theorem zd_H_count_85 : decode I_H_count.2.1 85 = .ok (.ireturn, 1) := by decide +kernel
theorem zd_H_count_86 : decode I_H_count.2.1 86 = .ok (.aload_n 0, 1) := by decide +kernel
theorem zd_H_count_87 : decode I_H_count.2.1 87 = .ok (.getfield 23, 3) := by decide +kernel
theorem zd_H_count_90 : decode I_H_count.2.1 90 = .ok (.invokevirtual 92, 3) := by decide +kernel
theorem zd_H_count_93 : decode I_H_count.2.1 93 = .ok (.ireturn, 1) := by decide +kernel
theorem zd_H_count_94 : decode I_H_count.2.1 94 = .ok (.aload_n 0, 1) := by decide +kernel
theorem zd_H_count_95 : decode I_H_count.2.1 95 = .ok (.invokevirtual 301, 3) := by decide +kernel
theorem zd_H_count_98 : decode I_H_count.2.1 98 = .ok (.ireturn, 1) := by decide +kernel
theorem zd_H_count_99 : decode I_H_count.2.1 99 = .ok (.aload_n 0, 1) := by decide +kernel
theorem zd_H_count_100 : decode I_H_count.2.1 100 = .ok (.getfield 26, 3) := by decide +kernel
theorem zd_H_count_103 : decode I_H_count.2.1 103 = .ok (.invokevirtual 92, 3) := by decide +kernel
theorem zd_H_count_106 : decode I_H_count.2.1 106 = .ok (.ireturn, 1) := by decide +kernel
theorem zd_H_count_107 : decode I_H_count.2.1 107 = .ok (.aload_n 0, 1) := by decide +kernel
theorem zd_H_count_108 : decode I_H_count.2.1 108 = .ok (.getfield 29, 3) := by decide +kernel
theorem zd_H_count_111 : decode I_H_count.2.1 111 = .ok (.invokevirtual 92, 3) := by decide +kernel
theorem zd_H_count_114 : decode I_H_count.2.1 114 = .ok (.ireturn, 1) := by decide +kernel
theorem zd_H_count_115 : decode I_H_count.2.1 115 = .ok (.aload_n 0, 1) := by decide +kernel
theorem zd_H_count_116 : decode I_H_count.2.1 116 = .ok (.invokevirtual 304, 3) := by decide +kernel
theorem zd_H_count_119 : decode I_H_count.2.1 119 = .ok (.ireturn, 1) := by decide +kernel
theorem zd_H_count_120 : decode I_H_count.2.1 120 = .ok (.bipush (-9), 2) := by decide +kernel
theorem zd_H_count_122 : decode I_H_count.2.1 122 = .ok (.ireturn, 1) := by decide +kernel
theorem zd_H_boatsAway_0 : decode I_H_boatsAway.2.1 0 = .ok (.iconst 0, 1) := by decide +kernel
theorem zd_H_boatsAway_1 : decode I_H_boatsAway.2.1 1 = .ok (.istore_n 1, 1) := by decide +kernel
theorem zd_H_boatsAway_2 : decode I_H_boatsAway.2.1 2 = .ok (.iconst 0, 1) := by decide +kernel
theorem zd_H_boatsAway_3 : decode I_H_boatsAway.2.1 3 = .ok (.istore_n 2, 1) := by decide +kernel
theorem zd_H_boatsAway_4 : decode I_H_boatsAway.2.1 4 = .ok (.iload_n 2, 1) := by decide +kernel
theorem zd_H_boatsAway_5 : decode I_H_boatsAway.2.1 5 = .ok (.aload_n 0, 1) := by decide +kernel
theorem zd_H_boatsAway_6 : decode I_H_boatsAway.2.1 6 = .ok (.getfield 23, 3) := by decide +kernel
theorem zd_H_boatsAway_9 : decode I_H_boatsAway.2.1 9 = .ok (.invokevirtual 92, 3) := by decide +kernel
theorem zd_H_boatsAway_12 : decode I_H_boatsAway.2.1 12 = .ok (.if_icmp .ge 33, 3) := by decide +kernel
theorem zd_H_boatsAway_15 : decode I_H_boatsAway.2.1 15 = .ok (.aload_n 0, 1) := by decide +kernel
theorem zd_H_boatsAway_16 : decode I_H_boatsAway.2.1 16 = .ok (.getfield 23, 3) := by decide +kernel
theorem zd_H_boatsAway_19 : decode I_H_boatsAway.2.1 19 = .ok (.iload_n 2, 1) := by decide +kernel
theorem zd_H_boatsAway_20 : decode I_H_boatsAway.2.1 20 = .ok (.invokevirtual 134, 3) := by decide +kernel
theorem zd_H_boatsAway_23 : decode I_H_boatsAway.2.1 23 = .ok (.checkcast 162, 3) := by decide +kernel
theorem zd_H_boatsAway_26 : decode I_H_boatsAway.2.1 26 = .ok (.aload_n 0, 1) := by decide +kernel
theorem zd_H_boatsAway_27 : decode I_H_boatsAway.2.1 27 = .ok (.getfield 70, 3) := by decide +kernel
theorem zd_H_boatsAway_30 : decode I_H_boatsAway.2.1 30 = .ok (.invokevirtual 176, 3) := by decide +kernel
theorem zd_H_boatsAway_33 : decode I_H_boatsAway.2.1 33 = .ok (.ifCond .eq 6, 3) := by decide +kernel
theorem zd_H_boatsAway_36 : decode I_H_boatsAway.2.1 36 = .ok (.iinc 1 1, 3) := by decide +kernel
theorem zd_H_boatsAway_39 : decode I_H_boatsAway.2.1 39 = .ok (.iinc 2 1, 3) := by decide +kernel
theorem zd_H_boatsAway_42 : decode I_H_boatsAway.2.1 42 = .ok (.goto (-38), 3) := by decide +kernel
theorem zd_H_boatsAway_45 : decode I_H_boatsAway.2.1 45 = .ok (.iload_n 1, 1) := by decide +kernel
theorem zd_H_boatsAway_46 : decode I_H_boatsAway.2.1 46 = .ok (.ireturn, 1) := by decide +kernel
theorem zd_H_stationsCovered_0 : decode I_H_stationsCovered.2.1 0 = .ok (.iconst 0, 1) := by decide +kernel
theorem zd_H_stationsCovered_1 : decode I_H_stationsCovered.2.1 1 = .ok (.istore_n 1, 1) := by decide +kernel
theorem zd_H_stationsCovered_2 : decode I_H_stationsCovered.2.1 2 = .ok (.iconst 0, 1) := by decide +kernel
theorem zd_H_stationsCovered_3 : decode I_H_stationsCovered.2.1 3 = .ok (.istore_n 2, 1) := by decide +kernel
theorem zd_H_stationsCovered_4 : decode I_H_stationsCovered.2.1 4 = .ok (.iload_n 2, 1) := by decide +kernel
theorem zd_H_stationsCovered_5 : decode I_H_stationsCovered.2.1 5 = .ok (.bipush 6, 2) := by decide +kernel
theorem zd_H_stationsCovered_7 : decode I_H_stationsCovered.2.1 7 = .ok (.if_icmp .ge 20, 3) := by decide +kernel
theorem zd_H_stationsCovered_10 : decode I_H_stationsCovered.2.1 10 = .ok (.aload_n 0, 1) := by decide +kernel
theorem zd_H_stationsCovered_11 : decode I_H_stationsCovered.2.1 11 = .ok (.iload_n 2, 1) := by decide +kernel
theorem zd_H_stationsCovered_12 : decode I_H_stationsCovered.2.1 12 = .ok (.invokevirtual 253, 3) := by decide +kernel
theorem zd_H_stationsCovered_15 : decode I_H_stationsCovered.2.1 15 = .ok (.ifCond .le 6, 3) := by decide +kernel
theorem zd_H_stationsCovered_18 : decode I_H_stationsCovered.2.1 18 = .ok (.iinc 1 1, 3) := by decide +kernel
theorem zd_H_stationsCovered_21 : decode I_H_stationsCovered.2.1 21 = .ok (.iinc 2 1, 3) := by decide +kernel
theorem zd_H_stationsCovered_24 : decode I_H_stationsCovered.2.1 24 = .ok (.goto (-20), 3) := by decide +kernel
theorem zd_H_stationsCovered_27 : decode I_H_stationsCovered.2.1 27 = .ok (.iload_n 1, 1) := by decide +kernel
theorem zd_H_stationsCovered_28 : decode I_H_stationsCovered.2.1 28 = .ok (.ireturn, 1) := by decide +kernel
theorem zd_M_init_0 : decode I_M_init.2.1 0 = .ok (.aload_n 0, 1) := by decide +kernel
theorem zd_M_init_1 : decode I_M_init.2.1 1 = .ok (.invokespecial 1, 3) := by decide +kernel
theorem zd_M_init_4 : decode I_M_init.2.1 4 = .ok (.aload_n 0, 1) := by decide +kernel
theorem zd_M_init_5 : decode I_M_init.2.1 5 = .ok (.iconst 4, 1) := by decide +kernel
theorem zd_M_init_6 : decode I_M_init.2.1 6 = .ok (.putfield 7, 3) := by decide +kernel
theorem zd_M_init_9 : decode I_M_init.2.1 9 = .ok (.aload_n 0, 1) := by decide +kernel
theorem zd_M_init_10 : decode I_M_init.2.1 10 = .ok (.bipush 9, 2) := by decide +kernel
theorem zd_M_init_12 : decode I_M_init.2.1 12 = .ok (.putfield 13, 3) := by decide +kernel
theorem zd_M_init_15 : decode I_M_init.2.1 15 = .ok (.aload_n 0, 1) := by decide +kernel
theorem zd_M_init_16 : decode I_M_init.2.1 16 = .ok (.bipush 6, 2) := by decide +kernel
theorem zd_M_init_18 : decode I_M_init.2.1 18 = .ok (.newarray .int, 2) := by decide +kernel
theorem zd_M_init_20 : decode I_M_init.2.1 20 = .ok (.putfield 16, 3) := by decide +kernel
theorem zd_M_init_23 : decode I_M_init.2.1 23 = .ok (.aload_n 0, 1) := by decide +kernel
theorem zd_M_init_24 : decode I_M_init.2.1 24 = .ok (.bipush 6, 2) := by decide +kernel
theorem zd_M_init_26 : decode I_M_init.2.1 26 = .ok (.newarray .int, 2) := by decide +kernel
theorem zd_M_init_28 : decode I_M_init.2.1 28 = .ok (.putfield 20, 3) := by decide +kernel
theorem zd_M_init_31 : decode I_M_init.2.1 31 = .ok (.aload_n 0, 1) := by decide +kernel
theorem zd_M_init_32 : decode I_M_init.2.1 32 = .ok (.bipush 40, 2) := by decide +kernel
theorem zd_M_init_34 : decode I_M_init.2.1 34 = .ok (.newarray .int, 2) := by decide +kernel
theorem zd_M_init_36 : decode I_M_init.2.1 36 = .ok (.putfield 23, 3) := by decide +kernel
theorem zd_M_init_39 : decode I_M_init.2.1 39 = .ok (.aload_n 0, 1) := by decide +kernel
theorem zd_M_init_40 : decode I_M_init.2.1 40 = .ok (.bipush 40, 2) := by decide +kernel
theorem zd_M_init_42 : decode I_M_init.2.1 42 = .ok (.newarray .int, 2) := by decide +kernel
theorem zd_M_init_44 : decode I_M_init.2.1 44 = .ok (.putfield 26, 3) := by decide +kernel
theorem zd_M_init_47 : decode I_M_init.2.1 47 = .ok (.aload_n 0, 1) := by decide +kernel
theorem zd_M_init_48 : decode I_M_init.2.1 48 = .ok (.bipush 40, 2) := by decide +kernel
theorem zd_M_init_50 : decode I_M_init.2.1 50 = .ok (.newarray .int, 2) := by decide +kernel
theorem zd_M_init_52 : decode I_M_init.2.1 52 = .ok (.putfield 29, 3) := by decide +kernel
theorem zd_M_init_55 : decode I_M_init.2.1 55 = .ok (.aload_n 0, 1) := by decide +kernel
theorem zd_M_init_56 : decode I_M_init.2.1 56 = .ok (.bipush 40, 2) := by decide +kernel
theorem zd_M_init_58 : decode I_M_init.2.1 58 = .ok (.newarray .int, 2) := by decide +kernel
theorem zd_M_init_60 : decode I_M_init.2.1 60 = .ok (.putfield 32, 3) := by decide +kernel
theorem zd_M_init_63 : decode I_M_init.2.1 63 = .ok (.aload_n 0, 1) := by decide +kernel
theorem zd_M_init_64 : decode I_M_init.2.1 64 = .ok (.sipush 320, 3) := by decide +kernel
theorem zd_M_init_67 : decode I_M_init.2.1 67 = .ok (.newarray .int, 2) := by decide +kernel
theorem zd_M_init_69 : decode I_M_init.2.1 69 = .ok (.putfield 35, 3) := by decide +kernel
theorem zd_M_init_72 : decode I_M_init.2.1 72 = .ok (.aload_n 0, 1) := by decide +kernel
theorem zd_M_init_73 : decode I_M_init.2.1 73 = .ok (.sipush 320, 3) := by decide +kernel
theorem zd_M_init_76 : decode I_M_init.2.1 76 = .ok (.newarray .int, 2) := by decide +kernel
theorem zd_M_init_78 : decode I_M_init.2.1 78 = .ok (.putfield 38, 3) := by decide +kernel
theorem zd_M_init_81 : decode I_M_init.2.1 81 = .ok (.aload_n 0, 1) := by decide +kernel
theorem zd_M_init_82 : decode I_M_init.2.1 82 = .ok (.bipush 25, 2) := by decide +kernel
theorem zd_M_init_84 : decode I_M_init.2.1 84 = .ok (.newarray .int, 2) := by decide +kernel
theorem zd_M_init_86 : decode I_M_init.2.1 86 = .ok (.putfield 41, 3) := by decide +kernel
theorem zd_M_init_89 : decode I_M_init.2.1 89 = .ok (.aload_n 0, 1) := by decide +kernel
theorem zd_M_init_90 : decode I_M_init.2.1 90 = .ok (.bipush 8, 2) := by decide +kernel
theorem zd_M_init_92 : decode I_M_init.2.1 92 = .ok (.newarray .int, 2) := by decide +kernel
theorem zd_M_init_94 : decode I_M_init.2.1 94 = .ok (.putfield 44, 3) := by decide +kernel
theorem zd_M_init_97 : decode I_M_init.2.1 97 = .ok (.aload_n 0, 1) := by decide +kernel
theorem zd_M_init_98 : decode I_M_init.2.1 98 = .ok (.bipush 8, 2) := by decide +kernel
theorem zd_M_init_100 : decode I_M_init.2.1 100 = .ok (.newarray .int, 2) := by decide +kernel
theorem zd_M_init_102 : decode I_M_init.2.1 102 = .ok (.putfield 47, 3) := by decide +kernel
theorem zd_M_init_105 : decode I_M_init.2.1 105 = .ok (.aload_n 0, 1) := by decide +kernel
theorem zd_M_init_106 : decode I_M_init.2.1 106 = .ok (.bipush 8, 2) := by decide +kernel
theorem zd_M_init_108 : decode I_M_init.2.1 108 = .ok (.newarray .int, 2) := by decide +kernel
theorem zd_M_init_110 : decode I_M_init.2.1 110 = .ok (.putfield 50, 3) := by decide +kernel
theorem zd_M_init_113 : decode I_M_init.2.1 113 = .ok (.aload_n 0, 1) := by decide +kernel
theorem zd_M_init_114 : decode I_M_init.2.1 114 = .ok (.bipush 40, 2) := by decide +kernel
theorem zd_M_init_116 : decode I_M_init.2.1 116 = .ok (.newarray .int, 2) := by decide +kernel
theorem zd_M_init_118 : decode I_M_init.2.1 118 = .ok (.putfield 53, 3) := by decide +kernel
theorem zd_M_init_121 : decode I_M_init.2.1 121 = .ok (.aload_n 0, 1) := by decide +kernel
theorem zd_M_init_122 : decode I_M_init.2.1 122 = .ok (.bipush 20, 2) := by decide +kernel
theorem zd_M_init_124 : decode I_M_init.2.1 124 = .ok (.newarray .int, 2) := by decide +kernel
theorem zd_M_init_126 : decode I_M_init.2.1 126 = .ok (.putfield 56, 3) := by decide +kernel
theorem zd_M_init_129 : decode I_M_init.2.1 129 = .ok (.aload_n 0, 1) := by decide +kernel
theorem zd_M_init_130 : decode I_M_init.2.1 130 = .ok (.bipush 20, 2) := by decide +kernel
theorem zd_M_init_132 : decode I_M_init.2.1 132 = .ok (.newarray .int, 2) := by decide +kernel
theorem zd_M_init_134 : decode I_M_init.2.1 134 = .ok (.putfield 59, 3) := by decide +kernel
theorem zd_M_init_137 : decode I_M_init.2.1 137 = .ok (.aload_n 0, 1) := by decide +kernel
theorem zd_M_init_138 : decode I_M_init.2.1 138 = .ok (.bipush 20, 2) := by decide +kernel
theorem zd_M_init_140 : decode I_M_init.2.1 140 = .ok (.newarray .int, 2) := by decide +kernel
theorem zd_M_init_142 : decode I_M_init.2.1 142 = .ok (.putfield 62, 3) := by decide +kernel
theorem zd_M_init_145 : decode I_M_init.2.1 145 = .ok (.aload_n 0, 1) := by decide +kernel
theorem zd_M_init_146 : decode I_M_init.2.1 146 = .ok (.bipush 40, 2) := by decide +kernel
theorem zd_M_init_148 : decode I_M_init.2.1 148 = .ok (.newarray .int, 2) := by decide +kernel
theorem zd_M_init_150 : decode I_M_init.2.1 150 = .ok (.putfield 65, 3) := by decide +kernel
theorem zd_M_init_153 : decode I_M_init.2.1 153 = .ok (.aload_n 0, 1) := by decide +kernel
theorem zd_M_init_154 : decode I_M_init.2.1 154 = .ok (.bipush 40, 2) := by decide +kernel
theorem zd_M_init_156 : decode I_M_init.2.1 156 = .ok (.newarray .int, 2) := by decide +kernel
theorem zd_M_init_158 : decode I_M_init.2.1 158 = .ok (.putfield 68, 3) := by decide +kernel
theorem zd_M_init_161 : decode I_M_init.2.1 161 = .ok (.aload_n 0, 1) := by decide +kernel
theorem zd_M_init_162 : decode I_M_init.2.1 162 = .ok (.bipush 40, 2) := by decide +kernel
theorem zd_M_init_164 : decode I_M_init.2.1 164 = .ok (.newarray .int, 2) := by decide +kernel
theorem zd_M_init_166 : decode I_M_init.2.1 166 = .ok (.putfield 71, 3) := by decide +kernel
theorem zd_M_init_169 : decode I_M_init.2.1 169 = .ok (.aload_n 0, 1) := by decide +kernel
theorem zd_M_init_170 : decode I_M_init.2.1 170 = .ok (.bipush 40, 2) := by decide +kernel
theorem zd_M_init_172 : decode I_M_init.2.1 172 = .ok (.newarray .int, 2) := by decide +kernel
theorem zd_M_init_174 : decode I_M_init.2.1 174 = .ok (.putfield 74, 3) := by decide +kernel
theorem zd_M_init_177 : decode I_M_init.2.1 177 = .ok (.aload_n 0, 1) := by decide +kernel
theorem zd_M_init_178 : decode I_M_init.2.1 178 = .ok (.bipush 40, 2) := by decide +kernel
theorem zd_M_init_180 : decode I_M_init.2.1 180 = .ok (.newarray .int, 2) := by decide +kernel
theorem zd_M_init_182 : decode I_M_init.2.1 182 = .ok (.putfield 77, 3) := by decide +kernel
theorem zd_M_init_185 : decode I_M_init.2.1 185 = .ok (.aload_n 0, 1) := by decide +kernel
theorem zd_M_init_186 : decode I_M_init.2.1 186 = .ok (.bipush 12, 2) := by decide +kernel
theorem zd_M_init_188 : decode I_M_init.2.1 188 = .ok (.newarray .int, 2) := by decide +kernel
theorem zd_M_init_190 : decode I_M_init.2.1 190 = .ok (.putfield 80, 3) := by decide +kernel
theorem zd_M_init_193 : decode I_M_init.2.1 193 = .ok (.aload_n 0, 1) := by decide +kernel
theorem zd_M_init_194 : decode I_M_init.2.1 194 = .ok (.bipush 12, 2) := by decide +kernel
theorem zd_M_init_196 : decode I_M_init.2.1 196 = .ok (.newarray .int, 2) := by decide +kernel
theorem zd_M_init_198 : decode I_M_init.2.1 198 = .ok (.putfield 83, 3) := by decide +kernel
theorem zd_M_init_201 : decode I_M_init.2.1 201 = .ok (.aload_n 0, 1) := by decide +kernel
theorem zd_M_init_202 : decode I_M_init.2.1 202 = .ok (.bipush 20, 2) := by decide +kernel
theorem zd_M_init_204 : decode I_M_init.2.1 204 = .ok (.newarray .int, 2) := by decide +kernel
theorem zd_M_init_206 : decode I_M_init.2.1 206 = .ok (.putfield 86, 3) := by decide +kernel
theorem zd_M_init_209 : decode I_M_init.2.1 209 = .ok (.aload_n 0, 1) := by decide +kernel
theorem zd_M_init_210 : decode I_M_init.2.1 210 = .ok (.bipush 7, 2) := by decide +kernel
theorem zd_M_init_212 : decode I_M_init.2.1 212 = .ok (.newarray .int, 2) := by decide +kernel
theorem zd_M_init_214 : decode I_M_init.2.1 214 = .ok (.putfield 89, 3) := by decide +kernel
theorem zd_M_init_217 : decode I_M_init.2.1 217 = .ok (.aload_n 0, 1) := by decide +kernel
theorem zd_M_init_218 : decode I_M_init.2.1 218 = .ok (.sipush 1323, 3) := by decide +kernel
theorem zd_M_init_221 : decode I_M_init.2.1 221 = .ok (.newarray .int, 2) := by decide +kernel
theorem zd_M_init_223 : decode I_M_init.2.1 223 = .ok (.putfield 92, 3) := by decide +kernel
theorem zd_M_init_226 : decode I_M_init.2.1 226 = .ok (.aload_n 0, 1) := by decide +kernel
theorem zd_M_init_227 : decode I_M_init.2.1 227 = .ok (.sipush 1323, 3) := by decide +kernel
theorem zd_M_init_230 : decode I_M_init.2.1 230 = .ok (.newarray .int, 2) := by decide +kernel
theorem zd_M_init_232 : decode I_M_init.2.1 232 = .ok (.putfield 95, 3) := by decide +kernel
theorem zd_M_init_235 : decode I_M_init.2.1 235 = .ok (.aload_n 0, 1) := by decide +kernel
theorem zd_M_init_236 : decode I_M_init.2.1 236 = .ok (.bipush 6, 2) := by decide +kernel
theorem zd_M_init_238 : decode I_M_init.2.1 238 = .ok (.newarray .int, 2) := by decide +kernel
theorem zd_M_init_240 : decode I_M_init.2.1 240 = .ok (.putfield 98, 3) := by decide +kernel
theorem zd_M_init_243 : decode I_M_init.2.1 243 = .ok (.aload_n 0, 1) := by decide +kernel
theorem zd_M_init_244 : decode I_M_init.2.1 244 = .ok (.bipush 6, 2) := by decide +kernel
theorem zd_M_init_246 : decode I_M_init.2.1 246 = .ok (.newarray .int, 2) := by decide +kernel
theorem zd_M_init_248 : decode I_M_init.2.1 248 = .ok (.putfield 101, 3) := by decide +kernel
theorem zd_M_init_251 : decode I_M_init.2.1 251 = .ok (.aload_n 0, 1) := by decide +kernel
theorem zd_M_init_252 : decode I_M_init.2.1 252 = .ok (.bipush 6, 2) := by decide +kernel
theorem zd_M_init_254 : decode I_M_init.2.1 254 = .ok (.newarray .int, 2) := by decide +kernel
theorem zd_M_init_256 : decode I_M_init.2.1 256 = .ok (.putfield 104, 3) := by decide +kernel
theorem zd_M_init_259 : decode I_M_init.2.1 259 = .ok (.aload_n 0, 1) := by decide +kernel
theorem zd_M_init_260 : decode I_M_init.2.1 260 = .ok (.bipush 6, 2) := by decide +kernel
theorem zd_M_init_262 : decode I_M_init.2.1 262 = .ok (.newarray .int, 2) := by decide +kernel
theorem zd_M_init_264 : decode I_M_init.2.1 264 = .ok (.putfield 107, 3) := by decide +kernel
theorem zd_M_init_267 : decode I_M_init.2.1 267 = .ok (.iconst 0, 1) := by decide +kernel
theorem zd_M_init_268 : decode I_M_init.2.1 268 = .ok (.istore_n 1, 1) := by decide +kernel
theorem zd_M_init_269 : decode I_M_init.2.1 269 = .ok (.iload_n 1, 1) := by decide +kernel
theorem zd_M_init_270 : decode I_M_init.2.1 270 = .ok (.bipush 6, 2) := by decide +kernel
theorem zd_M_init_272 : decode I_M_init.2.1 272 = .ok (.if_icmp .ge 19, 3) := by decide +kernel
theorem zd_M_init_275 : decode I_M_init.2.1 275 = .ok (.aload_n 0, 1) := by decide +kernel
theorem zd_M_init_276 : decode I_M_init.2.1 276 = .ok (.getfield 16, 3) := by decide +kernel
theorem zd_M_init_279 : decode I_M_init.2.1 279 = .ok (.iload_n 1, 1) := by decide +kernel
theorem zd_M_init_280 : decode I_M_init.2.1 280 = .ok (.bipush 40, 2) := by decide +kernel
theorem zd_M_init_282 : decode I_M_init.2.1 282 = .ok (.iload_n 1, 1) := by decide +kernel
theorem zd_M_init_283 : decode I_M_init.2.1 283 = .ok (.imul, 1) := by decide +kernel
theorem zd_M_init_284 : decode I_M_init.2.1 284 = .ok (.iastore, 1) := by decide +kernel
theorem zd_M_init_285 : decode I_M_init.2.1 285 = .ok (.iinc 1 1, 3) := by decide +kernel
theorem zd_M_init_288 : decode I_M_init.2.1 288 = .ok (.goto (-19), 3) := by decide +kernel
theorem zd_M_init_291 : decode I_M_init.2.1 291 = .ok (.iconst 0, 1) := by decide +kernel
theorem zd_M_init_292 : decode I_M_init.2.1 292 = .ok (.istore_n 1, 1) := by decide +kernel
theorem zd_M_init_293 : decode I_M_init.2.1 293 = .ok (.iload_n 1, 1) := by decide +kernel
theorem zd_M_init_294 : decode I_M_init.2.1 294 = .ok (.bipush 25, 2) := by decide +kernel
theorem zd_M_init_296 : decode I_M_init.2.1 296 = .ok (.if_icmp .ge 16, 3) := by decide +kernel
theorem zd_M_init_299 : decode I_M_init.2.1 299 = .ok (.aload_n 0, 1) := by decide +kernel
theorem zd_M_init_300 : decode I_M_init.2.1 300 = .ok (.getfield 41, 3) := by decide +kernel
theorem zd_M_init_303 : decode I_M_init.2.1 303 = .ok (.iload_n 1, 1) := by decide +kernel
theorem zd_M_init_304 : decode I_M_init.2.1 304 = .ok (.iconst (-1), 1) := by decide +kernel
theorem zd_M_init_305 : decode I_M_init.2.1 305 = .ok (.iastore, 1) := by decide +kernel
theorem zd_M_init_306 : decode I_M_init.2.1 306 = .ok (.iinc 1 1, 3) := by decide +kernel
theorem zd_M_init_309 : decode I_M_init.2.1 309 = .ok (.goto (-16), 3) := by decide +kernel
theorem zd_M_init_312 : decode I_M_init.2.1 312 = .ok (.return_, 1) := by decide +kernel
theorem zd_M_station_0 : decode I_M_station.2.1 0 = .ok (.iload_n 1, 1) := by decide +kernel
theorem zd_M_station_1 : decode I_M_station.2.1 1 = .ok (.invokestatic 129, 3) := by decide +kernel
theorem zd_M_station_4 : decode I_M_station.2.1 4 = .ok (.ifCond .ne 9, 3) := by decide +kernel
theorem zd_M_station_7 : decode I_M_station.2.1 7 = .ok (.aload_n 0, 1) := by decide +kernel
theorem zd_M_station_8 : decode I_M_station.2.1 8 = .ok (.iconst (-1), 1) := by decide +kernel
theorem zd_M_station_9 : decode I_M_station.2.1 9 = .ok (.invokevirtual 133, 3) := by decide +kernel
theorem zd_M_station_12 : decode I_M_station.2.1 12 = .ok (.ireturn, 1) := by decide +kernel
theorem zd_M_station_13 : decode I_M_station.2.1 13 = .ok (.iload_n 2, 1) := by decide +kernel
theorem zd_M_station_14 : decode I_M_station.2.1 14 = .ok (.ifCond .lt 8, 3) := by decide +kernel
theorem zd_M_station_17 : decode I_M_station.2.1 17 = .ok (.iload_n 2, 1) := by decide +kernel
theorem zd_M_station_18 : decode I_M_station.2.1 18 = .ok (.iconst 1, 1) := by decide +kernel
theorem zd_M_station_19 : decode I_M_station.2.1 19 = .ok (.if_icmp .le 10, 3) := by decide +kernel
theorem zd_M_station_22 : decode I_M_station.2.1 22 = .ok (.aload_n 0, 1) := by decide +kernel
theorem zd_M_station_23 : decode I_M_station.2.1 23 = .ok (.bipush (-2), 2) := by decide +kernel
theorem zd_M_station_25 : decode I_M_station.2.1 25 = .ok (.invokevirtual 133, 3) := by decide +kernel
theorem zd_M_station_28 : decode I_M_station.2.1 28 = .ok (.ireturn, 1) := by decide +kernel
theorem zd_M_station_29 : decode I_M_station.2.1 29 = .ok (.iload_n 3, 1) := by decide +kernel
theorem zd_M_station_30 : decode I_M_station.2.1 30 = .ok (.ifCond .ge 10, 3) := by decide +kernel
theorem zd_M_station_33 : decode I_M_station.2.1 33 = .ok (.aload_n 0, 1) := by decide +kernel
theorem zd_M_station_34 : decode I_M_station.2.1 34 = .ok (.bipush (-4), 2) := by decide +kernel
theorem zd_M_station_36 : decode I_M_station.2.1 36 = .ok (.invokevirtual 133, 3) := by decide +kernel
theorem zd_M_station_39 : decode I_M_station.2.1 39 = .ok (.ireturn, 1) := by decide +kernel
theorem zd_M_station_40 : decode I_M_station.2.1 40 = .ok (.iload_n 3, 1) := by decide +kernel
theorem zd_M_station_41 : decode I_M_station.2.1 41 = .ok (.iload_n 2, 1) := by decide +kernel
theorem zd_M_station_42 : decode I_M_station.2.1 42 = .ok (.ifCond .ne 9, 3) := by decide +kernel
theorem zd_M_station_45 : decode I_M_station.2.1 45 = .ok (.sipush 300, 3) := by decide +kernel
theorem zd_M_station_48 : decode I_M_station.2.1 48 = .ok (.goto 5, 3) := by decide +kernel
theorem zd_M_station_51 : decode I_M_station.2.1 51 = .ok (.bipush 12, 2) := by decide +kernel
theorem zd_M_station_53 : decode I_M_station.2.1 53 = .ok (.if_icmp .le 10, 3) := by decide +kernel
theorem zd_M_station_56 : decode I_M_station.2.1 56 = .ok (.aload_n 0, 1) := by decide +kernel
theorem zd_M_station_57 : decode I_M_station.2.1 57 = .ok (.bipush (-6), 2) := by decide +kernel
theorem zd_M_station_59 : decode I_M_station.2.1 59 = .ok (.invokevirtual 133, 3) := by decide +kernel
theorem zd_M_station_62 : decode I_M_station.2.1 62 = .ok (.ireturn, 1) := by decide +kernel
theorem zd_M_station_63 : decode I_M_station.2.1 63 = .ok (.iload_n 2, 1) := by decide +kernel
theorem zd_M_station_64 : decode I_M_station.2.1 64 = .ok (.ifCond .ne 12, 3) := by decide +kernel
theorem zd_M_station_67 : decode I_M_station.2.1 67 = .ok (.aload_n 0, 1) := by decide +kernel
theorem zd_M_station_68 : decode I_M_station.2.1 68 = .ok (.getfield 16, 3) := by decide +kernel
theorem zd_M_station_71 : decode I_M_station.2.1 71 = .ok (.iload_n 1, 1) := by decide +kernel
theorem zd_M_station_72 : decode I_M_station.2.1 72 = .ok (.iaload, 1) := by decide +kernel
theorem zd_M_station_73 : decode I_M_station.2.1 73 = .ok (.goto 9, 3) := by decide +kernel
theorem zd_M_station_76 : decode I_M_station.2.1 76 = .ok (.aload_n 0, 1) := by decide +kernel
theorem zd_M_station_77 : decode I_M_station.2.1 77 = .ok (.getfield 20, 3) := by decide +kernel
theorem zd_M_station_80 : decode I_M_station.2.1 80 = .ok (.iload_n 1, 1) := by decide +kernel
theorem zd_M_station_81 : decode I_M_station.2.1 81 = .ok (.iaload, 1) := by decide +kernel
theorem zd_M_station_82 : decode I_M_station.2.1 82 = .ok (.istore 4, 2) := by decide +kernel
theorem zd_M_station_84 : decode I_M_station.2.1 84 = .ok (.iload_n 2, 1) := by decide +kernel
theorem zd_M_station_85 : decode I_M_station.2.1 85 = .ok (.ifCond .ne 13, 3) := by decide +kernel
theorem zd_M_station_88 : decode I_M_station.2.1 88 = .ok (.aload_n 0, 1) := by decide +kernel
theorem zd_M_station_89 : decode I_M_station.2.1 89 = .ok (.getfield 16, 3) := by decide +kernel
theorem zd_M_station_92 : decode I_M_station.2.1 92 = .ok (.iload_n 1, 1) := by decide +kernel
theorem zd_M_station_93 : decode I_M_station.2.1 93 = .ok (.iload_n 3, 1) := by decide +kernel
theorem zd_M_station_94 : decode I_M_station.2.1 94 = .ok (.iastore, 1) := by decide +kernel
theorem zd_M_station_95 : decode I_M_station.2.1 95 = .ok (.goto 10, 3) := by decide +kernel
theorem zd_M_station_98 : decode I_M_station.2.1 98 = .ok (.aload_n 0, 1) := by decide +kernel
theorem zd_M_station_99 : decode I_M_station.2.1 99 = .ok (.getfield 20, 3) := by decide +kernel
theorem zd_M_station_102 : decode I_M_station.2.1 102 = .ok (.iload_n 1, 1) := by decide +kernel
theorem zd_M_station_103 : decode I_M_station.2.1 103 = .ok (.iload_n 3, 1) := by decide +kernel
theorem zd_M_station_104 : decode I_M_station.2.1 104 = .ok (.iastore, 1) := by decide +kernel
theorem zd_M_station_105 : decode I_M_station.2.1 105 = .ok (.iload 4, 2) := by decide +kernel
theorem zd_M_station_107 : decode I_M_station.2.1 107 = .ok (.ireturn, 1) := by decide +kernel
theorem zd_M_isStation_0 : decode I_M_isStation.2.1 0 = .ok (.iload_n 0, 1) := by decide +kernel
theorem zd_M_isStation_1 : decode I_M_isStation.2.1 1 = .ok (.ifCond .lt 13, 3) := by decide +kernel
theorem zd_M_isStation_4 : decode I_M_isStation.2.1 4 = .ok (.iload_n 0, 1) := by decide +kernel
theorem zd_M_isStation_5 : decode I_M_isStation.2.1 5 = .ok (.bipush 6, 2) := by decide +kernel
theorem zd_M_isStation_7 : decode I_M_isStation.2.1 7 = .ok (.if_icmp .ge 7, 3) := by decide +kernel
theorem zd_M_isStation_10 : decode I_M_isStation.2.1 10 = .ok (.iconst 1, 1) := by decide +kernel
theorem zd_M_isStation_11 : decode I_M_isStation.2.1 11 = .ok (.goto 4, 3) := by decide +kernel
theorem zd_M_isStation_14 : decode I_M_isStation.2.1 14 = .ok (.iconst 0, 1) := by decide +kernel
theorem zd_M_isStation_15 : decode I_M_isStation.2.1 15 = .ok (.ireturn, 1) := by decide +kernel
theorem zd_M_no_0 : decode I_M_no.2.1 0 = .ok (.aload_n 0, 1) := by decide +kernel
theorem zd_M_no_1 : decode I_M_no.2.1 1 = .ok (.getfield 89, 3) := by decide +kernel
theorem zd_M_no_4 : decode I_M_no.2.1 4 = .ok (.iload_n 1, 1) := by decide +kernel
theorem zd_M_no_5 : decode I_M_no.2.1 5 = .ok (.ineg, 1) := by decide +kernel
theorem zd_M_no_6 : decode I_M_no.2.1 6 = .ok (.dup2, 1) := by decide +kernel
theorem zd_M_no_7 : decode I_M_no.2.1 7 = .ok (.iaload, 1) := by decide +kernel
theorem zd_M_no_8 : decode I_M_no.2.1 8 = .ok (.iconst 1, 1) := by decide +kernel
theorem zd_M_no_9 : decode I_M_no.2.1 9 = .ok (.iadd, 1) := by decide +kernel
theorem zd_M_no_10 : decode I_M_no.2.1 10 = .ok (.iastore, 1) := by decide +kernel
theorem zd_M_no_11 : decode I_M_no.2.1 11 = .ok (.iload_n 1, 1) := by decide +kernel
theorem zd_M_no_12 : decode I_M_no.2.1 12 = .ok (.ireturn, 1) := by decide +kernel
theorem zd_M_person_0 : decode I_M_person.2.1 0 = .ok (.iload_n 1, 1) := by decide +kernel
theorem zd_M_person_1 : decode I_M_person.2.1 1 = .ok (.invokestatic 129, 3) := by decide +kernel
theorem zd_M_person_4 : decode I_M_person.2.1 4 = .ok (.ifCond .ne 9, 3) := by decide +kernel
theorem zd_M_person_7 : decode I_M_person.2.1 7 = .ok (.aload_n 0, 1) := by decide +kernel
theorem zd_M_person_8 : decode I_M_person.2.1 8 = .ok (.iconst (-1), 1) := by decide +kernel
theorem zd_M_person_9 : decode I_M_person.2.1 9 = .ok (.invokevirtual 133, 3) := by decide +kernel
theorem zd_M_person_12 : decode I_M_person.2.1 12 = .ok (.ireturn, 1) := by decide +kernel
theorem zd_M_person_13 : decode I_M_person.2.1 13 = .ok (.iload_n 2, 1) := by decide +kernel
theorem zd_M_person_14 : decode I_M_person.2.1 14 = .ok (.ifCond .lt 7, 3) := by decide +kernel
theorem zd_M_person_17 : decode I_M_person.2.1 17 = .ok (.iload_n 3, 1) := by decide +kernel
theorem zd_M_person_18 : decode I_M_person.2.1 18 = .ok (.ifCond .ge 10, 3) := by decide +kernel
theorem zd_M_person_21 : decode I_M_person.2.1 21 = .ok (.aload_n 0, 1) := by decide +kernel
theorem zd_M_person_22 : decode I_M_person.2.1 22 = .ok (.bipush (-4), 2) := by decide +kernel
theorem zd_M_person_24 : decode I_M_person.2.1 24 = .ok (.invokevirtual 133, 3) := by decide +kernel
theorem zd_M_person_27 : decode I_M_person.2.1 27 = .ok (.ireturn, 1) := by decide +kernel
theorem zd_M_person_28 : decode I_M_person.2.1 28 = .ok (.iload_n 2, 1) := by decide +kernel
theorem zd_M_person_29 : decode I_M_person.2.1 29 = .ok (.bipush 15, 2) := by decide +kernel
theorem zd_M_person_31 : decode I_M_person.2.1 31 = .ok (.if_icmp .gt 19, 3) := by decide +kernel
theorem zd_M_person_34 : decode I_M_person.2.1 34 = .ok (.iload_n 3, 1) := by decide +kernel
theorem zd_M_person_35 : decode I_M_person.2.1 35 = .ok (.sipush 200, 3) := by decide +kernel
theorem zd_M_person_38 : decode I_M_person.2.1 38 = .ok (.if_icmp .gt 12, 3) := by decide +kernel
theorem zd_M_person_41 : decode I_M_person.2.1 41 = .ok (.aload_n 0, 1) := by decide +kernel
theorem zd_M_person_42 : decode I_M_person.2.1 42 = .ok (.getfield 110, 3) := by decide +kernel
theorem zd_M_person_45 : decode I_M_person.2.1 45 = .ok (.bipush 40, 2) := by decide +kernel
theorem zd_M_person_47 : decode I_M_person.2.1 47 = .ok (.if_icmp .ne 10, 3) := by decide +kernel
theorem zd_M_person_50 : decode I_M_person.2.1 50 = .ok (.aload_n 0, 1) := by decide +kernel
theorem zd_M_person_51 : decode I_M_person.2.1 51 = .ok (.bipush (-6), 2) := by decide +kernel
theorem zd_M_person_53 : decode I_M_person.2.1 53 = .ok (.invokevirtual 133, 3) := by decide +kernel
theorem zd_M_person_56 : decode I_M_person.2.1 56 = .ok (.ireturn, 1) := by decide +kernel
theorem zd_M_person_57 : decode I_M_person.2.1 57 = .ok (.aload_n 0, 1) := by decide +kernel
theorem zd_M_person_58 : decode I_M_person.2.1 58 = .ok (.getfield 23, 3) := by decide +kernel
theorem zd_M_person_61 : decode I_M_person.2.1 61 = .ok (.aload_n 0, 1) := by decide +kernel
theorem zd_M_person_62 : decode I_M_person.2.1 62 = .ok (.getfield 110, 3) := by decide +kernel
theorem zd_M_person_65 : decode I_M_person.2.1 65 = .ok (.iload_n 1, 1) := by decide +kernel
theorem zd_M_person_66 : decode I_M_person.2.1 66 = .ok (.iastore, 1) := by decide +kernel
theorem zd_M_person_67 : decode I_M_person.2.1 67 = .ok (.aload_n 0, 1) := by decide +kernel
theorem zd_M_person_68 : decode I_M_person.2.1 68 = .ok (.getfield 26, 3) := by decide +kernel
theorem zd_M_person_71 : decode I_M_person.2.1 71 = .ok (.aload_n 0, 1) := by decide +kernel
theorem zd_M_person_72 : decode I_M_person.2.1 72 = .ok (.getfield 110, 3) := by decide +kernel
theorem zd_M_person_75 : decode I_M_person.2.1 75 = .ok (.iload_n 2, 1) := by decide +kernel
theorem zd_M_person_76 : decode I_M_person.2.1 76 = .ok (.iastore, 1) := by decide +kernel
theorem zd_M_person_77 : decode I_M_person.2.1 77 = .ok (.aload_n 0, 1) := by decide +kernel
theorem zd_M_person_78 : decode I_M_person.2.1 78 = .ok (.getfield 29, 3) := by decide +kernel
theorem zd_M_person_81 : decode I_M_person.2.1 81 = .ok (.aload_n 0, 1) := by decide +kernel
theorem zd_M_person_82 : decode I_M_person.2.1 82 = .ok (.getfield 110, 3) := by decide +kernel
theorem zd_M_person_85 : decode I_M_person.2.1 85 = .ok (.iload_n 3, 1) := by decide +kernel
theorem zd_M_person_86 : decode I_M_person.2.1 86 = .ok (.iastore, 1) := by decide +kernel
theorem zd_M_person_87 : decode I_M_person.2.1 87 = .ok (.aload_n 0, 1) := by decide +kernel
theorem zd_M_person_88 : decode I_M_person.2.1 88 = .ok (.dup, 1) := by decide +kernel
theorem zd_M_person_89 : decode I_M_person.2.1 89 = .ok (.getfield 110, 3) := by decide +kernel
theorem zd_M_person_92 : decode I_M_person.2.1 92 = .ok (.dup_x1, 1) := by decide +kernel
theorem zd_M_person_93 : decode I_M_person.2.1 93 = .ok (.iconst 1, 1) := by decide +kernel
theorem zd_M_person_94 : decode I_M_person.2.1 94 = .ok (.iadd, 1) := by decide +kernel
theorem zd_M_person_95 : decode I_M_person.2.1 95 = .ok (.putfield 110, 3) := by decide +kernel
theorem zd_M_person_98 : decode I_M_person.2.1 98 = .ok (.ireturn, 1) := by decide +kernel
theorem zd_M_papers_0 : decode I_M_papers.2.1 0 = .ok (.aload_n 0, 1) := by decide +kernel
theorem zd_M_papers_1 : decode I_M_papers.2.1 1 = .ok (.iload_n 1, 1) := by decide +kernel
theorem zd_M_papers_2 : decode I_M_papers.2.1 2 = .ok (.invokevirtual 137, 3) := by decide +kernel
theorem zd_M_papers_5 : decode I_M_papers.2.1 5 = .ok (.ifCond .ne 9, 3) := by decide +kernel
theorem zd_M_papers_8 : decode I_M_papers.2.1 8 = .ok (.aload_n 0, 1) := by decide +kernel
theorem zd_M_papers_9 : decode I_M_papers.2.1 9 = .ok (.iconst (-1), 1) := by decide +kernel
theorem zd_M_papers_10 : decode I_M_papers.2.1 10 = .ok (.invokevirtual 133, 3) := by decide +kernel
theorem zd_M_papers_13 : decode I_M_papers.2.1 13 = .ok (.ireturn, 1) := by decide +kernel
theorem zd_M_papers_14 : decode I_M_papers.2.1 14 = .ok (.iload_n 2, 1) := by decide +kernel
theorem zd_M_papers_15 : decode I_M_papers.2.1 15 = .ok (.ifCond .ge 10, 3) := by decide +kernel
theorem zd_M_papers_18 : decode I_M_papers.2.1 18 = .ok (.aload_n 0, 1) := by decide +kernel
theorem zd_M_papers_19 : decode I_M_papers.2.1 19 = .ok (.bipush (-4), 2) := by decide +kernel
theorem zd_M_papers_21 : decode I_M_papers.2.1 21 = .ok (.invokevirtual 133, 3) := by decide +kernel
theorem zd_M_papers_24 : decode I_M_papers.2.1 24 = .ok (.ireturn, 1) := by decide +kernel
theorem zd_M_papers_25 : decode I_M_papers.2.1 25 = .ok (.iload_n 2, 1) := by decide +kernel
theorem zd_M_papers_26 : decode I_M_papers.2.1 26 = .ok (.sipush 200, 3) := by decide +kernel
theorem zd_M_papers_29 : decode I_M_papers.2.1 29 = .ok (.if_icmp .le 10, 3) := by decide +kernel
theorem zd_M_papers_32 : decode I_M_papers.2.1 32 = .ok (.aload_n 0, 1) := by decide +kernel
theorem zd_M_papers_33 : decode I_M_papers.2.1 33 = .ok (.bipush (-6), 2) := by decide +kernel
theorem zd_M_papers_35 : decode I_M_papers.2.1 35 = .ok (.invokevirtual 133, 3) := by decide +kernel
theorem zd_M_papers_38 : decode I_M_papers.2.1 38 = .ok (.ireturn, 1) := by decide +kernel
theorem zd_M_papers_39 : decode I_M_papers.2.1 39 = .ok (.aload_n 0, 1) := by decide +kernel
theorem zd_M_papers_40 : decode I_M_papers.2.1 40 = .ok (.getfield 29, 3) := by decide +kernel
theorem zd_M_papers_43 : decode I_M_papers.2.1 43 = .ok (.iload_n 1, 1) := by decide +kernel
theorem zd_M_papers_44 : decode I_M_papers.2.1 44 = .ok (.iaload, 1) := by decide +kernel
theorem zd_M_papers_45 : decode I_M_papers.2.1 45 = .ok (.istore_n 3, 1) := by decide +kernel
theorem zd_M_papers_46 : decode I_M_papers.2.1 46 = .ok (.aload_n 0, 1) := by decide +kernel
theorem zd_M_papers_47 : decode I_M_papers.2.1 47 = .ok (.getfield 29, 3) := by decide +kernel
theorem zd_M_papers_50 : decode I_M_papers.2.1 50 = .ok (.iload_n 1, 1) := by decide +kernel
theorem zd_M_papers_51 : decode I_M_papers.2.1 51 = .ok (.iload_n 2, 1) := by decide +kernel
theorem zd_M_papers_52 : decode I_M_papers.2.1 52 = .ok (.iastore, 1) := by decide +kernel
theorem zd_M_papers_53 : decode I_M_papers.2.1 53 = .ok (.iload_n 3, 1) := by decide +kernel
theorem zd_M_papers_54 : decode I_M_papers.2.1 54 = .ok (.ireturn, 1) := by decide +kernel
theorem zd_M_isPerson_0 : decode I_M_isPerson.2.1 0 = .ok (.iload_n 1, 1) := by decide +kernel
theorem zd_M_isPerson_1 : decode I_M_isPerson.2.1 1 = .ok (.ifCond .lt 15, 3) := by decide +kernel
theorem zd_M_isPerson_4 : decode I_M_isPerson.2.1 4 = .ok (.iload_n 1, 1) := by decide +kernel
theorem zd_M_isPerson_5 : decode I_M_isPerson.2.1 5 = .ok (.aload_n 0, 1) := by decide +kernel
theorem zd_M_isPerson_6 : decode I_M_isPerson.2.1 6 = .ok (.getfield 110, 3) := by decide +kernel
theorem zd_M_isPerson_9 : decode I_M_isPerson.2.1 9 = .ok (.if_icmp .ge 7, 3) := by decide +kernel
theorem zd_M_isPerson_12 : decode I_M_isPerson.2.1 12 = .ok (.iconst 1, 1) := by decide +kernel
theorem zd_M_isPerson_13 : decode I_M_isPerson.2.1 13 = .ok (.goto 4, 3) := by decide +kernel
theorem zd_M_isPerson_16 : decode I_M_isPerson.2.1 16 = .ok (.iconst 0, 1) := by decide +kernel
theorem zd_M_isPerson_17 : decode I_M_isPerson.2.1 17 = .ok (.ireturn, 1) := by decide +kernel
theorem zd_M_page_0 : decode I_M_page.2.1 0 = .ok (.aload_n 0, 1) := by decide +kernel
theorem zd_M_page_1 : decode I_M_page.2.1 1 = .ok (.iload_n 1, 1) := by decide +kernel
theorem zd_M_page_2 : decode I_M_page.2.1 2 = .ok (.invokevirtual 137, 3) := by decide +kernel
theorem zd_M_page_5 : decode I_M_page.2.1 5 = .ok (.ifCond .ne 9, 3) := by decide +kernel
theorem zd_M_page_8 : decode I_M_page.2.1 8 = .ok (.aload_n 0, 1) := by decide +kernel
theorem zd_M_page_9 : decode I_M_page.2.1 9 = .ok (.iconst (-1), 1) := by decide +kernel
theorem zd_M_page_10 : decode I_M_page.2.1 10 = .ok (.invokevirtual 133, 3) := by decide +kernel
theorem zd_M_page_13 : decode I_M_page.2.1 13 = .ok (.ireturn, 1) := by decide +kernel
theorem zd_M_page_14 : decode I_M_page.2.1 14 = .ok (.bipush 8, 2) := by decide +kernel
theorem zd_M_page_16 : decode I_M_page.2.1 16 = .ok (.iload_n 1, 1) := by decide +kernel
theorem zd_M_page_17 : decode I_M_page.2.1 17 = .ok (.imul, 1) := by decide +kernel
theorem zd_M_page_18 : decode I_M_page.2.1 18 = .ok (.aload_n 0, 1) := by decide +kernel
theorem zd_M_page_19 : decode I_M_page.2.1 19 = .ok (.invokevirtual 140, 3) := by decide +kernel
theorem zd_M_page_22 : decode I_M_page.2.1 22 = .ok (.iadd, 1) := by decide +kernel
theorem zd_M_page_23 : decode I_M_page.2.1 23 = .ok (.istore_n 3, 1) := by decide +kernel
theorem zd_M_page_24 : decode I_M_page.2.1 24 = .ok (.aload_n 0, 1) := by decide +kernel
theorem zd_M_page_25 : decode I_M_page.2.1 25 = .ok (.getfield 35, 3) := by decide +kernel
theorem zd_M_page_28 : decode I_M_page.2.1 28 = .ok (.iload_n 3, 1) := by decide +kernel
theorem zd_M_page_29 : decode I_M_page.2.1 29 = .ok (.iaload, 1) := by decide +kernel
theorem zd_M_page_30 : decode I_M_page.2.1 30 = .ok (.sipush 200, 3) := by decide +kernel
theorem zd_M_page_33 : decode I_M_page.2.1 33 = .ok (.if_icmp .ne 10, 3) := by decide +kernel
theorem zd_M_page_36 : decode I_M_page.2.1 36 = .ok (.aload_n 0, 1) := by decide +kernel
theorem zd_M_page_37 : decode I_M_page.2.1 37 = .ok (.bipush (-6), 2) := by decide +kernel
theorem zd_M_page_39 : decode I_M_page.2.1 39 = .ok (.invokevirtual 133, 3) := by decide +kernel
theorem zd_M_page_42 : decode I_M_page.2.1 42 = .ok (.ireturn, 1) := by decide +kernel
theorem zd_M_page_43 : decode I_M_page.2.1 43 = .ok (.aload_n 0, 1) := by decide +kernel
theorem zd_M_page_44 : decode I_M_page.2.1 44 = .ok (.getfield 35, 3) := by decide +kernel
theorem zd_M_page_47 : decode I_M_page.2.1 47 = .ok (.iload_n 3, 1) := by decide +kernel
theorem zd_M_page_48 : decode I_M_page.2.1 48 = .ok (.dup2, 1) := by decide +kernel
theorem zd_M_page_49 : decode I_M_page.2.1 49 = .ok (.iaload, 1) := by decide +kernel
theorem zd_M_page_50 : decode I_M_page.2.1 50 = .ok (.iconst 1, 1) := by decide +kernel
theorem zd_M_page_51 : decode I_M_page.2.1 51 = .ok (.iadd, 1) := by decide +kernel
theorem zd_M_page_52 : decode I_M_page.2.1 52 = .ok (.iastore, 1) := by decide +kernel
theorem zd_M_page_53 : decode I_M_page.2.1 53 = .ok (.iload_n 2, 1) := by decide +kernel
theorem zd_M_page_54 : decode I_M_page.2.1 54 = .ok (.ifCond .eq 13, 3) := by decide +kernel
theorem zd_M_page_57 : decode I_M_page.2.1 57 = .ok (.aload_n 0, 1) := by decide +kernel
theorem zd_M_page_58 : decode I_M_page.2.1 58 = .ok (.getfield 38, 3) := by decide +kernel
theorem zd_M_page_61 : decode I_M_page.2.1 61 = .ok (.iload_n 3, 1) := by decide +kernel
theorem zd_M_page_62 : decode I_M_page.2.1 62 = .ok (.dup2, 1) := by decide +kernel
theorem zd_M_page_63 : decode I_M_page.2.1 63 = .ok (.iaload, 1) := by decide +kernel
theorem zd_M_page_64 : decode I_M_page.2.1 64 = .ok (.iconst 1, 1) := by decide +kernel
theorem zd_M_page_65 : decode I_M_page.2.1 65 = .ok (.iadd, 1) := by decide +kernel
theorem zd_M_page_66 : decode I_M_page.2.1 66 = .ok (.iastore, 1) := by decide +kernel
theorem zd_M_page_67 : decode I_M_page.2.1 67 = .ok (.aload_n 0, 1) := by decide +kernel
theorem zd_M_page_68 : decode I_M_page.2.1 68 = .ok (.getfield 35, 3) := by decide +kernel
theorem zd_M_page_71 : decode I_M_page.2.1 71 = .ok (.iload_n 3, 1) := by decide +kernel
theorem zd_M_page_72 : decode I_M_page.2.1 72 = .ok (.iaload, 1) := by decide +kernel
theorem zd_M_page_73 : decode I_M_page.2.1 73 = .ok (.ireturn, 1) := by decide +kernel
theorem zd_M_band_0 : decode I_M_band.2.1 0 = .ok (.aload_n 0, 1) := by decide +kernel
theorem zd_M_band_1 : decode I_M_band.2.1 1 = .ok (.invokevirtual 122, 3) := by decide +kernel
theorem zd_M_band_4 : decode I_M_band.2.1 4 = .ok (.bipush 24, 2) := by decide +kernel
theorem zd_M_band_6 : decode I_M_band.2.1 6 = .ok (.irem, 1) := by decide +kernel
theorem zd_M_band_7 : decode I_M_band.2.1 7 = .ok (.bipush 6, 2) := by decide +kernel
theorem zd_M_band_9 : decode I_M_band.2.1 9 = .ok (.idiv, 1) := by decide +kernel
theorem zd_M_band_10 : decode I_M_band.2.1 10 = .ok (.aload_n 0, 1) := by decide +kernel
theorem zd_M_band_11 : decode I_M_band.2.1 11 = .ok (.invokevirtual 126, 3) := by decide +kernel
theorem zd_M_band_14 : decode I_M_band.2.1 14 = .ok (.bipush 7, 2) := by decide +kernel
theorem zd_M_band_16 : decode I_M_band.2.1 16 = .ok (.irem, 1) := by decide +kernel
theorem zd_M_band_17 : decode I_M_band.2.1 17 = .ok (.iconst 4, 1) := by decide +kernel
theorem zd_M_band_18 : decode I_M_band.2.1 18 = .ok (.if_icmp .le 7, 3) := by decide +kernel
theorem zd_M_band_21 : decode I_M_band.2.1 21 = .ok (.iconst 4, 1) := by decide +kernel
theorem zd_M_band_22 : decode I_M_band.2.1 22 = .ok (.goto 4, 3) := by decide +kernel
theorem zd_M_band_25 : decode I_M_band.2.1 25 = .ok (.iconst 0, 1) := by decide +kernel
theorem zd_M_band_26 : decode I_M_band.2.1 26 = .ok (.iadd, 1) := by decide +kernel
theorem zd_M_band_27 : decode I_M_band.2.1 27 = .ok (.ireturn, 1) := by decide +kernel
theorem zd_M_hour_0 : decode I_M_hour.2.1 0 = .ok (.aload_n 0, 1) := by decide +kernel
theorem zd_M_hour_1 : decode I_M_hour.2.1 1 = .ok (.getfield 119, 3) := by decide +kernel
theorem zd_M_hour_4 : decode I_M_hour.2.1 4 = .ok (.bipush 60, 2) := by decide +kernel
theorem zd_M_hour_6 : decode I_M_hour.2.1 6 = .ok (.idiv, 1) := by decide +kernel
theorem zd_M_hour_7 : decode I_M_hour.2.1 7 = .ok (.ireturn, 1) := by decide +kernel
theorem zd_M_day_0 : decode I_M_day.2.1 0 = .ok (.aload_n 0, 1) := by decide +kernel
theorem zd_M_day_1 : decode I_M_day.2.1 1 = .ok (.invokevirtual 122, 3) := by decide +kernel
theorem zd_M_day_4 : decode I_M_day.2.1 4 = .ok (.bipush 24, 2) := by decide +kernel
theorem zd_M_day_6 : decode I_M_day.2.1 6 = .ok (.idiv, 1) := by decide +kernel
theorem zd_M_day_7 : decode I_M_day.2.1 7 = .ok (.ireturn, 1) := by decide +kernel
theorem zd_M_partOf_0 : decode I_M_partOf.2.1 0 = .ok (.aload_n 0, 1) := by decide +kernel
theorem zd_M_partOf_1 : decode I_M_partOf.2.1 1 = .ok (.iload_n 1, 1) := by decide +kernel
theorem zd_M_partOf_2 : decode I_M_partOf.2.1 2 = .ok (.invokevirtual 137, 3) := by decide +kernel
theorem zd_M_partOf_5 : decode I_M_partOf.2.1 5 = .ok (.ifCond .eq 19, 3) := by decide +kernel
theorem zd_M_partOf_8 : decode I_M_partOf.2.1 8 = .ok (.iload_n 2, 1) := by decide +kernel
theorem zd_M_partOf_9 : decode I_M_partOf.2.1 9 = .ok (.invokestatic 143, 3) := by decide +kernel
theorem zd_M_partOf_12 : decode I_M_partOf.2.1 12 = .ok (.ifCond .eq 12, 3) := by decide +kernel
theorem zd_M_partOf_15 : decode I_M_partOf.2.1 15 = .ok (.aload_n 0, 1) := by decide +kernel
theorem zd_M_partOf_16 : decode I_M_partOf.2.1 16 = .ok (.iload_n 1, 1) := by decide +kernel
theorem zd_M_partOf_17 : decode I_M_partOf.2.1 17 = .ok (.iload_n 2, 1) := by decide +kernel
theorem zd_M_partOf_18 : decode I_M_partOf.2.1 18 = .ok (.invokevirtual 146, 3) := by decide +kernel
theorem zd_M_partOf_21 : decode I_M_partOf.2.1 21 = .ok (.goto 8, 3) := by decide +kernel
theorem zd_M_partOf_24 : decode I_M_partOf.2.1 24 = .ok (.aload_n 0, 1) := by decide +kernel
theorem zd_M_partOf_25 : decode I_M_partOf.2.1 25 = .ok (.iconst (-1), 1) := by decide +kernel
theorem zd_M_partOf_26 : decode I_M_partOf.2.1 26 = .ok (.invokevirtual 133, 3) := by decide +kernel
theorem zd_M_partOf_29 : decode I_M_partOf.2.1 29 = .ok (.ireturn, 1) := by decide +kernel
theorem zd_M_isBand_0 : decode I_M_isBand.2.1 0 = .ok (.iload_n 0, 1) := by decide +kernel
theorem zd_M_isBand_1 : decode I_M_isBand.2.1 1 = .ok (.ifCond .lt 13, 3) := by decide +kernel
theorem zd_M_isBand_4 : decode I_M_isBand.2.1 4 = .ok (.iload_n 0, 1) := by decide +kernel
theorem zd_M_isBand_5 : decode I_M_isBand.2.1 5 = .ok (.bipush 8, 2) := by decide +kernel
theorem zd_M_isBand_7 : decode I_M_isBand.2.1 7 = .ok (.if_icmp .ge 7, 3) := by decide +kernel
theorem zd_M_isBand_10 : decode I_M_isBand.2.1 10 = .ok (.iconst 1, 1) := by decide +kernel
theorem zd_M_isBand_11 : decode I_M_isBand.2.1 11 = .ok (.goto 4, 3) := by decide +kernel
theorem zd_M_isBand_14 : decode I_M_isBand.2.1 14 = .ok (.iconst 0, 1) := by decide +kernel
theorem zd_M_isBand_15 : decode I_M_isBand.2.1 15 = .ok (.ireturn, 1) := by decide +kernel
theorem zd_M_part_0 : decode I_M_part.2.1 0 = .ok (.aload_n 0, 1) := by decide +kernel
theorem zd_M_part_1 : decode I_M_part.2.1 1 = .ok (.getfield 29, 3) := by decide +kernel
theorem zd_M_part_4 : decode I_M_part.2.1 4 = .ok (.iload_n 1, 1) := by decide +kernel
theorem zd_M_part_5 : decode I_M_part.2.1 5 = .ok (.iaload, 1) := by decide +kernel
theorem zd_M_part_6 : decode I_M_part.2.1 6 = .ok (.aload_n 0, 1) := by decide +kernel
theorem zd_M_part_7 : decode I_M_part.2.1 7 = .ok (.invokevirtual 126, 3) := by decide +kernel
theorem zd_M_part_10 : decode I_M_part.2.1 10 = .ok (.if_icmp .lt 16, 3) := by decide +kernel
theorem zd_M_part_13 : decode I_M_part.2.1 13 = .ok (.aload_n 0, 1) := by decide +kernel
theorem zd_M_part_14 : decode I_M_part.2.1 14 = .ok (.getfield 119, 3) := by decide +kernel
theorem zd_M_part_17 : decode I_M_part.2.1 17 = .ok (.aload_n 0, 1) := by decide +kernel
theorem zd_M_part_18 : decode I_M_part.2.1 18 = .ok (.getfield 32, 3) := by decide +kernel
theorem zd_M_part_21 : decode I_M_part.2.1 21 = .ok (.iload_n 1, 1) := by decide +kernel
theorem zd_M_part_22 : decode I_M_part.2.1 22 = .ok (.iaload, 1) := by decide +kernel
theorem zd_M_part_23 : decode I_M_part.2.1 23 = .ok (.if_icmp .ge 5, 3) := by decide +kernel
theorem zd_M_part_26 : decode I_M_part.2.1 26 = .ok (.iconst 0, 1) := by decide +kernel
theorem zd_M_part_27 : decode I_M_part.2.1 27 = .ok (.ireturn, 1) := by decide +kernel
theorem zd_M_part_28 : decode I_M_part.2.1 28 = .ok (.sipush 1024, 3) := by decide +kernel
theorem zd_M_part_31 : decode I_M_part.2.1 31 = .ok (.aload_n 0, 1) := by decide +kernel
theorem zd_M_part_32 : decode I_M_part.2.1 32 = .ok (.getfield 38, 3) := by decide +kernel
theorem zd_M_part_35 : decode I_M_part.2.1 35 = .ok (.bipush 8, 2) := by decide +kernel
theorem zd_M_part_37 : decode I_M_part.2.1 37 = .ok (.iload_n 1, 1) := by decide +kernel
theorem zd_M_part_38 : decode I_M_part.2.1 38 = .ok (.imul, 1) := by decide +kernel
theorem zd_M_part_39 : decode I_M_part.2.1 39 = .ok (.iload_n 2, 1) := by decide +kernel
theorem zd_M_part_40 : decode I_M_part.2.1 40 = .ok (.iadd, 1) := by decide +kernel
theorem zd_M_part_41 : decode I_M_part.2.1 41 = .ok (.iaload, 1) := by decide +kernel
theorem zd_M_part_42 : decode I_M_part.2.1 42 = .ok (.iconst 1, 1) := by decide +kernel
theorem zd_M_part_43 : decode I_M_part.2.1 43 = .ok (.iadd, 1) := by decide +kernel
theorem zd_M_part_44 : decode I_M_part.2.1 44 = .ok (.imul, 1) := by decide +kernel
theorem zd_M_part_45 : decode I_M_part.2.1 45 = .ok (.aload_n 0, 1) := by decide +kernel
theorem zd_M_part_46 : decode I_M_part.2.1 46 = .ok (.getfield 35, 3) := by decide +kernel
theorem zd_M_part_49 : decode I_M_part.2.1 49 = .ok (.bipush 8, 2) := by decide +kernel
theorem zd_M_part_51 : decode I_M_part.2.1 51 = .ok (.iload_n 1, 1) := by decide +kernel
theorem zd_M_part_52 : decode I_M_part.2.1 52 = .ok (.imul, 1) := by decide +kernel
theorem zd_M_part_53 : decode I_M_part.2.1 53 = .ok (.iload_n 2, 1) := by decide +kernel
theorem zd_M_part_54 : decode I_M_part.2.1 54 = .ok (.iadd, 1) := by decide +kernel
theorem zd_M_part_55 : decode I_M_part.2.1 55 = .ok (.iaload, 1) := by decide +kernel
theorem zd_M_part_56 : decode I_M_part.2.1 56 = .ok (.iconst 2, 1) := by decide +kernel
theorem zd_M_part_57 : decode I_M_part.2.1 57 = .ok (.iadd, 1) := by decide +kernel
theorem zd_M_part_58 : decode I_M_part.2.1 58 = .ok (.idiv, 1) := by decide +kernel
theorem zd_M_part_59 : decode I_M_part.2.1 59 = .ok (.ireturn, 1) := by decide +kernel
theorem zd_M_set_0 : decode I_M_set.2.1 0 = .ok (.iload_n 1, 1) := by decide +kernel
theorem zd_M_set_1 : decode I_M_set.2.1 1 = .ok (.ifCond .lt 8, 3) := by decide +kernel
theorem zd_M_set_4 : decode I_M_set.2.1 4 = .ok (.iload_n 1, 1) := by decide +kernel
theorem zd_M_set_5 : decode I_M_set.2.1 5 = .ok (.iconst 1, 1) := by decide +kernel
theorem zd_M_set_6 : decode I_M_set.2.1 6 = .ok (.if_icmp .le 10, 3) := by decide +kernel
theorem zd_M_set_9 : decode I_M_set.2.1 9 = .ok (.aload_n 0, 1) := by decide +kernel
theorem zd_M_set_10 : decode I_M_set.2.1 10 = .ok (.bipush (-2), 2) := by decide +kernel
theorem zd_M_set_12 : decode I_M_set.2.1 12 = .ok (.invokevirtual 133, 3) := by decide +kernel
theorem zd_M_set_15 : decode I_M_set.2.1 15 = .ok (.ireturn, 1) := by decide +kernel
theorem zd_M_set_16 : decode I_M_set.2.1 16 = .ok (.iload_n 2, 1) := by decide +kernel
theorem zd_M_set_17 : decode I_M_set.2.1 17 = .ok (.iload_n 1, 1) := by decide +kernel
theorem zd_M_set_18 : decode I_M_set.2.1 18 = .ok (.ifCond .ne 7, 3) := by decide +kernel
theorem zd_M_set_21 : decode I_M_set.2.1 21 = .ok (.iconst 2, 1) := by decide +kernel
theorem zd_M_set_22 : decode I_M_set.2.1 22 = .ok (.goto 4, 3) := by decide +kernel
theorem zd_M_set_25 : decode I_M_set.2.1 25 = .ok (.iconst 5, 1) := by decide +kernel
theorem zd_M_set_26 : decode I_M_set.2.1 26 = .ok (.if_icmp .ge 10, 3) := by decide +kernel
theorem zd_M_set_29 : decode I_M_set.2.1 29 = .ok (.aload_n 0, 1) := by decide +kernel
theorem zd_M_set_30 : decode I_M_set.2.1 30 = .ok (.bipush (-4), 2) := by decide +kernel
theorem zd_M_set_32 : decode I_M_set.2.1 32 = .ok (.invokevirtual 133, 3) := by decide +kernel
theorem zd_M_set_35 : decode I_M_set.2.1 35 = .ok (.ireturn, 1) := by decide +kernel
theorem zd_M_set_36 : decode I_M_set.2.1 36 = .ok (.iload_n 2, 1) := by decide +kernel
theorem zd_M_set_37 : decode I_M_set.2.1 37 = .ok (.iload_n 1, 1) := by decide +kernel
theorem zd_M_set_38 : decode I_M_set.2.1 38 = .ok (.ifCond .ne 8, 3) := by decide +kernel
theorem zd_M_set_41 : decode I_M_set.2.1 41 = .ok (.bipush 6, 2) := by decide +kernel
theorem zd_M_set_43 : decode I_M_set.2.1 43 = .ok (.goto 5, 3) := by decide +kernel
theorem zd_M_set_46 : decode I_M_set.2.1 46 = .ok (.bipush 30, 2) := by decide +kernel
theorem zd_M_set_48 : decode I_M_set.2.1 48 = .ok (.if_icmp .le 10, 3) := by decide +kernel
theorem zd_M_set_51 : decode I_M_set.2.1 51 = .ok (.aload_n 0, 1) := by decide +kernel
theorem zd_M_set_52 : decode I_M_set.2.1 52 = .ok (.bipush (-6), 2) := by decide +kernel
theorem zd_M_set_54 : decode I_M_set.2.1 54 = .ok (.invokevirtual 133, 3) := by decide +kernel
theorem zd_M_set_57 : decode I_M_set.2.1 57 = .ok (.ireturn, 1) := by decide +kernel
theorem zd_M_set_58 : decode I_M_set.2.1 58 = .ok (.iload_n 1, 1) := by decide +kernel
theorem zd_M_set_59 : decode I_M_set.2.1 59 = .ok (.ifCond .ne 10, 3) := by decide +kernel
theorem zd_M_set_62 : decode I_M_set.2.1 62 = .ok (.aload_n 0, 1) := by decide +kernel
theorem zd_M_set_63 : decode I_M_set.2.1 63 = .ok (.getfield 7, 3) := by decide +kernel
theorem zd_M_set_66 : decode I_M_set.2.1 66 = .ok (.goto 7, 3) := by decide +kernel
theorem zd_M_set_69 : decode I_M_set.2.1 69 = .ok (.aload_n 0, 1) := by decide +kernel
theorem zd_M_set_70 : decode I_M_set.2.1 70 = .ok (.getfield 13, 3) := by decide +kernel
theorem zd_M_set_73 : decode I_M_set.2.1 73 = .ok (.istore_n 3, 1) := by decide +kernel
theorem zd_M_set_74 : decode I_M_set.2.1 74 = .ok (.iload_n 1, 1) := by decide +kernel
theorem zd_M_set_75 : decode I_M_set.2.1 75 = .ok (.ifCond .ne 11, 3) := by decide +kernel
theorem zd_M_set_78 : decode I_M_set.2.1 78 = .ok (.aload_n 0, 1) := by decide +kernel
theorem zd_M_set_79 : decode I_M_set.2.1 79 = .ok (.iload_n 2, 1) := by decide +kernel
theorem zd_M_set_80 : decode I_M_set.2.1 80 = .ok (.putfield 7, 3) := by decide +kernel
theorem zd_M_set_83 : decode I_M_set.2.1 83 = .ok (.goto 8, 3) := by decide +kernel
theorem zd_M_set_86 : decode I_M_set.2.1 86 = .ok (.aload_n 0, 1) := by decide +kernel
theorem zd_M_set_87 : decode I_M_set.2.1 87 = .ok (.iload_n 2, 1) := by decide +kernel
theorem zd_M_set_88 : decode I_M_set.2.1 88 = .ok (.putfield 13, 3) := by decide +kernel
theorem zd_M_set_91 : decode I_M_set.2.1 91 = .ok (.iload_n 3, 1) := by decide +kernel
theorem zd_M_set_92 : decode I_M_set.2.1 92 = .ok (.ireturn, 1) := by decide +kernel
theorem zd_M_chance_0 : decode I_M_chance.2.1 0 = .ok (.iload_n 1, 1) := by decide +kernel
theorem zd_M_chance_1 : decode I_M_chance.2.1 1 = .ok (.invokestatic 129, 3) := by decide +kernel
theorem zd_M_chance_4 : decode I_M_chance.2.1 4 = .ok (.ifCond .eq 19, 3) := by decide +kernel
theorem zd_M_chance_7 : decode I_M_chance.2.1 7 = .ok (.iload_n 2, 1) := by decide +kernel
theorem zd_M_chance_8 : decode I_M_chance.2.1 8 = .ok (.invokestatic 143, 3) := by decide +kernel
theorem zd_M_chance_11 : decode I_M_chance.2.1 11 = .ok (.ifCond .eq 12, 3) := by decide +kernel
theorem zd_M_chance_14 : decode I_M_chance.2.1 14 = .ok (.aload_n 0, 1) := by decide +kernel
theorem zd_M_chance_15 : decode I_M_chance.2.1 15 = .ok (.iload_n 1, 1) := by decide +kernel
theorem zd_M_chance_16 : decode I_M_chance.2.1 16 = .ok (.iload_n 2, 1) := by decide +kernel
theorem zd_M_chance_17 : decode I_M_chance.2.1 17 = .ok (.invokevirtual 160, 3) := by decide +kernel
theorem zd_M_chance_20 : decode I_M_chance.2.1 20 = .ok (.goto 8, 3) := by decide +kernel
theorem zd_M_chance_23 : decode I_M_chance.2.1 23 = .ok (.aload_n 0, 1) := by decide +kernel
theorem zd_M_chance_24 : decode I_M_chance.2.1 24 = .ok (.iconst (-1), 1) := by decide +kernel
theorem zd_M_chance_25 : decode I_M_chance.2.1 25 = .ok (.invokevirtual 133, 3) := by decide +kernel
theorem zd_M_chance_28 : decode I_M_chance.2.1 28 = .ok (.ireturn, 1) := by decide +kernel
theorem zd_M_chanceOf_0 : decode I_M_chanceOf.2.1 0 = .ok (.iconst 0, 1) := by decide +kernel
theorem zd_M_chanceOf_1 : decode I_M_chanceOf.2.1 1 = .ok (.istore_n 3, 1) := by decide +kernel
theorem zd_M_chanceOf_2 : decode I_M_chanceOf.2.1 2 = .ok (.iload_n 3, 1) := by decide +kernel
theorem zd_M_chanceOf_3 : decode I_M_chanceOf.2.1 3 = .ok (.sipush 1323, 3) := by decide +kernel
theorem zd_M_chanceOf_6 : decode I_M_chanceOf.2.1 6 = .ok (.if_icmp .ge 16, 3) := by decide +kernel
theorem zd_M_chanceOf_9 : decode I_M_chanceOf.2.1 9 = .ok (.aload_n 0, 1) := by decide +kernel
theorem zd_M_chanceOf_10 : decode I_M_chanceOf.2.1 10 = .ok (.getfield 92, 3) := by decide +kernel
theorem zd_M_chanceOf_13 : decode I_M_chanceOf.2.1 13 = .ok (.iload_n 3, 1) := by decide +kernel
theorem zd_M_chanceOf_14 : decode I_M_chanceOf.2.1 14 = .ok (.iconst 0, 1) := by decide +kernel
theorem zd_M_chanceOf_15 : decode I_M_chanceOf.2.1 15 = .ok (.iastore, 1) := by decide +kernel
theorem zd_M_chanceOf_16 : decode I_M_chanceOf.2.1 16 = .ok (.iinc 3 1, 3) := by decide +kernel
theorem zd_M_chanceOf_19 : decode I_M_chanceOf.2.1 19 = .ok (.goto (-17), 3) := by decide +kernel
theorem zd_M_chanceOf_22 : decode I_M_chanceOf.2.1 22 = .ok (.aload_n 0, 1) := by decide +kernel
theorem zd_M_chanceOf_23 : decode I_M_chanceOf.2.1 23 = .ok (.getfield 92, 3) := by decide +kernel
theorem zd_M_chanceOf_26 : decode I_M_chanceOf.2.1 26 = .ok (.iconst 0, 1) := by decide +kernel
theorem zd_M_chanceOf_27 : decode I_M_chanceOf.2.1 27 = .ok (.ldc 153, 2) := by decide +kernel
theorem zd_M_chanceOf_29 : decode I_M_chanceOf.2.1 29 = .ok (.iastore, 1) := by decide +kernel
theorem zd_M_chanceOf_30 : decode I_M_chanceOf.2.1 30 = .ok (.iconst 0, 1) := by decide +kernel
theorem zd_M_chanceOf_31 : decode I_M_chanceOf.2.1 31 = .ok (.istore_n 3, 1) := by decide +kernel
theorem zd_M_chanceOf_32 : decode I_M_chanceOf.2.1 32 = .ok (.iload_n 3, 1) := by decide +kernel
theorem zd_M_chanceOf_33 : decode I_M_chanceOf.2.1 33 = .ok (.aload_n 0, 1) := by decide +kernel
theorem zd_M_chanceOf_34 : decode I_M_chanceOf.2.1 34 = .ok (.getfield 110, 3) := by decide +kernel
theorem zd_M_chanceOf_37 : decode I_M_chanceOf.2.1 37 = .ok (.if_icmp .ge 211, 3) := by decide +kernel
theorem zd_M_chanceOf_40 : decode I_M_chanceOf.2.1 40 = .ok (.aload_n 0, 1) := by decide +kernel
theorem zd_M_chanceOf_41 : decode I_M_chanceOf.2.1 41 = .ok (.getfield 23, 3) := by decide +kernel
theorem zd_M_chanceOf_44 : decode I_M_chanceOf.2.1 44 = .ok (.iload_n 3, 1) := by decide +kernel
theorem zd_M_chanceOf_45 : decode I_M_chanceOf.2.1 45 = .ok (.iaload, 1) := by decide +kernel
theorem zd_M_chanceOf_46 : decode I_M_chanceOf.2.1 46 = .ok (.iload_n 1, 1) := by decide +kernel
theorem zd_M_chanceOf_47 : decode I_M_chanceOf.2.1 47 = .ok (.if_icmp .ne 24, 3) := by decide +kernel
theorem zd_M_chanceOf_50 : decode I_M_chanceOf.2.1 50 = .ok (.aload_n 0, 1) := by decide +kernel
theorem zd_M_chanceOf_51 : decode I_M_chanceOf.2.1 51 = .ok (.getfield 26, 3) := by decide +kernel
theorem zd_M_chanceOf_54 : decode I_M_chanceOf.2.1 54 = .ok (.iload_n 3, 1) := by decide +kernel
theorem zd_M_chanceOf_55 : decode I_M_chanceOf.2.1 55 = .ok (.iaload, 1) := by decide +kernel
theorem zd_M_chanceOf_56 : decode I_M_chanceOf.2.1 56 = .ok (.bipush 7, 2) := by decide +kernel
theorem zd_M_chanceOf_58 : decode I_M_chanceOf.2.1 58 = .ok (.iand, 1) := by decide +kernel
theorem zd_M_chanceOf_59 : decode I_M_chanceOf.2.1 59 = .ok (.ifCond .eq 12, 3) := by decide +kernel
theorem zd_M_chanceOf_62 : decode I_M_chanceOf.2.1 62 = .ok (.aload_n 0, 1) := by decide +kernel
theorem zd_M_chanceOf_63 : decode I_M_chanceOf.2.1 63 = .ok (.iload_n 3, 1) := by decide +kernel
theorem zd_M_chanceOf_64 : decode I_M_chanceOf.2.1 64 = .ok (.iload_n 2, 1) := by decide +kernel
theorem zd_M_chanceOf_65 : decode I_M_chanceOf.2.1 65 = .ok (.invokevirtual 146, 3) := by decide +kernel
theorem zd_M_chanceOf_68 : decode I_M_chanceOf.2.1 68 = .ok (.goto 4, 3) := by decide +kernel
theorem zd_M_chanceOf_71 : decode I_M_chanceOf.2.1 71 = .ok (.iconst 0, 1) := by decide +kernel
theorem zd_M_chanceOf_72 : decode I_M_chanceOf.2.1 72 = .ok (.istore 4, 2) := by decide +kernel
theorem zd_M_chanceOf_74 : decode I_M_chanceOf.2.1 74 = .ok (.iload 4, 2) := by decide +kernel
theorem zd_M_chanceOf_76 : decode I_M_chanceOf.2.1 76 = .ok (.ifCond .ne 6, 3) := by decide +kernel
theorem zd_M_chanceOf_79 : decode I_M_chanceOf.2.1 79 = .ok (.goto 163, 3) := by decide +kernel
theorem zd_M_chanceOf_82 : decode I_M_chanceOf.2.1 82 = .ok (.iconst 0, 1) := by decide +kernel
theorem zd_M_chanceOf_83 : decode I_M_chanceOf.2.1 83 = .ok (.istore 5, 2) := by decide +kernel
theorem zd_M_chanceOf_85 : decode I_M_chanceOf.2.1 85 = .ok (.iload 5, 2) := by decide +kernel
theorem zd_M_chanceOf_87 : decode I_M_chanceOf.2.1 87 = .ok (.sipush 1323, 3) := by decide +kernel
theorem zd_M_chanceOf_90 : decode I_M_chanceOf.2.1 90 = .ok (.if_icmp .ge 17, 3) := by decide +kernel
theorem zd_M_chanceOf_93 : decode I_M_chanceOf.2.1 93 = .ok (.aload_n 0, 1) := by decide +kernel
theorem zd_M_chanceOf_94 : decode I_M_chanceOf.2.1 94 = .ok (.getfield 95, 3) := by decide +kernel
theorem zd_M_chanceOf_97 : decode I_M_chanceOf.2.1 97 = .ok (.iload 5, 2) := by decide +kernel
theorem zd_M_chanceOf_99 : decode I_M_chanceOf.2.1 99 = .ok (.iconst 0, 1) := by decide +kernel
theorem zd_M_chanceOf_100 : decode I_M_chanceOf.2.1 100 = .ok (.iastore, 1) := by decide +kernel
theorem zd_M_chanceOf_101 : decode I_M_chanceOf.2.1 101 = .ok (.iinc 5 1, 3) := by decide +kernel
theorem zd_M_chanceOf_104 : decode I_M_chanceOf.2.1 104 = .ok (.goto (-19), 3) := by decide +kernel
theorem zd_M_chanceOf_107 : decode I_M_chanceOf.2.1 107 = .ok (.iconst 0, 1) := by decide +kernel
theorem zd_M_chanceOf_108 : decode I_M_chanceOf.2.1 108 = .ok (.istore 5, 2) := by decide +kernel
theorem zd_M_chanceOf_110 : decode I_M_chanceOf.2.1 110 = .ok (.iload 5, 2) := by decide +kernel
theorem zd_M_chanceOf_112 : decode I_M_chanceOf.2.1 112 = .ok (.sipush 1323, 3) := by decide +kernel
theorem zd_M_chanceOf_115 : decode I_M_chanceOf.2.1 115 = .ok (.if_icmp .ge 96, 3) := by decide +kernel
theorem zd_M_chanceOf_118 : decode I_M_chanceOf.2.1 118 = .ok (.aload_n 0, 1) := by decide +kernel
theorem zd_M_chanceOf_119 : decode I_M_chanceOf.2.1 119 = .ok (.getfield 92, 3) := by decide +kernel
theorem zd_M_chanceOf_122 : decode I_M_chanceOf.2.1 122 = .ok (.iload 5, 2) := by decide +kernel
theorem zd_M_chanceOf_124 : decode I_M_chanceOf.2.1 124 = .ok (.iaload, 1) := by decide +kernel
theorem zd_M_chanceOf_125 : decode I_M_chanceOf.2.1 125 = .ok (.ifCond .ne 6, 3) := by decide +kernel
theorem zd_M_chanceOf_128 : decode I_M_chanceOf.2.1 128 = .ok (.goto 77, 3) := by decide +kernel
theorem zd_M_chanceOf_131 : decode I_M_chanceOf.2.1 131 = .ok (.aload_n 0, 1) := by decide +kernel
theorem zd_M_chanceOf_132 : decode I_M_chanceOf.2.1 132 = .ok (.getfield 92, 3) := by decide +kernel
theorem zd_M_chanceOf_135 : decode I_M_chanceOf.2.1 135 = .ok (.iload 5, 2) := by decide +kernel
theorem zd_M_chanceOf_137 : decode I_M_chanceOf.2.1 137 = .ok (.iaload, 1) := by decide +kernel
theorem zd_M_chanceOf_138 : decode I_M_chanceOf.2.1 138 = .ok (.iload 4, 2) := by decide +kernel
theorem zd_M_chanceOf_140 : decode I_M_chanceOf.2.1 140 = .ok (.imul, 1) := by decide +kernel
theorem zd_M_chanceOf_141 : decode I_M_chanceOf.2.1 141 = .ok (.sipush 1024, 3) := by decide +kernel
theorem zd_M_chanceOf_144 : decode I_M_chanceOf.2.1 144 = .ok (.idiv, 1) := by decide +kernel
theorem zd_M_chanceOf_145 : decode I_M_chanceOf.2.1 145 = .ok (.istore 6, 2) := by decide +kernel
theorem zd_M_chanceOf_147 : decode I_M_chanceOf.2.1 147 = .ok (.iload 4, 2) := by decide +kernel
theorem zd_M_chanceOf_149 : decode I_M_chanceOf.2.1 149 = .ok (.sipush 1024, 3) := by decide +kernel
theorem zd_M_chanceOf_152 : decode I_M_chanceOf.2.1 152 = .ok (.if_icmp .ne 12, 3) := by decide +kernel
theorem zd_M_chanceOf_155 : decode I_M_chanceOf.2.1 155 = .ok (.aload_n 0, 1) := by decide +kernel
theorem zd_M_chanceOf_156 : decode I_M_chanceOf.2.1 156 = .ok (.getfield 92, 3) := by decide +kernel
theorem zd_M_chanceOf_159 : decode I_M_chanceOf.2.1 159 = .ok (.iload 5, 2) := by decide +kernel
theorem zd_M_chanceOf_161 : decode I_M_chanceOf.2.1 161 = .ok (.iaload, 1) := by decide +kernel
theorem zd_M_chanceOf_162 : decode I_M_chanceOf.2.1 162 = .ok (.istore 6, 2) := by decide +kernel
theorem zd_M_chanceOf_164 : decode I_M_chanceOf.2.1 164 = .ok (.aload_n 0, 1) := by decide +kernel
theorem zd_M_chanceOf_165 : decode I_M_chanceOf.2.1 165 = .ok (.getfield 95, 3) := by decide +kernel
theorem zd_M_chanceOf_168 : decode I_M_chanceOf.2.1 168 = .ok (.iload 5, 2) := by decide +kernel
theorem zd_M_chanceOf_170 : decode I_M_chanceOf.2.1 170 = .ok (.aload_n 0, 1) := by decide +kernel
theorem zd_M_chanceOf_171 : decode I_M_chanceOf.2.1 171 = .ok (.getfield 26, 3) := by decide +kernel
theorem zd_M_chanceOf_174 : decode I_M_chanceOf.2.1 174 = .ok (.iload_n 3, 1) := by decide +kernel
theorem zd_M_chanceOf_175 : decode I_M_chanceOf.2.1 175 = .ok (.iaload, 1) := by decide +kernel
theorem zd_M_chanceOf_176 : decode I_M_chanceOf.2.1 176 = .ok (.invokestatic 154, 3) := by decide +kernel
theorem zd_M_chanceOf_179 : decode I_M_chanceOf.2.1 179 = .ok (.dup2, 1) := by decide +kernel
theorem zd_M_chanceOf_180 : decode I_M_chanceOf.2.1 180 = .ok (.iaload, 1) := by decide +kernel
theorem zd_M_chanceOf_181 : decode I_M_chanceOf.2.1 181 = .ok (.iload 6, 2) := by decide +kernel
theorem zd_M_chanceOf_183 : decode I_M_chanceOf.2.1 183 = .ok (.iadd, 1) := by decide +kernel
theorem zd_M_chanceOf_184 : decode I_M_chanceOf.2.1 184 = .ok (.iastore, 1) := by decide +kernel
theorem zd_M_chanceOf_185 : decode I_M_chanceOf.2.1 185 = .ok (.aload_n 0, 1) := by decide +kernel
theorem zd_M_chanceOf_186 : decode I_M_chanceOf.2.1 186 = .ok (.getfield 95, 3) := by decide +kernel
theorem zd_M_chanceOf_189 : decode I_M_chanceOf.2.1 189 = .ok (.iload 5, 2) := by decide +kernel
theorem zd_M_chanceOf_191 : decode I_M_chanceOf.2.1 191 = .ok (.dup2, 1) := by decide +kernel
theorem zd_M_chanceOf_192 : decode I_M_chanceOf.2.1 192 = .ok (.iaload, 1) := by decide +kernel
theorem zd_M_chanceOf_193 : decode I_M_chanceOf.2.1 193 = .ok (.aload_n 0, 1) := by decide +kernel
theorem zd_M_chanceOf_194 : decode I_M_chanceOf.2.1 194 = .ok (.getfield 92, 3) := by decide +kernel
theorem zd_M_chanceOf_197 : decode I_M_chanceOf.2.1 197 = .ok (.iload 5, 2) := by decide +kernel
theorem zd_M_chanceOf_199 : decode I_M_chanceOf.2.1 199 = .ok (.iaload, 1) := by decide +kernel
theorem zd_M_chanceOf_200 : decode I_M_chanceOf.2.1 200 = .ok (.iload 6, 2) := by decide +kernel
theorem zd_M_chanceOf_202 : decode I_M_chanceOf.2.1 202 = .ok (.isub, 1) := by decide +kernel
theorem zd_M_chanceOf_203 : decode I_M_chanceOf.2.1 203 = .ok (.iadd, 1) := by decide +kernel
theorem zd_M_chanceOf_204 : decode I_M_chanceOf.2.1 204 = .ok (.iastore, 1) := by decide +kernel
theorem zd_M_chanceOf_205 : decode I_M_chanceOf.2.1 205 = .ok (.iinc 5 1, 3) := by decide +kernel
theorem zd_M_chanceOf_208 : decode I_M_chanceOf.2.1 208 = .ok (.goto (-98), 3) := by decide +kernel
theorem zd_M_chanceOf_211 : decode I_M_chanceOf.2.1 211 = .ok (.iconst 0, 1) := by decide +kernel
theorem zd_M_chanceOf_212 : decode I_M_chanceOf.2.1 212 = .ok (.istore 5, 2) := by decide +kernel
theorem zd_M_chanceOf_214 : decode I_M_chanceOf.2.1 214 = .ok (.iload 5, 2) := by decide +kernel
theorem zd_M_chanceOf_216 : decode I_M_chanceOf.2.1 216 = .ok (.sipush 1323, 3) := by decide +kernel
theorem zd_M_chanceOf_219 : decode I_M_chanceOf.2.1 219 = .ok (.if_icmp .ge 23, 3) := by decide +kernel
theorem zd_M_chanceOf_222 : decode I_M_chanceOf.2.1 222 = .ok (.aload_n 0, 1) := by decide +kernel
theorem zd_M_chanceOf_223 : decode I_M_chanceOf.2.1 223 = .ok (.getfield 92, 3) := by decide +kernel
theorem zd_M_chanceOf_226 : decode I_M_chanceOf.2.1 226 = .ok (.iload 5, 2) := by decide +kernel
theorem zd_M_chanceOf_228 : decode I_M_chanceOf.2.1 228 = .ok (.aload_n 0, 1) := by decide +kernel
theorem zd_M_chanceOf_229 : decode I_M_chanceOf.2.1 229 = .ok (.getfield 95, 3) := by decide +kernel
theorem zd_M_chanceOf_232 : decode I_M_chanceOf.2.1 232 = .ok (.iload 5, 2) := by decide +kernel
theorem zd_M_chanceOf_234 : decode I_M_chanceOf.2.1 234 = .ok (.iaload, 1) := by decide +kernel
theorem zd_M_chanceOf_235 : decode I_M_chanceOf.2.1 235 = .ok (.iastore, 1) := by decide +kernel
theorem zd_M_chanceOf_236 : decode I_M_chanceOf.2.1 236 = .ok (.iinc 5 1, 3) := by decide +kernel
theorem zd_M_chanceOf_239 : decode I_M_chanceOf.2.1 239 = .ok (.goto (-25), 3) := by decide +kernel
theorem zd_M_chanceOf_242 : decode I_M_chanceOf.2.1 242 = .ok (.iinc 3 1, 3) := by decide +kernel
theorem zd_M_chanceOf_245 : decode I_M_chanceOf.2.1 245 = .ok (.goto (-213), 3) := by decide +kernel
theorem zd_M_chanceOf_248 : decode I_M_chanceOf.2.1 248 = .ok (.iconst 0, 1) := by decide +kernel
theorem zd_M_chanceOf_249 : decode I_M_chanceOf.2.1 249 = .ok (.istore_n 3, 1) := by decide +kernel
theorem zd_M_chanceOf_250 : decode I_M_chanceOf.2.1 250 = .ok (.iconst 0, 1) := by decide +kernel
theorem zd_M_chanceOf_251 : decode I_M_chanceOf.2.1 251 = .ok (.istore 4, 2) := by decide +kernel
theorem zd_M_chanceOf_253 : decode I_M_chanceOf.2.1 253 = .ok (.iload 4, 2) := by decide +kernel
theorem zd_M_chanceOf_255 : decode I_M_chanceOf.2.1 255 = .ok (.sipush 1323, 3) := by decide +kernel
theorem zd_M_chanceOf_258 : decode I_M_chanceOf.2.1 258 = .ok (.if_icmp .ge 28, 3) := by decide +kernel
theorem zd_M_chanceOf_261 : decode I_M_chanceOf.2.1 261 = .ok (.aload_n 0, 1) := by decide +kernel
theorem zd_M_chanceOf_262 : decode I_M_chanceOf.2.1 262 = .ok (.iload 4, 2) := by decide +kernel
theorem zd_M_chanceOf_264 : decode I_M_chanceOf.2.1 264 = .ok (.invokevirtual 157, 3) := by decide +kernel
theorem zd_M_chanceOf_267 : decode I_M_chanceOf.2.1 267 = .ok (.ifCond .eq 13, 3) := by decide +kernel
theorem zd_M_chanceOf_270 : decode I_M_chanceOf.2.1 270 = .ok (.iload_n 3, 1) := by decide +kernel
theorem zd_M_chanceOf_271 : decode I_M_chanceOf.2.1 271 = .ok (.aload_n 0, 1) := by decide +kernel
theorem zd_M_chanceOf_272 : decode I_M_chanceOf.2.1 272 = .ok (.getfield 92, 3) := by decide +kernel
theorem zd_M_chanceOf_275 : decode I_M_chanceOf.2.1 275 = .ok (.iload 4, 2) := by decide +kernel
theorem zd_M_chanceOf_277 : decode I_M_chanceOf.2.1 277 = .ok (.iaload, 1) := by decide +kernel
theorem zd_M_chanceOf_278 : decode I_M_chanceOf.2.1 278 = .ok (.iadd, 1) := by decide +kernel
theorem zd_M_chanceOf_279 : decode I_M_chanceOf.2.1 279 = .ok (.istore_n 3, 1) := by decide +kernel
theorem zd_M_chanceOf_280 : decode I_M_chanceOf.2.1 280 = .ok (.iinc 4 1, 3) := by decide +kernel
theorem zd_M_chanceOf_283 : decode I_M_chanceOf.2.1 283 = .ok (.goto (-30), 3) := by decide +kernel
theorem zd_M_chanceOf_286 : decode I_M_chanceOf.2.1 286 = .ok (.iload_n 3, 1) := by decide +kernel
theorem zd_M_chanceOf_287 : decode I_M_chanceOf.2.1 287 = .ok (.ireturn, 1) := by decide +kernel
theorem zd_M_comes_0 : decode I_M_comes.2.1 0 = .ok (.iload_n 0, 1) := by decide +kernel
theorem zd_M_comes_1 : decode I_M_comes.2.1 1 = .ok (.iconst 3, 1) := by decide +kernel
theorem zd_M_comes_2 : decode I_M_comes.2.1 2 = .ok (.irem, 1) := by decide +kernel
theorem zd_M_comes_3 : decode I_M_comes.2.1 3 = .ok (.istore_n 2, 1) := by decide +kernel
theorem zd_M_comes_4 : decode I_M_comes.2.1 4 = .ok (.iload_n 0, 1) := by decide +kernel
theorem zd_M_comes_5 : decode I_M_comes.2.1 5 = .ok (.iconst 3, 1) := by decide +kernel
theorem zd_M_comes_6 : decode I_M_comes.2.1 6 = .ok (.idiv, 1) := by decide +kernel
theorem zd_M_comes_7 : decode I_M_comes.2.1 7 = .ok (.iconst 3, 1) := by decide +kernel
theorem zd_M_comes_8 : decode I_M_comes.2.1 8 = .ok (.irem, 1) := by decide +kernel
theorem zd_M_comes_9 : decode I_M_comes.2.1 9 = .ok (.istore_n 3, 1) := by decide +kernel
theorem zd_M_comes_10 : decode I_M_comes.2.1 10 = .ok (.iload_n 0, 1) := by decide +kernel
theorem zd_M_comes_11 : decode I_M_comes.2.1 11 = .ok (.bipush 9, 2) := by decide +kernel
theorem zd_M_comes_13 : decode I_M_comes.2.1 13 = .ok (.idiv, 1) := by decide +kernel
theorem zd_M_comes_14 : decode I_M_comes.2.1 14 = .ok (.iconst 3, 1) := by decide +kernel
theorem zd_M_comes_15 : decode I_M_comes.2.1 15 = .ok (.irem, 1) := by decide +kernel
theorem zd_M_comes_16 : decode I_M_comes.2.1 16 = .ok (.istore 4, 2) := by decide +kernel
theorem zd_M_comes_18 : decode I_M_comes.2.1 18 = .ok (.iload_n 0, 1) := by decide +kernel
theorem zd_M_comes_19 : decode I_M_comes.2.1 19 = .ok (.bipush 27, 2) := by decide +kernel
theorem zd_M_comes_21 : decode I_M_comes.2.1 21 = .ok (.idiv, 1) := by decide +kernel
theorem zd_M_comes_22 : decode I_M_comes.2.1 22 = .ok (.bipush 7, 2) := by decide +kernel
theorem zd_M_comes_24 : decode I_M_comes.2.1 24 = .ok (.irem, 1) := by decide +kernel
theorem zd_M_comes_25 : decode I_M_comes.2.1 25 = .ok (.istore 5, 2) := by decide +kernel
theorem zd_M_comes_27 : decode I_M_comes.2.1 27 = .ok (.iload_n 0, 1) := by decide +kernel
theorem zd_M_comes_28 : decode I_M_comes.2.1 28 = .ok (.sipush 189, 3) := by decide +kernel
theorem zd_M_comes_31 : decode I_M_comes.2.1 31 = .ok (.idiv, 1) := by decide +kernel
theorem zd_M_comes_32 : decode I_M_comes.2.1 32 = .ok (.istore 6, 2) := by decide +kernel
theorem zd_M_comes_34 : decode I_M_comes.2.1 34 = .ok (.iload_n 1, 1) := by decide +kernel
theorem zd_M_comes_35 : decode I_M_comes.2.1 35 = .ok (.bipush 8, 2) := by decide +kernel
theorem zd_M_comes_37 : decode I_M_comes.2.1 37 = .ok (.iand, 1) := by decide +kernel
theorem zd_M_comes_38 : decode I_M_comes.2.1 38 = .ok (.ifCond .eq 15, 3) := by decide +kernel
theorem zd_M_comes_41 : decode I_M_comes.2.1 41 = .ok (.iload 5, 2) := by decide +kernel
theorem zd_M_comes_43 : decode I_M_comes.2.1 43 = .ok (.bipush 6, 2) := by decide +kernel
theorem zd_M_comes_45 : decode I_M_comes.2.1 45 = .ok (.invokestatic 150, 3) := by decide +kernel
theorem zd_M_comes_48 : decode I_M_comes.2.1 48 = .ok (.istore 5, 2) := by decide +kernel
theorem zd_M_comes_50 : decode I_M_comes.2.1 50 = .ok (.goto 59, 3) := by decide +kernel
theorem zd_M_comes_53 : decode I_M_comes.2.1 53 = .ok (.iload 6, 2) := by decide +kernel
theorem zd_M_comes_55 : decode I_M_comes.2.1 55 = .ok (.bipush 6, 2) := by decide +kernel
theorem zd_M_comes_57 : decode I_M_comes.2.1 57 = .ok (.invokestatic 150, 3) := by decide +kernel
theorem zd_M_comes_60 : decode I_M_comes.2.1 60 = .ok (.istore 6, 2) := by decide +kernel
theorem zd_M_comes_62 : decode I_M_comes.2.1 62 = .ok (.iload_n 1, 1) := by decide +kernel
theorem zd_M_comes_63 : decode I_M_comes.2.1 63 = .ok (.iconst 3, 1) := by decide +kernel
theorem zd_M_comes_64 : decode I_M_comes.2.1 64 = .ok (.iand, 1) := by decide +kernel
theorem zd_M_comes_65 : decode I_M_comes.2.1 65 = .ok (.iconst 3, 1) := by decide +kernel
theorem zd_M_comes_66 : decode I_M_comes.2.1 66 = .ok (.if_icmp .ne 12, 3) := by decide +kernel
theorem zd_M_comes_69 : decode I_M_comes.2.1 69 = .ok (.iload_n 2, 1) := by decide +kernel
theorem zd_M_comes_70 : decode I_M_comes.2.1 70 = .ok (.iconst 2, 1) := by decide +kernel
theorem zd_M_comes_71 : decode I_M_comes.2.1 71 = .ok (.invokestatic 150, 3) := by decide +kernel
theorem zd_M_comes_74 : decode I_M_comes.2.1 74 = .ok (.istore_n 2, 1) := by decide +kernel
theorem zd_M_comes_75 : decode I_M_comes.2.1 75 = .ok (.goto 34, 3) := by decide +kernel
theorem zd_M_comes_78 : decode I_M_comes.2.1 78 = .ok (.iload_n 1, 1) := by decide +kernel
theorem zd_M_comes_79 : decode I_M_comes.2.1 79 = .ok (.iconst 3, 1) := by decide +kernel
theorem zd_M_comes_80 : decode I_M_comes.2.1 80 = .ok (.iand, 1) := by decide +kernel
theorem zd_M_comes_81 : decode I_M_comes.2.1 81 = .ok (.iconst 2, 1) := by decide +kernel
theorem zd_M_comes_82 : decode I_M_comes.2.1 82 = .ok (.if_icmp .ne 12, 3) := by decide +kernel
theorem zd_M_comes_85 : decode I_M_comes.2.1 85 = .ok (.iload_n 3, 1) := by decide +kernel
theorem zd_M_comes_86 : decode I_M_comes.2.1 86 = .ok (.iconst 2, 1) := by decide +kernel
theorem zd_M_comes_87 : decode I_M_comes.2.1 87 = .ok (.invokestatic 150, 3) := by decide +kernel
theorem zd_M_comes_90 : decode I_M_comes.2.1 90 = .ok (.istore_n 3, 1) := by decide +kernel
theorem zd_M_comes_91 : decode I_M_comes.2.1 91 = .ok (.goto 18, 3) := by decide +kernel
theorem zd_M_comes_94 : decode I_M_comes.2.1 94 = .ok (.iload_n 1, 1) := by decide +kernel
theorem zd_M_comes_95 : decode I_M_comes.2.1 95 = .ok (.iconst 3, 1) := by decide +kernel
theorem zd_M_comes_96 : decode I_M_comes.2.1 96 = .ok (.iand, 1) := by decide +kernel
theorem zd_M_comes_97 : decode I_M_comes.2.1 97 = .ok (.iconst 1, 1) := by decide +kernel
theorem zd_M_comes_98 : decode I_M_comes.2.1 98 = .ok (.if_icmp .ne 11, 3) := by decide +kernel
theorem zd_M_comes_101 : decode I_M_comes.2.1 101 = .ok (.iload 4, 2) := by decide +kernel
theorem zd_M_comes_103 : decode I_M_comes.2.1 103 = .ok (.iconst 2, 1) := by decide +kernel
theorem zd_M_comes_104 : decode I_M_comes.2.1 104 = .ok (.invokestatic 150, 3) := by decide +kernel
theorem zd_M_comes_107 : decode I_M_comes.2.1 107 = .ok (.istore 4, 2) := by decide +kernel
theorem zd_M_comes_109 : decode I_M_comes.2.1 109 = .ok (.iload 6, 2) := by decide +kernel
theorem zd_M_comes_111 : decode I_M_comes.2.1 111 = .ok (.bipush 7, 2) := by decide +kernel
theorem zd_M_comes_113 : decode I_M_comes.2.1 113 = .ok (.imul, 1) := by decide +kernel
theorem zd_M_comes_114 : decode I_M_comes.2.1 114 = .ok (.iload 5, 2) := by decide +kernel
theorem zd_M_comes_116 : decode I_M_comes.2.1 116 = .ok (.iadd, 1) := by decide +kernel
theorem zd_M_comes_117 : decode I_M_comes.2.1 117 = .ok (.iconst 3, 1) := by decide +kernel
theorem zd_M_comes_118 : decode I_M_comes.2.1 118 = .ok (.imul, 1) := by decide +kernel
theorem zd_M_comes_119 : decode I_M_comes.2.1 119 = .ok (.iload 4, 2) := by decide +kernel
theorem zd_M_comes_121 : decode I_M_comes.2.1 121 = .ok (.iadd, 1) := by decide +kernel
theorem zd_M_comes_122 : decode I_M_comes.2.1 122 = .ok (.bipush 9, 2) := by decide +kernel
theorem zd_M_comes_124 : decode I_M_comes.2.1 124 = .ok (.imul, 1) := by decide +kernel
theorem zd_M_comes_125 : decode I_M_comes.2.1 125 = .ok (.iload_n 3, 1) := by decide +kernel
theorem zd_M_comes_126 : decode I_M_comes.2.1 126 = .ok (.iconst 3, 1) := by decide +kernel
theorem zd_M_comes_127 : decode I_M_comes.2.1 127 = .ok (.imul, 1) := by decide +kernel
theorem zd_M_comes_128 : decode I_M_comes.2.1 128 = .ok (.iadd, 1) := by decide +kernel
theorem zd_M_comes_129 : decode I_M_comes.2.1 129 = .ok (.iload_n 2, 1) := by decide +kernel
theorem zd_M_comes_130 : decode I_M_comes.2.1 130 = .ok (.iadd, 1) := by decide +kernel
theorem zd_M_comes_131 : decode I_M_comes.2.1 131 = .ok (.ireturn, 1) := by decide +kernel
theorem zd_M_more_0 : decode I_M_more.2.1 0 = .ok (.iload_n 0, 1) := by decide +kernel
theorem zd_M_more_1 : decode I_M_more.2.1 1 = .ok (.iload_n 1, 1) := by decide +kernel
theorem zd_M_more_2 : decode I_M_more.2.1 2 = .ok (.if_icmp .ge 9, 3) := by decide +kernel
theorem zd_M_more_5 : decode I_M_more.2.1 5 = .ok (.iload_n 0, 1) := by decide +kernel
theorem zd_M_more_6 : decode I_M_more.2.1 6 = .ok (.iconst 1, 1) := by decide +kernel
theorem zd_M_more_7 : decode I_M_more.2.1 7 = .ok (.iadd, 1) := by decide +kernel
theorem zd_M_more_8 : decode I_M_more.2.1 8 = .ok (.goto 4, 3) := by decide +kernel
theorem zd_M_more_11 : decode I_M_more.2.1 11 = .ok (.iload_n 1, 1) := by decide +kernel
theorem zd_M_more_12 : decode I_M_more.2.1 12 = .ok (.ireturn, 1) := by decide +kernel
theorem zd_M_stands_0 : decode I_M_stands.2.1 0 = .ok (.iload_n 1, 1) := by decide +kernel
theorem zd_M_stands_1 : decode I_M_stands.2.1 1 = .ok (.iconst 3, 1) := by decide +kernel
theorem zd_M_stands_2 : decode I_M_stands.2.1 2 = .ok (.irem, 1) := by decide +kernel
theorem zd_M_stands_3 : decode I_M_stands.2.1 3 = .ok (.istore_n 2, 1) := by decide +kernel
theorem zd_M_stands_4 : decode I_M_stands.2.1 4 = .ok (.iload_n 1, 1) := by decide +kernel
theorem zd_M_stands_5 : decode I_M_stands.2.1 5 = .ok (.iconst 3, 1) := by decide +kernel
theorem zd_M_stands_6 : decode I_M_stands.2.1 6 = .ok (.idiv, 1) := by decide +kernel
theorem zd_M_stands_7 : decode I_M_stands.2.1 7 = .ok (.iconst 3, 1) := by decide +kernel
theorem zd_M_stands_8 : decode I_M_stands.2.1 8 = .ok (.irem, 1) := by decide +kernel
theorem zd_M_stands_9 : decode I_M_stands.2.1 9 = .ok (.istore_n 3, 1) := by decide +kernel
theorem zd_M_stands_10 : decode I_M_stands.2.1 10 = .ok (.iload_n 1, 1) := by decide +kernel
theorem zd_M_stands_11 : decode I_M_stands.2.1 11 = .ok (.bipush 9, 2) := by decide +kernel
theorem zd_M_stands_13 : decode I_M_stands.2.1 13 = .ok (.idiv, 1) := by decide +kernel
theorem zd_M_stands_14 : decode I_M_stands.2.1 14 = .ok (.iconst 3, 1) := by decide +kernel
theorem zd_M_stands_15 : decode I_M_stands.2.1 15 = .ok (.irem, 1) := by decide +kernel
theorem zd_M_stands_16 : decode I_M_stands.2.1 16 = .ok (.istore 4, 2) := by decide +kernel
theorem zd_M_stands_18 : decode I_M_stands.2.1 18 = .ok (.iload_n 1, 1) := by decide +kernel
theorem zd_M_stands_19 : decode I_M_stands.2.1 19 = .ok (.bipush 27, 2) := by decide +kernel
theorem zd_M_stands_21 : decode I_M_stands.2.1 21 = .ok (.idiv, 1) := by decide +kernel
theorem zd_M_stands_22 : decode I_M_stands.2.1 22 = .ok (.bipush 7, 2) := by decide +kernel
theorem zd_M_stands_24 : decode I_M_stands.2.1 24 = .ok (.irem, 1) := by decide +kernel
theorem zd_M_stands_25 : decode I_M_stands.2.1 25 = .ok (.istore 5, 2) := by decide +kernel
theorem zd_M_stands_27 : decode I_M_stands.2.1 27 = .ok (.iload_n 1, 1) := by decide +kernel
theorem zd_M_stands_28 : decode I_M_stands.2.1 28 = .ok (.sipush 189, 3) := by decide +kernel
theorem zd_M_stands_31 : decode I_M_stands.2.1 31 = .ok (.idiv, 1) := by decide +kernel
theorem zd_M_stands_32 : decode I_M_stands.2.1 32 = .ok (.istore 6, 2) := by decide +kernel
theorem zd_M_stands_34 : decode I_M_stands.2.1 34 = .ok (.iload 6, 2) := by decide +kernel
theorem zd_M_stands_36 : decode I_M_stands.2.1 36 = .ok (.iload 6, 2) := by decide +kernel
theorem zd_M_stands_38 : decode I_M_stands.2.1 38 = .ok (.iconst 1, 1) := by decide +kernel
theorem zd_M_stands_39 : decode I_M_stands.2.1 39 = .ok (.if_icmp .le 8, 3) := by decide +kernel
theorem zd_M_stands_42 : decode I_M_stands.2.1 42 = .ok (.iload 5, 2) := by decide +kernel
theorem zd_M_stands_44 : decode I_M_stands.2.1 44 = .ok (.goto 4, 3) := by decide +kernel
theorem zd_M_stands_47 : decode I_M_stands.2.1 47 = .ok (.iconst 0, 1) := by decide +kernel
theorem zd_M_stands_48 : decode I_M_stands.2.1 48 = .ok (.iadd, 1) := by decide +kernel
theorem zd_M_stands_49 : decode I_M_stands.2.1 49 = .ok (.istore 7, 2) := by decide +kernel
theorem zd_M_stands_51 : decode I_M_stands.2.1 51 = .ok (.iload 7, 2) := by decide +kernel
theorem zd_M_stands_53 : decode I_M_stands.2.1 53 = .ok (.aload_n 0, 1) := by decide +kernel
theorem zd_M_stands_54 : decode I_M_stands.2.1 54 = .ok (.getfield 7, 3) := by decide +kernel
theorem zd_M_stands_57 : decode I_M_stands.2.1 57 = .ok (.if_icmp .lt 30, 3) := by decide +kernel
theorem zd_M_stands_60 : decode I_M_stands.2.1 60 = .ok (.iload 4, 2) := by decide +kernel
theorem zd_M_stands_62 : decode I_M_stands.2.1 62 = .ok (.iload_n 2, 1) := by decide +kernel
theorem zd_M_stands_63 : decode I_M_stands.2.1 63 = .ok (.iadd, 1) := by decide +kernel
theorem zd_M_stands_64 : decode I_M_stands.2.1 64 = .ok (.ifCond .le 23, 3) := by decide +kernel
theorem zd_M_stands_67 : decode I_M_stands.2.1 67 = .ok (.iload_n 3, 1) := by decide +kernel
theorem zd_M_stands_68 : decode I_M_stands.2.1 68 = .ok (.iload_n 2, 1) := by decide +kernel
theorem zd_M_stands_69 : decode I_M_stands.2.1 69 = .ok (.iadd, 1) := by decide +kernel
theorem zd_M_stands_70 : decode I_M_stands.2.1 70 = .ok (.ifCond .le 17, 3) := by decide +kernel
theorem zd_M_stands_73 : decode I_M_stands.2.1 73 = .ok (.iload 4, 2) := by decide +kernel
theorem zd_M_stands_75 : decode I_M_stands.2.1 75 = .ok (.iload_n 3, 1) := by decide +kernel
theorem zd_M_stands_76 : decode I_M_stands.2.1 76 = .ok (.iadd, 1) := by decide +kernel
theorem zd_M_stands_77 : decode I_M_stands.2.1 77 = .ok (.iload_n 2, 1) := by decide +kernel
theorem zd_M_stands_78 : decode I_M_stands.2.1 78 = .ok (.iadd, 1) := by decide +kernel
theorem zd_M_stands_79 : decode I_M_stands.2.1 79 = .ok (.iconst 1, 1) := by decide +kernel
theorem zd_M_stands_80 : decode I_M_stands.2.1 80 = .ok (.if_icmp .le 7, 3) := by decide +kernel
theorem zd_M_stands_83 : decode I_M_stands.2.1 83 = .ok (.iconst 1, 1) := by decide +kernel
theorem zd_M_stands_84 : decode I_M_stands.2.1 84 = .ok (.goto 4, 3) := by decide +kernel
theorem zd_M_stands_87 : decode I_M_stands.2.1 87 = .ok (.iconst 0, 1) := by decide +kernel
theorem zd_M_stands_88 : decode I_M_stands.2.1 88 = .ok (.ireturn, 1) := by decide +kernel
theorem zd_M_weak_0 : decode I_M_weak.2.1 0 = .ok (.iload_n 1, 1) := by decide +kernel
theorem zd_M_weak_1 : decode I_M_weak.2.1 1 = .ok (.invokestatic 129, 3) := by decide +kernel
theorem zd_M_weak_4 : decode I_M_weak.2.1 4 = .ok (.ifCond .ne 9, 3) := by decide +kernel
theorem zd_M_weak_7 : decode I_M_weak.2.1 7 = .ok (.aload_n 0, 1) := by decide +kernel
theorem zd_M_weak_8 : decode I_M_weak.2.1 8 = .ok (.iconst (-1), 1) := by decide +kernel
theorem zd_M_weak_9 : decode I_M_weak.2.1 9 = .ok (.invokevirtual 133, 3) := by decide +kernel
theorem zd_M_weak_12 : decode I_M_weak.2.1 12 = .ok (.ireturn, 1) := by decide +kernel
theorem zd_M_weak_13 : decode I_M_weak.2.1 13 = .ok (.iload_n 2, 1) := by decide +kernel
theorem zd_M_weak_14 : decode I_M_weak.2.1 14 = .ok (.ifCond .ge 10, 3) := by decide +kernel
theorem zd_M_weak_17 : decode I_M_weak.2.1 17 = .ok (.aload_n 0, 1) := by decide +kernel
theorem zd_M_weak_18 : decode I_M_weak.2.1 18 = .ok (.bipush (-4), 2) := by decide +kernel
theorem zd_M_weak_20 : decode I_M_weak.2.1 20 = .ok (.invokevirtual 133, 3) := by decide +kernel
theorem zd_M_weak_23 : decode I_M_weak.2.1 23 = .ok (.ireturn, 1) := by decide +kernel
theorem zd_M_weak_24 : decode I_M_weak.2.1 24 = .ok (.iload_n 2, 1) := by decide +kernel
theorem zd_M_weak_25 : decode I_M_weak.2.1 25 = .ok (.bipush 100, 2) := by decide +kernel
theorem zd_M_weak_27 : decode I_M_weak.2.1 27 = .ok (.if_icmp .le 10, 3) := by decide +kernel
theorem zd_M_weak_30 : decode I_M_weak.2.1 30 = .ok (.aload_n 0, 1) := by decide +kernel
theorem zd_M_weak_31 : decode I_M_weak.2.1 31 = .ok (.bipush (-6), 2) := by decide +kernel
theorem zd_M_weak_33 : decode I_M_weak.2.1 33 = .ok (.invokevirtual 133, 3) := by decide +kernel
theorem zd_M_weak_36 : decode I_M_weak.2.1 36 = .ok (.ireturn, 1) := by decide +kernel
theorem zd_M_weak_37 : decode I_M_weak.2.1 37 = .ok (.iconst 0, 1) := by decide +kernel
theorem zd_M_weak_38 : decode I_M_weak.2.1 38 = .ok (.istore_n 3, 1) := by decide +kernel
theorem zd_M_weak_39 : decode I_M_weak.2.1 39 = .ok (.iconst 0, 1) := by decide +kernel
theorem zd_M_weak_40 : decode I_M_weak.2.1 40 = .ok (.istore 4, 2) := by decide +kernel
theorem zd_M_weak_42 : decode I_M_weak.2.1 42 = .ok (.iload 4, 2) := by decide +kernel
theorem zd_M_weak_44 : decode I_M_weak.2.1 44 = .ok (.bipush 8, 2) := by decide +kernel
theorem zd_M_weak_46 : decode I_M_weak.2.1 46 = .ok (.if_icmp .ge 29, 3) := by decide +kernel
theorem zd_M_weak_49 : decode I_M_weak.2.1 49 = .ok (.aload_n 0, 1) := by decide +kernel
theorem zd_M_weak_50 : decode I_M_weak.2.1 50 = .ok (.iload_n 1, 1) := by decide +kernel
theorem zd_M_weak_51 : decode I_M_weak.2.1 51 = .ok (.iload 4, 2) := by decide +kernel
theorem zd_M_weak_53 : decode I_M_weak.2.1 53 = .ok (.invokevirtual 160, 3) := by decide +kernel
theorem zd_M_weak_56 : decode I_M_weak.2.1 56 = .ok (.ldc 153, 2) := by decide +kernel
theorem zd_M_weak_58 : decode I_M_weak.2.1 58 = .ok (.iload_n 2, 1) := by decide +kernel
theorem zd_M_weak_59 : decode I_M_weak.2.1 59 = .ok (.imul, 1) := by decide +kernel
theorem zd_M_weak_60 : decode I_M_weak.2.1 60 = .ok (.bipush 100, 2) := by decide +kernel
theorem zd_M_weak_62 : decode I_M_weak.2.1 62 = .ok (.idiv, 1) := by decide +kernel
theorem zd_M_weak_63 : decode I_M_weak.2.1 63 = .ok (.if_icmp .ge 6, 3) := by decide +kernel
theorem zd_M_weak_66 : decode I_M_weak.2.1 66 = .ok (.iinc 3 1, 3) := by decide +kernel
theorem zd_M_weak_69 : decode I_M_weak.2.1 69 = .ok (.iinc 4 1, 3) := by decide +kernel
theorem zd_M_weak_72 : decode I_M_weak.2.1 72 = .ok (.goto (-30), 3) := by decide +kernel
theorem zd_M_weak_75 : decode I_M_weak.2.1 75 = .ok (.iload_n 3, 1) := by decide +kernel
theorem zd_M_weak_76 : decode I_M_weak.2.1 76 = .ok (.ireturn, 1) := by decide +kernel
theorem zd_M_tide_0 : decode I_M_tide.2.1 0 = .ok (.iload_n 1, 1) := by decide +kernel
theorem zd_M_tide_1 : decode I_M_tide.2.1 1 = .ok (.ifCond .lt 9, 3) := by decide +kernel
theorem zd_M_tide_4 : decode I_M_tide.2.1 4 = .ok (.iload_n 1, 1) := by decide +kernel
theorem zd_M_tide_5 : decode I_M_tide.2.1 5 = .ok (.bipush 24, 2) := by decide +kernel
theorem zd_M_tide_7 : decode I_M_tide.2.1 7 = .ok (.if_icmp .le 9, 3) := by decide +kernel
theorem zd_M_tide_10 : decode I_M_tide.2.1 10 = .ok (.aload_n 0, 1) := by decide +kernel
theorem zd_M_tide_11 : decode I_M_tide.2.1 11 = .ok (.iconst (-1), 1) := by decide +kernel
theorem zd_M_tide_12 : decode I_M_tide.2.1 12 = .ok (.invokevirtual 133, 3) := by decide +kernel
theorem zd_M_tide_15 : decode I_M_tide.2.1 15 = .ok (.ireturn, 1) := by decide +kernel
theorem zd_M_tide_16 : decode I_M_tide.2.1 16 = .ok (.iload_n 2, 1) := by decide +kernel
theorem zd_M_tide_17 : decode I_M_tide.2.1 17 = .ok (.iconst (-1), 1) := by decide +kernel
theorem zd_M_tide_18 : decode I_M_tide.2.1 18 = .ok (.if_icmp .ge 10, 3) := by decide +kernel
theorem zd_M_tide_21 : decode I_M_tide.2.1 21 = .ok (.aload_n 0, 1) := by decide +kernel
theorem zd_M_tide_22 : decode I_M_tide.2.1 22 = .ok (.bipush (-4), 2) := by decide +kernel
theorem zd_M_tide_24 : decode I_M_tide.2.1 24 = .ok (.invokevirtual 133, 3) := by decide +kernel
theorem zd_M_tide_27 : decode I_M_tide.2.1 27 = .ok (.ireturn, 1) := by decide +kernel
theorem zd_M_tide_28 : decode I_M_tide.2.1 28 = .ok (.iload_n 2, 1) := by decide +kernel
theorem zd_M_tide_29 : decode I_M_tide.2.1 29 = .ok (.bipush 12, 2) := by decide +kernel
theorem zd_M_tide_31 : decode I_M_tide.2.1 31 = .ok (.if_icmp .le 10, 3) := by decide +kernel
theorem zd_M_tide_34 : decode I_M_tide.2.1 34 = .ok (.aload_n 0, 1) := by decide +kernel
theorem zd_M_tide_35 : decode I_M_tide.2.1 35 = .ok (.bipush (-6), 2) := by decide +kernel
theorem zd_M_tide_37 : decode I_M_tide.2.1 37 = .ok (.invokevirtual 133, 3) := by decide +kernel
theorem zd_M_tide_40 : decode I_M_tide.2.1 40 = .ok (.ireturn, 1) := by decide +kernel
theorem zd_M_tide_41 : decode I_M_tide.2.1 41 = .ok (.aload_n 0, 1) := by decide +kernel
theorem zd_M_tide_42 : decode I_M_tide.2.1 42 = .ok (.getfield 41, 3) := by decide +kernel
theorem zd_M_tide_45 : decode I_M_tide.2.1 45 = .ok (.iload_n 1, 1) := by decide +kernel
theorem zd_M_tide_46 : decode I_M_tide.2.1 46 = .ok (.iload_n 2, 1) := by decide +kernel
theorem zd_M_tide_47 : decode I_M_tide.2.1 47 = .ok (.iastore, 1) := by decide +kernel
theorem zd_M_tide_48 : decode I_M_tide.2.1 48 = .ok (.iconst 1, 1) := by decide +kernel
theorem zd_M_tide_49 : decode I_M_tide.2.1 49 = .ok (.ireturn, 1) := by decide +kernel
theorem zd_M_slip_0 : decode I_M_slip.2.1 0 = .ok (.iload_n 1, 1) := by decide +kernel
theorem zd_M_slip_1 : decode I_M_slip.2.1 1 = .ok (.invokestatic 129, 3) := by decide +kernel
theorem zd_M_slip_4 : decode I_M_slip.2.1 4 = .ok (.ifCond .ne 9, 3) := by decide +kernel
theorem zd_M_slip_7 : decode I_M_slip.2.1 7 = .ok (.aload_n 0, 1) := by decide +kernel
theorem zd_M_slip_8 : decode I_M_slip.2.1 8 = .ok (.iconst (-1), 1) := by decide +kernel
theorem zd_M_slip_9 : decode I_M_slip.2.1 9 = .ok (.invokevirtual 133, 3) := by decide +kernel
theorem zd_M_slip_12 : decode I_M_slip.2.1 12 = .ok (.ireturn, 1) := by decide +kernel
theorem zd_M_slip_13 : decode I_M_slip.2.1 13 = .ok (.iload_n 2, 1) := by decide +kernel
theorem zd_M_slip_14 : decode I_M_slip.2.1 14 = .ok (.ifCond .ge 10, 3) := by decide +kernel
theorem zd_M_slip_17 : decode I_M_slip.2.1 17 = .ok (.aload_n 0, 1) := by decide +kernel
theorem zd_M_slip_18 : decode I_M_slip.2.1 18 = .ok (.bipush (-4), 2) := by decide +kernel
theorem zd_M_slip_20 : decode I_M_slip.2.1 20 = .ok (.invokevirtual 133, 3) := by decide +kernel
theorem zd_M_slip_23 : decode I_M_slip.2.1 23 = .ok (.ireturn, 1) := by decide +kernel
theorem zd_M_slip_24 : decode I_M_slip.2.1 24 = .ok (.iload_n 2, 1) := by decide +kernel
theorem zd_M_slip_25 : decode I_M_slip.2.1 25 = .ok (.sipush 4000, 3) := by decide +kernel
theorem zd_M_slip_28 : decode I_M_slip.2.1 28 = .ok (.if_icmp .le 10, 3) := by decide +kernel
theorem zd_M_slip_31 : decode I_M_slip.2.1 31 = .ok (.aload_n 0, 1) := by decide +kernel
theorem zd_M_slip_32 : decode I_M_slip.2.1 32 = .ok (.bipush (-6), 2) := by decide +kernel
theorem zd_M_slip_34 : decode I_M_slip.2.1 34 = .ok (.invokevirtual 133, 3) := by decide +kernel
theorem zd_M_slip_37 : decode I_M_slip.2.1 37 = .ok (.ireturn, 1) := by decide +kernel
theorem zd_M_slip_38 : decode I_M_slip.2.1 38 = .ok (.aload_n 0, 1) := by decide +kernel
theorem zd_M_slip_39 : decode I_M_slip.2.1 39 = .ok (.iload_n 1, 1) := by decide +kernel
theorem zd_M_slip_40 : decode I_M_slip.2.1 40 = .ok (.iload_n 2, 1) := by decide +kernel
theorem zd_M_slip_41 : decode I_M_slip.2.1 41 = .ok (.invokevirtual 166, 3) := by decide +kernel
theorem zd_M_slip_44 : decode I_M_slip.2.1 44 = .ok (.ifCond .eq 7, 3) := by decide +kernel
theorem zd_M_slip_47 : decode I_M_slip.2.1 47 = .ok (.iconst 1, 1) := by decide +kernel
theorem zd_M_slip_48 : decode I_M_slip.2.1 48 = .ok (.goto 4, 3) := by decide +kernel
theorem zd_M_slip_51 : decode I_M_slip.2.1 51 = .ok (.iconst 0, 1) := by decide +kernel
theorem zd_M_slip_52 : decode I_M_slip.2.1 52 = .ok (.ireturn, 1) := by decide +kernel
theorem zd_M_isOpen_0 : decode I_M_isOpen.2.1 0 = .ok (.aload_n 0, 1) := by decide +kernel
theorem zd_M_isOpen_1 : decode I_M_isOpen.2.1 1 = .ok (.iload_n 2, 1) := by decide +kernel
theorem zd_M_isOpen_2 : decode I_M_isOpen.2.1 2 = .ok (.invokevirtual 163, 3) := by decide +kernel
theorem zd_M_isOpen_5 : decode I_M_isOpen.2.1 5 = .ok (.aload_n 0, 1) := by decide +kernel
theorem zd_M_isOpen_6 : decode I_M_isOpen.2.1 6 = .ok (.getfield 20, 3) := by decide +kernel
theorem zd_M_isOpen_9 : decode I_M_isOpen.2.1 9 = .ok (.iload_n 1, 1) := by decide +kernel
theorem zd_M_isOpen_10 : decode I_M_isOpen.2.1 10 = .ok (.iaload, 1) := by decide +kernel
theorem zd_M_isOpen_11 : decode I_M_isOpen.2.1 11 = .ok (.if_icmp .lt 7, 3) := by decide +kernel
theorem zd_M_isOpen_14 : decode I_M_isOpen.2.1 14 = .ok (.iconst 1, 1) := by decide +kernel
theorem zd_M_isOpen_15 : decode I_M_isOpen.2.1 15 = .ok (.goto 4, 3) := by decide +kernel
theorem zd_M_isOpen_18 : decode I_M_isOpen.2.1 18 = .ok (.iconst 0, 1) := by decide +kernel
theorem zd_M_isOpen_19 : decode I_M_isOpen.2.1 19 = .ok (.ireturn, 1) := by decide +kernel
theorem zd_M_highOf_0 : decode I_M_highOf.2.1 0 = .ok (.aload_n 0, 1) := by decide +kernel
theorem zd_M_highOf_1 : decode I_M_highOf.2.1 1 = .ok (.getfield 41, 3) := by decide +kernel
theorem zd_M_highOf_4 : decode I_M_highOf.2.1 4 = .ok (.iload_n 1, 1) := by decide +kernel
theorem zd_M_highOf_5 : decode I_M_highOf.2.1 5 = .ok (.bipush 25, 2) := by decide +kernel
theorem zd_M_highOf_7 : decode I_M_highOf.2.1 7 = .ok (.irem, 1) := by decide +kernel
theorem zd_M_highOf_8 : decode I_M_highOf.2.1 8 = .ok (.iaload, 1) := by decide +kernel
theorem zd_M_highOf_9 : decode I_M_highOf.2.1 9 = .ok (.istore_n 2, 1) := by decide +kernel
theorem zd_M_highOf_10 : decode I_M_highOf.2.1 10 = .ok (.iload_n 2, 1) := by decide +kernel
theorem zd_M_highOf_11 : decode I_M_highOf.2.1 11 = .ok (.ifCond .lt 5, 3) := by decide +kernel
theorem zd_M_highOf_14 : decode I_M_highOf.2.1 14 = .ok (.iload_n 2, 1) := by decide +kernel
theorem zd_M_highOf_15 : decode I_M_highOf.2.1 15 = .ok (.ireturn, 1) := by decide +kernel
theorem zd_M_highOf_16 : decode I_M_highOf.2.1 16 = .ok (.iconst (-1), 1) := by decide +kernel
theorem zd_M_highOf_17 : decode I_M_highOf.2.1 17 = .ok (.istore_n 3, 1) := by decide +kernel
theorem zd_M_highOf_18 : decode I_M_highOf.2.1 18 = .ok (.iconst 0, 1) := by decide +kernel
theorem zd_M_highOf_19 : decode I_M_highOf.2.1 19 = .ok (.istore 4, 2) := by decide +kernel
theorem zd_M_highOf_21 : decode I_M_highOf.2.1 21 = .ok (.iload 4, 2) := by decide +kernel
theorem zd_M_highOf_23 : decode I_M_highOf.2.1 23 = .ok (.bipush 25, 2) := by decide +kernel
theorem zd_M_highOf_25 : decode I_M_highOf.2.1 25 = .ok (.if_icmp .ge 42, 3) := by decide +kernel
theorem zd_M_highOf_28 : decode I_M_highOf.2.1 28 = .ok (.aload_n 0, 1) := by decide +kernel
theorem zd_M_highOf_29 : decode I_M_highOf.2.1 29 = .ok (.getfield 41, 3) := by decide +kernel
theorem zd_M_highOf_32 : decode I_M_highOf.2.1 32 = .ok (.iload 4, 2) := by decide +kernel
theorem zd_M_highOf_34 : decode I_M_highOf.2.1 34 = .ok (.iaload, 1) := by decide +kernel
theorem zd_M_highOf_35 : decode I_M_highOf.2.1 35 = .ok (.ifCond .lt 26, 3) := by decide +kernel
theorem zd_M_highOf_38 : decode I_M_highOf.2.1 38 = .ok (.iload_n 3, 1) := by decide +kernel
theorem zd_M_highOf_39 : decode I_M_highOf.2.1 39 = .ok (.ifCond .lt 14, 3) := by decide +kernel
theorem zd_M_highOf_42 : decode I_M_highOf.2.1 42 = .ok (.aload_n 0, 1) := by decide +kernel
theorem zd_M_highOf_43 : decode I_M_highOf.2.1 43 = .ok (.getfield 41, 3) := by decide +kernel
theorem zd_M_highOf_46 : decode I_M_highOf.2.1 46 = .ok (.iload 4, 2) := by decide +kernel
theorem zd_M_highOf_48 : decode I_M_highOf.2.1 48 = .ok (.iaload, 1) := by decide +kernel
theorem zd_M_highOf_49 : decode I_M_highOf.2.1 49 = .ok (.iload_n 3, 1) := by decide +kernel
theorem zd_M_highOf_50 : decode I_M_highOf.2.1 50 = .ok (.if_icmp .ge 11, 3) := by decide +kernel
theorem zd_M_highOf_53 : decode I_M_highOf.2.1 53 = .ok (.aload_n 0, 1) := by decide +kernel
theorem zd_M_highOf_54 : decode I_M_highOf.2.1 54 = .ok (.getfield 41, 3) := by decide +kernel
theorem zd_M_highOf_57 : decode I_M_highOf.2.1 57 = .ok (.iload 4, 2) := by decide +kernel
theorem zd_M_highOf_59 : decode I_M_highOf.2.1 59 = .ok (.iaload, 1) := by decide +kernel
theorem zd_M_highOf_60 : decode I_M_highOf.2.1 60 = .ok (.istore_n 3, 1) := by decide +kernel
theorem zd_M_highOf_61 : decode I_M_highOf.2.1 61 = .ok (.iinc 4 1, 3) := by decide +kernel
theorem zd_M_highOf_64 : decode I_M_highOf.2.1 64 = .ok (.goto (-43), 3) := by decide +kernel
theorem zd_M_highOf_67 : decode I_M_highOf.2.1 67 = .ok (.iload_n 3, 1) := by decide +kernel
theorem zd_M_highOf_68 : decode I_M_highOf.2.1 68 = .ok (.ifCond .ge 7, 3) := by decide +kernel
theorem zd_M_highOf_71 : decode I_M_highOf.2.1 71 = .ok (.iconst 0, 1) := by decide +kernel
theorem zd_M_highOf_72 : decode I_M_highOf.2.1 72 = .ok (.goto 4, 3) := by decide +kernel
theorem zd_M_highOf_75 : decode I_M_highOf.2.1 75 = .ok (.iload_n 3, 1) := by decide +kernel
theorem zd_M_highOf_76 : decode I_M_highOf.2.1 76 = .ok (.ireturn, 1) := by decide +kernel
theorem zd_M_minutes_0 : decode I_M_minutes.2.1 0 = .ok (.iload_n 1, 1) := by decide +kernel
theorem zd_M_minutes_1 : decode I_M_minutes.2.1 1 = .ok (.iconst 1, 1) := by decide +kernel
theorem zd_M_minutes_2 : decode I_M_minutes.2.1 2 = .ok (.if_icmp .ge 10, 3) := by decide +kernel
theorem zd_M_minutes_5 : decode I_M_minutes.2.1 5 = .ok (.aload_n 0, 1) := by decide +kernel
theorem zd_M_minutes_6 : decode I_M_minutes.2.1 6 = .ok (.bipush (-4), 2) := by decide +kernel
theorem zd_M_minutes_8 : decode I_M_minutes.2.1 8 = .ok (.invokevirtual 133, 3) := by decide +kernel
theorem zd_M_minutes_11 : decode I_M_minutes.2.1 11 = .ok (.ireturn, 1) := by decide +kernel
theorem zd_M_minutes_12 : decode I_M_minutes.2.1 12 = .ok (.iload_n 1, 1) := by decide +kernel
theorem zd_M_minutes_13 : decode I_M_minutes.2.1 13 = .ok (.ldc 170, 2) := by decide +kernel
theorem zd_M_minutes_15 : decode I_M_minutes.2.1 15 = .ok (.aload_n 0, 1) := by decide +kernel
theorem zd_M_minutes_16 : decode I_M_minutes.2.1 16 = .ok (.getfield 119, 3) := by decide +kernel
theorem zd_M_minutes_19 : decode I_M_minutes.2.1 19 = .ok (.isub, 1) := by decide +kernel
theorem zd_M_minutes_20 : decode I_M_minutes.2.1 20 = .ok (.if_icmp .le 10, 3) := by decide +kernel
theorem zd_M_minutes_23 : decode I_M_minutes.2.1 23 = .ok (.aload_n 0, 1) := by decide +kernel
theorem zd_M_minutes_24 : decode I_M_minutes.2.1 24 = .ok (.bipush (-6), 2) := by decide +kernel
theorem zd_M_minutes_26 : decode I_M_minutes.2.1 26 = .ok (.invokevirtual 133, 3) := by decide +kernel
theorem zd_M_minutes_29 : decode I_M_minutes.2.1 29 = .ok (.ireturn, 1) := by decide +kernel
theorem zd_M_minutes_30 : decode I_M_minutes.2.1 30 = .ok (.aload_n 0, 1) := by decide +kernel
theorem zd_M_minutes_31 : decode I_M_minutes.2.1 31 = .ok (.dup, 1) := by decide +kernel
theorem zd_M_minutes_32 : decode I_M_minutes.2.1 32 = .ok (.getfield 119, 3) := by decide +kernel
theorem zd_M_minutes_35 : decode I_M_minutes.2.1 35 = .ok (.iload_n 1, 1) := by decide +kernel
theorem zd_M_minutes_36 : decode I_M_minutes.2.1 36 = .ok (.iadd, 1) := by decide +kernel
theorem zd_M_minutes_37 : decode I_M_minutes.2.1 37 = .ok (.putfield 119, 3) := by decide +kernel
theorem zd_M_minutes_40 : decode I_M_minutes.2.1 40 = .ok (.aload_n 0, 1) := by decide +kernel
theorem zd_M_minutes_41 : decode I_M_minutes.2.1 41 = .ok (.getfield 119, 3) := by decide +kernel
theorem zd_M_minutes_44 : decode I_M_minutes.2.1 44 = .ok (.ireturn, 1) := by decide +kernel
theorem zd_M_boat_0 : decode I_M_boat.2.1 0 = .ok (.iload_n 1, 1) := by decide +kernel
theorem zd_M_boat_1 : decode I_M_boat.2.1 1 = .ok (.invokestatic 129, 3) := by decide +kernel
theorem zd_M_boat_4 : decode I_M_boat.2.1 4 = .ok (.ifCond .ne 9, 3) := by decide +kernel
theorem zd_M_boat_7 : decode I_M_boat.2.1 7 = .ok (.aload_n 0, 1) := by decide +kernel
theorem zd_M_boat_8 : decode I_M_boat.2.1 8 = .ok (.iconst (-1), 1) := by decide +kernel
theorem zd_M_boat_9 : decode I_M_boat.2.1 9 = .ok (.invokevirtual 133, 3) := by decide +kernel
theorem zd_M_boat_12 : decode I_M_boat.2.1 12 = .ok (.ireturn, 1) := by decide +kernel
theorem zd_M_boat_13 : decode I_M_boat.2.1 13 = .ok (.iload_n 2, 1) := by decide +kernel
theorem zd_M_boat_14 : decode I_M_boat.2.1 14 = .ok (.iconst 1, 1) := by decide +kernel
theorem zd_M_boat_15 : decode I_M_boat.2.1 15 = .ok (.if_icmp .ge 10, 3) := by decide +kernel
theorem zd_M_boat_18 : decode I_M_boat.2.1 18 = .ok (.aload_n 0, 1) := by decide +kernel
theorem zd_M_boat_19 : decode I_M_boat.2.1 19 = .ok (.bipush (-4), 2) := by decide +kernel
theorem zd_M_boat_21 : decode I_M_boat.2.1 21 = .ok (.invokevirtual 133, 3) := by decide +kernel
theorem zd_M_boat_24 : decode I_M_boat.2.1 24 = .ok (.ireturn, 1) := by decide +kernel
theorem zd_M_boat_25 : decode I_M_boat.2.1 25 = .ok (.iload_n 2, 1) := by decide +kernel
theorem zd_M_boat_26 : decode I_M_boat.2.1 26 = .ok (.bipush 20, 2) := by decide +kernel
theorem zd_M_boat_28 : decode I_M_boat.2.1 28 = .ok (.if_icmp .gt 12, 3) := by decide +kernel
theorem zd_M_boat_31 : decode I_M_boat.2.1 31 = .ok (.aload_n 0, 1) := by decide +kernel
theorem zd_M_boat_32 : decode I_M_boat.2.1 32 = .ok (.getfield 113, 3) := by decide +kernel
theorem zd_M_boat_35 : decode I_M_boat.2.1 35 = .ok (.bipush 8, 2) := by decide +kernel
theorem zd_M_boat_37 : decode I_M_boat.2.1 37 = .ok (.if_icmp .ne 10, 3) := by decide +kernel
theorem zd_M_boat_40 : decode I_M_boat.2.1 40 = .ok (.aload_n 0, 1) := by decide +kernel
theorem zd_M_boat_41 : decode I_M_boat.2.1 41 = .ok (.bipush (-6), 2) := by decide +kernel
theorem zd_M_boat_43 : decode I_M_boat.2.1 43 = .ok (.invokevirtual 133, 3) := by decide +kernel
theorem zd_M_boat_46 : decode I_M_boat.2.1 46 = .ok (.ireturn, 1) := by decide +kernel
theorem zd_M_boat_47 : decode I_M_boat.2.1 47 = .ok (.aload_n 0, 1) := by decide +kernel
theorem zd_M_boat_48 : decode I_M_boat.2.1 48 = .ok (.getfield 44, 3) := by decide +kernel
theorem zd_M_boat_51 : decode I_M_boat.2.1 51 = .ok (.aload_n 0, 1) := by decide +kernel
theorem zd_M_boat_52 : decode I_M_boat.2.1 52 = .ok (.getfield 113, 3) := by decide +kernel
theorem zd_M_boat_55 : decode I_M_boat.2.1 55 = .ok (.iload_n 1, 1) := by decide +kernel
theorem zd_M_boat_56 : decode I_M_boat.2.1 56 = .ok (.iastore, 1) := by decide +kernel
theorem zd_M_boat_57 : decode I_M_boat.2.1 57 = .ok (.aload_n 0, 1) := by decide +kernel
theorem zd_M_boat_58 : decode I_M_boat.2.1 58 = .ok (.getfield 47, 3) := by decide +kernel
theorem zd_M_boat_61 : decode I_M_boat.2.1 61 = .ok (.aload_n 0, 1) := by decide +kernel
theorem zd_M_boat_62 : decode I_M_boat.2.1 62 = .ok (.getfield 113, 3) := by decide +kernel
theorem zd_M_boat_65 : decode I_M_boat.2.1 65 = .ok (.iload_n 2, 1) := by decide +kernel
theorem zd_M_boat_66 : decode I_M_boat.2.1 66 = .ok (.iastore, 1) := by decide +kernel
theorem zd_M_boat_67 : decode I_M_boat.2.1 67 = .ok (.aload_n 0, 1) := by decide +kernel
theorem zd_M_boat_68 : decode I_M_boat.2.1 68 = .ok (.dup, 1) := by decide +kernel
theorem zd_M_boat_69 : decode I_M_boat.2.1 69 = .ok (.getfield 113, 3) := by decide +kernel
theorem zd_M_boat_72 : decode I_M_boat.2.1 72 = .ok (.dup_x1, 1) := by decide +kernel
theorem zd_M_boat_73 : decode I_M_boat.2.1 73 = .ok (.iconst 1, 1) := by decide +kernel
theorem zd_M_boat_74 : decode I_M_boat.2.1 74 = .ok (.iadd, 1) := by decide +kernel
theorem zd_M_boat_75 : decode I_M_boat.2.1 75 = .ok (.putfield 113, 3) := by decide +kernel
theorem zd_M_boat_78 : decode I_M_boat.2.1 78 = .ok (.ireturn, 1) := by decide +kernel
theorem zd_M_speed_0 : decode I_M_speed.2.1 0 = .ok (.aload_n 0, 1) := by decide +kernel
theorem zd_M_speed_1 : decode I_M_speed.2.1 1 = .ok (.iload_n 1, 1) := by decide +kernel
theorem zd_M_speed_2 : decode I_M_speed.2.1 2 = .ok (.invokevirtual 171, 3) := by decide +kernel
theorem zd_M_speed_5 : decode I_M_speed.2.1 5 = .ok (.ifCond .eq 12, 3) := by decide +kernel
theorem zd_M_speed_8 : decode I_M_speed.2.1 8 = .ok (.iload_n 2, 1) := by decide +kernel
theorem zd_M_speed_9 : decode I_M_speed.2.1 9 = .ok (.ifCond .lt 8, 3) := by decide +kernel
theorem zd_M_speed_12 : decode I_M_speed.2.1 12 = .ok (.iload_n 2, 1) := by decide +kernel
theorem zd_M_speed_13 : decode I_M_speed.2.1 13 = .ok (.iconst 4, 1) := by decide +kernel
theorem zd_M_speed_14 : decode I_M_speed.2.1 14 = .ok (.if_icmp .le 9, 3) := by decide +kernel
theorem zd_M_speed_17 : decode I_M_speed.2.1 17 = .ok (.aload_n 0, 1) := by decide +kernel
theorem zd_M_speed_18 : decode I_M_speed.2.1 18 = .ok (.iconst (-1), 1) := by decide +kernel
theorem zd_M_speed_19 : decode I_M_speed.2.1 19 = .ok (.invokevirtual 133, 3) := by decide +kernel
theorem zd_M_speed_22 : decode I_M_speed.2.1 22 = .ok (.ireturn, 1) := by decide +kernel
theorem zd_M_speed_23 : decode I_M_speed.2.1 23 = .ok (.iload_n 3, 1) := by decide +kernel
theorem zd_M_speed_24 : decode I_M_speed.2.1 24 = .ok (.ifCond .ge 10, 3) := by decide +kernel
theorem zd_M_speed_27 : decode I_M_speed.2.1 27 = .ok (.aload_n 0, 1) := by decide +kernel
theorem zd_M_speed_28 : decode I_M_speed.2.1 28 = .ok (.bipush (-4), 2) := by decide +kernel
theorem zd_M_speed_30 : decode I_M_speed.2.1 30 = .ok (.invokevirtual 133, 3) := by decide +kernel
theorem zd_M_speed_33 : decode I_M_speed.2.1 33 = .ok (.ireturn, 1) := by decide +kernel
theorem zd_M_speed_34 : decode I_M_speed.2.1 34 = .ok (.iload_n 3, 1) := by decide +kernel
theorem zd_M_speed_35 : decode I_M_speed.2.1 35 = .ok (.bipush 30, 2) := by decide +kernel
theorem zd_M_speed_37 : decode I_M_speed.2.1 37 = .ok (.if_icmp .le 10, 3) := by decide +kernel
theorem zd_M_speed_40 : decode I_M_speed.2.1 40 = .ok (.aload_n 0, 1) := by decide +kernel
theorem zd_M_speed_41 : decode I_M_speed.2.1 41 = .ok (.bipush (-6), 2) := by decide +kernel
theorem zd_M_speed_43 : decode I_M_speed.2.1 43 = .ok (.invokevirtual 133, 3) := by decide +kernel
theorem zd_M_speed_46 : decode I_M_speed.2.1 46 = .ok (.ireturn, 1) := by decide +kernel
theorem zd_M_speed_47 : decode I_M_speed.2.1 47 = .ok (.aload_n 0, 1) := by decide +kernel
theorem zd_M_speed_48 : decode I_M_speed.2.1 48 = .ok (.getfield 53, 3) := by decide +kernel
theorem zd_M_speed_51 : decode I_M_speed.2.1 51 = .ok (.iconst 5, 1) := by decide +kernel
theorem zd_M_speed_52 : decode I_M_speed.2.1 52 = .ok (.iload_n 1, 1) := by decide +kernel
theorem zd_M_speed_53 : decode I_M_speed.2.1 53 = .ok (.imul, 1) := by decide +kernel
theorem zd_M_speed_54 : decode I_M_speed.2.1 54 = .ok (.iload_n 2, 1) := by decide +kernel
theorem zd_M_speed_55 : decode I_M_speed.2.1 55 = .ok (.iadd, 1) := by decide +kernel
theorem zd_M_speed_56 : decode I_M_speed.2.1 56 = .ok (.iaload, 1) := by decide +kernel
theorem zd_M_speed_57 : decode I_M_speed.2.1 57 = .ok (.istore 4, 2) := by decide +kernel
theorem zd_M_speed_59 : decode I_M_speed.2.1 59 = .ok (.aload_n 0, 1) := by decide +kernel
theorem zd_M_speed_60 : decode I_M_speed.2.1 60 = .ok (.getfield 53, 3) := by decide +kernel
theorem zd_M_speed_63 : decode I_M_speed.2.1 63 = .ok (.iconst 5, 1) := by decide +kernel
theorem zd_M_speed_64 : decode I_M_speed.2.1 64 = .ok (.iload_n 1, 1) := by decide +kernel
theorem zd_M_speed_65 : decode I_M_speed.2.1 65 = .ok (.imul, 1) := by decide +kernel
theorem zd_M_speed_66 : decode I_M_speed.2.1 66 = .ok (.iload_n 2, 1) := by decide +kernel
theorem zd_M_speed_67 : decode I_M_speed.2.1 67 = .ok (.iadd, 1) := by decide +kernel
theorem zd_M_speed_68 : decode I_M_speed.2.1 68 = .ok (.iload_n 3, 1) := by decide +kernel
theorem zd_M_speed_69 : decode I_M_speed.2.1 69 = .ok (.iastore, 1) := by decide +kernel
theorem zd_M_speed_70 : decode I_M_speed.2.1 70 = .ok (.iload 4, 2) := by decide +kernel
theorem zd_M_speed_72 : decode I_M_speed.2.1 72 = .ok (.ireturn, 1) := by decide +kernel
theorem zd_M_isBoat_0 : decode I_M_isBoat.2.1 0 = .ok (.iload_n 1, 1) := by decide +kernel
theorem zd_M_isBoat_1 : decode I_M_isBoat.2.1 1 = .ok (.ifCond .lt 15, 3) := by decide +kernel
theorem zd_M_isBoat_4 : decode I_M_isBoat.2.1 4 = .ok (.iload_n 1, 1) := by decide +kernel
theorem zd_M_isBoat_5 : decode I_M_isBoat.2.1 5 = .ok (.aload_n 0, 1) := by decide +kernel
theorem zd_M_isBoat_6 : decode I_M_isBoat.2.1 6 = .ok (.getfield 113, 3) := by decide +kernel
theorem zd_M_isBoat_9 : decode I_M_isBoat.2.1 9 = .ok (.if_icmp .ge 7, 3) := by decide +kernel
theorem zd_M_isBoat_12 : decode I_M_isBoat.2.1 12 = .ok (.iconst 1, 1) := by decide +kernel
theorem zd_M_isBoat_13 : decode I_M_isBoat.2.1 13 = .ok (.goto 4, 3) := by decide +kernel
theorem zd_M_isBoat_16 : decode I_M_isBoat.2.1 16 = .ok (.iconst 0, 1) := by decide +kernel
theorem zd_M_isBoat_17 : decode I_M_isBoat.2.1 17 = .ok (.ireturn, 1) := by decide +kernel
theorem zd_M_move_0 : decode I_M_move.2.1 0 = .ok (.aload_n 0, 1) := by decide +kernel
theorem zd_M_move_1 : decode I_M_move.2.1 1 = .ok (.iload_n 1, 1) := by decide +kernel
theorem zd_M_move_2 : decode I_M_move.2.1 2 = .ok (.invokevirtual 171, 3) := by decide +kernel
theorem zd_M_move_5 : decode I_M_move.2.1 5 = .ok (.ifCond .eq 10, 3) := by decide +kernel
theorem zd_M_move_8 : decode I_M_move.2.1 8 = .ok (.iload_n 2, 1) := by decide +kernel
theorem zd_M_move_9 : decode I_M_move.2.1 9 = .ok (.invokestatic 129, 3) := by decide +kernel
theorem zd_M_move_12 : decode I_M_move.2.1 12 = .ok (.ifCond .ne 9, 3) := by decide +kernel
theorem zd_M_move_15 : decode I_M_move.2.1 15 = .ok (.aload_n 0, 1) := by decide +kernel
theorem zd_M_move_16 : decode I_M_move.2.1 16 = .ok (.iconst (-1), 1) := by decide +kernel
theorem zd_M_move_17 : decode I_M_move.2.1 17 = .ok (.invokevirtual 133, 3) := by decide +kernel
theorem zd_M_move_20 : decode I_M_move.2.1 20 = .ok (.ireturn, 1) := by decide +kernel
theorem zd_M_move_21 : decode I_M_move.2.1 21 = .ok (.aload_n 0, 1) := by decide +kernel
theorem zd_M_move_22 : decode I_M_move.2.1 22 = .ok (.iload_n 1, 1) := by decide +kernel
theorem zd_M_move_23 : decode I_M_move.2.1 23 = .ok (.invokevirtual 174, 3) := by decide +kernel
theorem zd_M_move_26 : decode I_M_move.2.1 26 = .ok (.ifCond .eq 10, 3) := by decide +kernel
theorem zd_M_move_29 : decode I_M_move.2.1 29 = .ok (.aload_n 0, 1) := by decide +kernel
theorem zd_M_move_30 : decode I_M_move.2.1 30 = .ok (.bipush (-3), 2) := by decide +kernel
theorem zd_M_move_32 : decode I_M_move.2.1 32 = .ok (.invokevirtual 133, 3) := by decide +kernel
theorem zd_M_move_35 : decode I_M_move.2.1 35 = .ok (.ireturn, 1) := by decide +kernel
theorem zd_M_move_36 : decode I_M_move.2.1 36 = .ok (.aload_n 0, 1) := by decide +kernel
theorem zd_M_move_37 : decode I_M_move.2.1 37 = .ok (.getfield 44, 3) := by decide +kernel
theorem zd_M_move_40 : decode I_M_move.2.1 40 = .ok (.iload_n 1, 1) := by decide +kernel
theorem zd_M_move_41 : decode I_M_move.2.1 41 = .ok (.iaload, 1) := by decide +kernel
theorem zd_M_move_42 : decode I_M_move.2.1 42 = .ok (.istore_n 3, 1) := by decide +kernel
theorem zd_M_move_43 : decode I_M_move.2.1 43 = .ok (.aload_n 0, 1) := by decide +kernel
theorem zd_M_move_44 : decode I_M_move.2.1 44 = .ok (.getfield 44, 3) := by decide +kernel
theorem zd_M_move_47 : decode I_M_move.2.1 47 = .ok (.iload_n 1, 1) := by decide +kernel
theorem zd_M_move_48 : decode I_M_move.2.1 48 = .ok (.iload_n 2, 1) := by decide +kernel
theorem zd_M_move_49 : decode I_M_move.2.1 49 = .ok (.iastore, 1) := by decide +kernel
theorem zd_M_move_50 : decode I_M_move.2.1 50 = .ok (.iload_n 3, 1) := by decide +kernel
theorem zd_M_move_51 : decode I_M_move.2.1 51 = .ok (.ireturn, 1) := by decide +kernel
theorem zd_M_isAway_0 : decode I_M_isAway.2.1 0 = .ok (.aload_n 0, 1) := by decide +kernel
theorem zd_M_isAway_1 : decode I_M_isAway.2.1 1 = .ok (.getfield 119, 3) := by decide +kernel
theorem zd_M_isAway_4 : decode I_M_isAway.2.1 4 = .ok (.aload_n 0, 1) := by decide +kernel
theorem zd_M_isAway_5 : decode I_M_isAway.2.1 5 = .ok (.getfield 50, 3) := by decide +kernel
theorem zd_M_isAway_8 : decode I_M_isAway.2.1 8 = .ok (.iload_n 1, 1) := by decide +kernel
theorem zd_M_isAway_9 : decode I_M_isAway.2.1 9 = .ok (.iaload, 1) := by decide +kernel
theorem zd_M_isAway_10 : decode I_M_isAway.2.1 10 = .ok (.if_icmp .ge 7, 3) := by decide +kernel
theorem zd_M_isAway_13 : decode I_M_isAway.2.1 13 = .ok (.iconst 1, 1) := by decide +kernel
theorem zd_M_isAway_14 : decode I_M_isAway.2.1 14 = .ok (.goto 4, 3) := by decide +kernel
theorem zd_M_isAway_17 : decode I_M_isAway.2.1 17 = .ok (.iconst 0, 1) := by decide +kernel
theorem zd_M_isAway_18 : decode I_M_isAway.2.1 18 = .ok (.ireturn, 1) := by decide +kernel
theorem zd_M_call_0 : decode I_M_call.2.1 0 = .ok (.iload_n 3, 1) := by decide +kernel
theorem zd_M_call_1 : decode I_M_call.2.1 1 = .ok (.ifCond .lt 8, 3) := by decide +kernel
theorem zd_M_call_4 : decode I_M_call.2.1 4 = .ok (.iload_n 3, 1) := by decide +kernel
theorem zd_M_call_5 : decode I_M_call.2.1 5 = .ok (.iconst 4, 1) := by decide +kernel
theorem zd_M_call_6 : decode I_M_call.2.1 6 = .ok (.if_icmp .le 9, 3) := by decide +kernel
theorem zd_M_call_9 : decode I_M_call.2.1 9 = .ok (.aload_n 0, 1) := by decide +kernel
theorem zd_M_call_10 : decode I_M_call.2.1 10 = .ok (.iconst (-1), 1) := by decide +kernel
theorem zd_M_call_11 : decode I_M_call.2.1 11 = .ok (.invokevirtual 133, 3) := by decide +kernel
theorem zd_M_call_14 : decode I_M_call.2.1 14 = .ok (.ireturn, 1) := by decide +kernel
theorem zd_M_call_15 : decode I_M_call.2.1 15 = .ok (.iload_n 1, 1) := by decide +kernel
theorem zd_M_call_16 : decode I_M_call.2.1 16 = .ok (.ifCond .lt 7, 3) := by decide +kernel
theorem zd_M_call_19 : decode I_M_call.2.1 19 = .ok (.iload_n 2, 1) := by decide +kernel
theorem zd_M_call_20 : decode I_M_call.2.1 20 = .ok (.ifCond .ge 10, 3) := by decide +kernel
theorem zd_M_call_23 : decode I_M_call.2.1 23 = .ok (.aload_n 0, 1) := by decide +kernel
theorem zd_M_call_24 : decode I_M_call.2.1 24 = .ok (.bipush (-4), 2) := by decide +kernel
theorem zd_M_call_26 : decode I_M_call.2.1 26 = .ok (.invokevirtual 133, 3) := by decide +kernel
theorem zd_M_call_29 : decode I_M_call.2.1 29 = .ok (.ireturn, 1) := by decide +kernel
theorem zd_M_call_30 : decode I_M_call.2.1 30 = .ok (.iload_n 1, 1) := by decide +kernel
theorem zd_M_call_31 : decode I_M_call.2.1 31 = .ok (.sipush 300, 3) := by decide +kernel
theorem zd_M_call_34 : decode I_M_call.2.1 34 = .ok (.if_icmp .gt 18, 3) := by decide +kernel
theorem zd_M_call_37 : decode I_M_call.2.1 37 = .ok (.iload_n 2, 1) := by decide +kernel
theorem zd_M_call_38 : decode I_M_call.2.1 38 = .ok (.bipush 60, 2) := by decide +kernel
theorem zd_M_call_40 : decode I_M_call.2.1 40 = .ok (.if_icmp .gt 12, 3) := by decide +kernel
theorem zd_M_call_43 : decode I_M_call.2.1 43 = .ok (.aload_n 0, 1) := by decide +kernel
theorem zd_M_call_44 : decode I_M_call.2.1 44 = .ok (.getfield 116, 3) := by decide +kernel
theorem zd_M_call_47 : decode I_M_call.2.1 47 = .ok (.bipush 20, 2) := by decide +kernel
theorem zd_M_call_49 : decode I_M_call.2.1 49 = .ok (.if_icmp .ne 10, 3) := by decide +kernel
theorem zd_M_call_52 : decode I_M_call.2.1 52 = .ok (.aload_n 0, 1) := by decide +kernel
theorem zd_M_call_53 : decode I_M_call.2.1 53 = .ok (.bipush (-6), 2) := by decide +kernel
theorem zd_M_call_55 : decode I_M_call.2.1 55 = .ok (.invokevirtual 133, 3) := by decide +kernel
theorem zd_M_call_58 : decode I_M_call.2.1 58 = .ok (.ireturn, 1) := by decide +kernel
theorem zd_M_call_59 : decode I_M_call.2.1 59 = .ok (.aload_n 0, 1) := by decide +kernel
theorem zd_M_call_60 : decode I_M_call.2.1 60 = .ok (.getfield 56, 3) := by decide +kernel
theorem zd_M_call_63 : decode I_M_call.2.1 63 = .ok (.aload_n 0, 1) := by decide +kernel
theorem zd_M_call_64 : decode I_M_call.2.1 64 = .ok (.getfield 116, 3) := by decide +kernel
theorem zd_M_call_67 : decode I_M_call.2.1 67 = .ok (.iload_n 1, 1) := by decide +kernel
theorem zd_M_call_68 : decode I_M_call.2.1 68 = .ok (.iastore, 1) := by decide +kernel
theorem zd_M_call_69 : decode I_M_call.2.1 69 = .ok (.aload_n 0, 1) := by decide +kernel
theorem zd_M_call_70 : decode I_M_call.2.1 70 = .ok (.getfield 59, 3) := by decide +kernel
theorem zd_M_call_73 : decode I_M_call.2.1 73 = .ok (.aload_n 0, 1) := by decide +kernel
theorem zd_M_call_74 : decode I_M_call.2.1 74 = .ok (.getfield 116, 3) := by decide +kernel
theorem zd_M_call_77 : decode I_M_call.2.1 77 = .ok (.iload_n 2, 1) := by decide +kernel
theorem zd_M_call_78 : decode I_M_call.2.1 78 = .ok (.iastore, 1) := by decide +kernel
theorem zd_M_call_79 : decode I_M_call.2.1 79 = .ok (.aload_n 0, 1) := by decide +kernel
theorem zd_M_call_80 : decode I_M_call.2.1 80 = .ok (.getfield 62, 3) := by decide +kernel
theorem zd_M_call_83 : decode I_M_call.2.1 83 = .ok (.aload_n 0, 1) := by decide +kernel
theorem zd_M_call_84 : decode I_M_call.2.1 84 = .ok (.getfield 116, 3) := by decide +kernel
theorem zd_M_call_87 : decode I_M_call.2.1 87 = .ok (.iload_n 3, 1) := by decide +kernel
theorem zd_M_call_88 : decode I_M_call.2.1 88 = .ok (.iastore, 1) := by decide +kernel
theorem zd_M_call_89 : decode I_M_call.2.1 89 = .ok (.aload_n 0, 1) := by decide +kernel
theorem zd_M_call_90 : decode I_M_call.2.1 90 = .ok (.dup, 1) := by decide +kernel
theorem zd_M_call_91 : decode I_M_call.2.1 91 = .ok (.getfield 116, 3) := by decide +kernel
theorem zd_M_call_94 : decode I_M_call.2.1 94 = .ok (.dup_x1, 1) := by decide +kernel
theorem zd_M_call_95 : decode I_M_call.2.1 95 = .ok (.iconst 1, 1) := by decide +kernel
theorem zd_M_call_96 : decode I_M_call.2.1 96 = .ok (.iadd, 1) := by decide +kernel
theorem zd_M_call_97 : decode I_M_call.2.1 97 = .ok (.putfield 116, 3) := by decide +kernel
theorem zd_M_call_100 : decode I_M_call.2.1 100 = .ok (.ireturn, 1) := by decide +kernel
theorem zd_M_reach_0 : decode I_M_reach.2.1 0 = .ok (.aload_n 0, 1) := by decide +kernel
theorem zd_M_reach_1 : decode I_M_reach.2.1 1 = .ok (.iload_n 1, 1) := by decide +kernel
theorem zd_M_reach_2 : decode I_M_reach.2.1 2 = .ok (.invokevirtual 171, 3) := by decide +kernel
theorem zd_M_reach_5 : decode I_M_reach.2.1 5 = .ok (.ifCond .eq 11, 3) := by decide +kernel
theorem zd_M_reach_8 : decode I_M_reach.2.1 8 = .ok (.aload_n 0, 1) := by decide +kernel
theorem zd_M_reach_9 : decode I_M_reach.2.1 9 = .ok (.iload_n 2, 1) := by decide +kernel
theorem zd_M_reach_10 : decode I_M_reach.2.1 10 = .ok (.invokevirtual 195, 3) := by decide +kernel
theorem zd_M_reach_13 : decode I_M_reach.2.1 13 = .ok (.ifCond .ne 9, 3) := by decide +kernel
theorem zd_M_reach_16 : decode I_M_reach.2.1 16 = .ok (.aload_n 0, 1) := by decide +kernel
theorem zd_M_reach_17 : decode I_M_reach.2.1 17 = .ok (.iconst (-1), 1) := by decide +kernel
theorem zd_M_reach_18 : decode I_M_reach.2.1 18 = .ok (.invokevirtual 133, 3) := by decide +kernel
theorem zd_M_reach_21 : decode I_M_reach.2.1 21 = .ok (.ireturn, 1) := by decide +kernel
theorem zd_M_reach_22 : decode I_M_reach.2.1 22 = .ok (.iload_n 3, 1) := by decide +kernel
theorem zd_M_reach_23 : decode I_M_reach.2.1 23 = .ok (.ifCond .lt 8, 3) := by decide +kernel
theorem zd_M_reach_26 : decode I_M_reach.2.1 26 = .ok (.iload_n 3, 1) := by decide +kernel
theorem zd_M_reach_27 : decode I_M_reach.2.1 27 = .ok (.iconst 2, 1) := by decide +kernel
theorem zd_M_reach_28 : decode I_M_reach.2.1 28 = .ok (.if_icmp .le 10, 3) := by decide +kernel
theorem zd_M_reach_31 : decode I_M_reach.2.1 31 = .ok (.aload_n 0, 1) := by decide +kernel
theorem zd_M_reach_32 : decode I_M_reach.2.1 32 = .ok (.bipush (-2), 2) := by decide +kernel
theorem zd_M_reach_34 : decode I_M_reach.2.1 34 = .ok (.invokevirtual 133, 3) := by decide +kernel
theorem zd_M_reach_37 : decode I_M_reach.2.1 37 = .ok (.ireturn, 1) := by decide +kernel
theorem zd_M_reach_38 : decode I_M_reach.2.1 38 = .ok (.iload_n 3, 1) := by decide +kernel
theorem zd_M_reach_39 : decode I_M_reach.2.1 39 = .ok (.iconst 2, 1) := by decide +kernel
theorem zd_M_reach_40 : decode I_M_reach.2.1 40 = .ok (.if_icmp .ne 18, 3) := by decide +kernel
theorem zd_M_reach_43 : decode I_M_reach.2.1 43 = .ok (.aload_n 0, 1) := by decide +kernel
theorem zd_M_reach_44 : decode I_M_reach.2.1 44 = .ok (.iload_n 1, 1) := by decide +kernel
theorem zd_M_reach_45 : decode I_M_reach.2.1 45 = .ok (.iload_n 2, 1) := by decide +kernel
theorem zd_M_reach_46 : decode I_M_reach.2.1 46 = .ok (.invokevirtual 189, 3) := by decide +kernel
theorem zd_M_reach_49 : decode I_M_reach.2.1 49 = .ok (.ifCond .eq 7, 3) := by decide +kernel
theorem zd_M_reach_52 : decode I_M_reach.2.1 52 = .ok (.iconst 1, 1) := by decide +kernel
theorem zd_M_reach_53 : decode I_M_reach.2.1 53 = .ok (.goto 4, 3) := by decide +kernel
theorem zd_M_reach_56 : decode I_M_reach.2.1 56 = .ok (.iconst 0, 1) := by decide +kernel
theorem zd_M_reach_57 : decode I_M_reach.2.1 57 = .ok (.ireturn, 1) := by decide +kernel
theorem zd_M_reach_58 : decode I_M_reach.2.1 58 = .ok (.iload_n 3, 1) := by decide +kernel
theorem zd_M_reach_59 : decode I_M_reach.2.1 59 = .ok (.iconst 1, 1) := by decide +kernel
theorem zd_M_reach_60 : decode I_M_reach.2.1 60 = .ok (.if_icmp .ne 12, 3) := by decide +kernel
theorem zd_M_reach_63 : decode I_M_reach.2.1 63 = .ok (.aload_n 0, 1) := by decide +kernel
theorem zd_M_reach_64 : decode I_M_reach.2.1 64 = .ok (.iload_n 1, 1) := by decide +kernel
theorem zd_M_reach_65 : decode I_M_reach.2.1 65 = .ok (.iload_n 2, 1) := by decide +kernel
theorem zd_M_reach_66 : decode I_M_reach.2.1 66 = .ok (.invokevirtual 198, 3) := by decide +kernel
theorem zd_M_reach_69 : decode I_M_reach.2.1 69 = .ok (.goto 22, 3) := by decide +kernel
theorem zd_M_reach_72 : decode I_M_reach.2.1 72 = .ok (.aload_n 0, 1) := by decide +kernel
theorem zd_M_reach_73 : decode I_M_reach.2.1 73 = .ok (.iload_n 1, 1) := by decide +kernel
theorem zd_M_reach_74 : decode I_M_reach.2.1 74 = .ok (.iload_n 2, 1) := by decide +kernel
theorem zd_M_reach_75 : decode I_M_reach.2.1 75 = .ok (.invokevirtual 189, 3) := by decide +kernel
theorem zd_M_reach_78 : decode I_M_reach.2.1 78 = .ok (.ifCond .eq 11, 3) := by decide +kernel
theorem zd_M_reach_81 : decode I_M_reach.2.1 81 = .ok (.aload_n 0, 1) := by decide +kernel
theorem zd_M_reach_82 : decode I_M_reach.2.1 82 = .ok (.iload_n 1, 1) := by decide +kernel
theorem zd_M_reach_83 : decode I_M_reach.2.1 83 = .ok (.invokevirtual 192, 3) := by decide +kernel
theorem zd_M_reach_86 : decode I_M_reach.2.1 86 = .ok (.goto 5, 3) := by decide +kernel
theorem zd_M_reach_89 : decode I_M_reach.2.1 89 = .ok (.bipush (-9), 2) := by decide +kernel
theorem zd_M_reach_91 : decode I_M_reach.2.1 91 = .ok (.ireturn, 1) := by decide +kernel
theorem zd_M_isCall_0 : decode I_M_isCall.2.1 0 = .ok (.iload_n 1, 1) := by decide +kernel
theorem zd_M_isCall_1 : decode I_M_isCall.2.1 1 = .ok (.ifCond .lt 15, 3) := by decide +kernel
theorem zd_M_isCall_4 : decode I_M_isCall.2.1 4 = .ok (.iload_n 1, 1) := by decide +kernel
theorem zd_M_isCall_5 : decode I_M_isCall.2.1 5 = .ok (.aload_n 0, 1) := by decide +kernel
theorem zd_M_isCall_6 : decode I_M_isCall.2.1 6 = .ok (.getfield 116, 3) := by decide +kernel
theorem zd_M_isCall_9 : decode I_M_isCall.2.1 9 = .ok (.if_icmp .ge 7, 3) := by decide +kernel
theorem zd_M_isCall_12 : decode I_M_isCall.2.1 12 = .ok (.iconst 1, 1) := by decide +kernel
theorem zd_M_isCall_13 : decode I_M_isCall.2.1 13 = .ok (.goto 4, 3) := by decide +kernel
theorem zd_M_isCall_16 : decode I_M_isCall.2.1 16 = .ok (.iconst 0, 1) := by decide +kernel
theorem zd_M_isCall_17 : decode I_M_isCall.2.1 17 = .ok (.ireturn, 1) := by decide +kernel
theorem zd_M_can_0 : decode I_M_can.2.1 0 = .ok (.aload_n 0, 1) := by decide +kernel
theorem zd_M_can_1 : decode I_M_can.2.1 1 = .ok (.iload_n 1, 1) := by decide +kernel
theorem zd_M_can_2 : decode I_M_can.2.1 2 = .ok (.iload_n 2, 1) := by decide +kernel
theorem zd_M_can_3 : decode I_M_can.2.1 3 = .ok (.invokevirtual 180, 3) := by decide +kernel
theorem zd_M_can_6 : decode I_M_can.2.1 6 = .ok (.istore_n 3, 1) := by decide +kernel
theorem zd_M_can_7 : decode I_M_can.2.1 7 = .ok (.iload_n 3, 1) := by decide +kernel
theorem zd_M_can_8 : decode I_M_can.2.1 8 = .ok (.ifCond .le 28, 3) := by decide +kernel
theorem zd_M_can_11 : decode I_M_can.2.1 11 = .ok (.iconst 2, 1) := by decide +kernel
theorem zd_M_can_12 : decode I_M_can.2.1 12 = .ok (.aload_n 0, 1) := by decide +kernel
theorem zd_M_can_13 : decode I_M_can.2.1 13 = .ok (.iload_n 1, 1) := by decide +kernel
theorem zd_M_can_14 : decode I_M_can.2.1 14 = .ok (.iload_n 2, 1) := by decide +kernel
theorem zd_M_can_15 : decode I_M_can.2.1 15 = .ok (.invokevirtual 183, 3) := by decide +kernel
theorem zd_M_can_18 : decode I_M_can.2.1 18 = .ok (.imul, 1) := by decide +kernel
theorem zd_M_can_19 : decode I_M_can.2.1 19 = .ok (.iload_n 3, 1) := by decide +kernel
theorem zd_M_can_20 : decode I_M_can.2.1 20 = .ok (.invokestatic 186, 3) := by decide +kernel
theorem zd_M_can_23 : decode I_M_can.2.1 23 = .ok (.aload_n 0, 1) := by decide +kernel
theorem zd_M_can_24 : decode I_M_can.2.1 24 = .ok (.getfield 47, 3) := by decide +kernel
theorem zd_M_can_27 : decode I_M_can.2.1 27 = .ok (.iload_n 1, 1) := by decide +kernel
theorem zd_M_can_28 : decode I_M_can.2.1 28 = .ok (.iaload, 1) := by decide +kernel
theorem zd_M_can_29 : decode I_M_can.2.1 29 = .ok (.if_icmp .gt 7, 3) := by decide +kernel
theorem zd_M_can_32 : decode I_M_can.2.1 32 = .ok (.iconst 1, 1) := by decide +kernel
theorem zd_M_can_33 : decode I_M_can.2.1 33 = .ok (.goto 4, 3) := by decide +kernel
theorem zd_M_can_36 : decode I_M_can.2.1 36 = .ok (.iconst 0, 1) := by decide +kernel
theorem zd_M_can_37 : decode I_M_can.2.1 37 = .ok (.ireturn, 1) := by decide +kernel
theorem zd_M_speedFor_0 : decode I_M_speedFor.2.1 0 = .ok (.aload_n 0, 1) := by decide +kernel
theorem zd_M_speedFor_1 : decode I_M_speedFor.2.1 1 = .ok (.getfield 53, 3) := by decide +kernel
theorem zd_M_speedFor_4 : decode I_M_speedFor.2.1 4 = .ok (.iconst 5, 1) := by decide +kernel
theorem zd_M_speedFor_5 : decode I_M_speedFor.2.1 5 = .ok (.iload_n 1, 1) := by decide +kernel
theorem zd_M_speedFor_6 : decode I_M_speedFor.2.1 6 = .ok (.imul, 1) := by decide +kernel
theorem zd_M_speedFor_7 : decode I_M_speedFor.2.1 7 = .ok (.aload_n 0, 1) := by decide +kernel
theorem zd_M_speedFor_8 : decode I_M_speedFor.2.1 8 = .ok (.getfield 62, 3) := by decide +kernel
theorem zd_M_speedFor_11 : decode I_M_speedFor.2.1 11 = .ok (.iload_n 2, 1) := by decide +kernel
theorem zd_M_speedFor_12 : decode I_M_speedFor.2.1 12 = .ok (.iaload, 1) := by decide +kernel
theorem zd_M_speedFor_13 : decode I_M_speedFor.2.1 13 = .ok (.iadd, 1) := by decide +kernel
theorem zd_M_speedFor_14 : decode I_M_speedFor.2.1 14 = .ok (.iaload, 1) := by decide +kernel
theorem zd_M_speedFor_15 : decode I_M_speedFor.2.1 15 = .ok (.ireturn, 1) := by decide +kernel
theorem zd_M_way_0 : decode I_M_way.2.1 0 = .ok (.aload_n 0, 1) := by decide +kernel
theorem zd_M_way_1 : decode I_M_way.2.1 1 = .ok (.getfield 16, 3) := by decide +kernel
theorem zd_M_way_4 : decode I_M_way.2.1 4 = .ok (.aload_n 0, 1) := by decide +kernel
theorem zd_M_way_5 : decode I_M_way.2.1 5 = .ok (.getfield 44, 3) := by decide +kernel
theorem zd_M_way_8 : decode I_M_way.2.1 8 = .ok (.iload_n 1, 1) := by decide +kernel
theorem zd_M_way_9 : decode I_M_way.2.1 9 = .ok (.iaload, 1) := by decide +kernel
theorem zd_M_way_10 : decode I_M_way.2.1 10 = .ok (.iaload, 1) := by decide +kernel
theorem zd_M_way_11 : decode I_M_way.2.1 11 = .ok (.aload_n 0, 1) := by decide +kernel
theorem zd_M_way_12 : decode I_M_way.2.1 12 = .ok (.getfield 56, 3) := by decide +kernel
theorem zd_M_way_15 : decode I_M_way.2.1 15 = .ok (.iload_n 2, 1) := by decide +kernel
theorem zd_M_way_16 : decode I_M_way.2.1 16 = .ok (.iaload, 1) := by decide +kernel
theorem zd_M_way_17 : decode I_M_way.2.1 17 = .ok (.isub, 1) := by decide +kernel
theorem zd_M_way_18 : decode I_M_way.2.1 18 = .ok (.invokestatic 177, 3) := by decide +kernel
theorem zd_M_way_21 : decode I_M_way.2.1 21 = .ok (.aload_n 0, 1) := by decide +kernel
theorem zd_M_way_22 : decode I_M_way.2.1 22 = .ok (.getfield 59, 3) := by decide +kernel
theorem zd_M_way_25 : decode I_M_way.2.1 25 = .ok (.iload_n 2, 1) := by decide +kernel
theorem zd_M_way_26 : decode I_M_way.2.1 26 = .ok (.iaload, 1) := by decide +kernel
theorem zd_M_way_27 : decode I_M_way.2.1 27 = .ok (.iadd, 1) := by decide +kernel
theorem zd_M_way_28 : decode I_M_way.2.1 28 = .ok (.ireturn, 1) := by decide +kernel
theorem zd_M_size_0 : decode I_M_size.2.1 0 = .ok (.iload_n 0, 1) := by decide +kernel
theorem zd_M_size_1 : decode I_M_size.2.1 1 = .ok (.ifCond .ge 8, 3) := by decide +kernel
theorem zd_M_size_4 : decode I_M_size.2.1 4 = .ok (.iload_n 0, 1) := by decide +kernel
theorem zd_M_size_5 : decode I_M_size.2.1 5 = .ok (.ineg, 1) := by decide +kernel
theorem zd_M_size_6 : decode I_M_size.2.1 6 = .ok (.goto 4, 3) := by decide +kernel
theorem zd_M_size_9 : decode I_M_size.2.1 9 = .ok (.iload_n 0, 1) := by decide +kernel
theorem zd_M_size_10 : decode I_M_size.2.1 10 = .ok (.ireturn, 1) := by decide +kernel
theorem zd_M_up_0 : decode I_M_up.2.1 0 = .ok (.iload_n 0, 1) := by decide +kernel
theorem zd_M_up_1 : decode I_M_up.2.1 1 = .ok (.iload_n 1, 1) := by decide +kernel
theorem zd_M_up_2 : decode I_M_up.2.1 2 = .ok (.iadd, 1) := by decide +kernel
theorem zd_M_up_3 : decode I_M_up.2.1 3 = .ok (.iconst 1, 1) := by decide +kernel
theorem zd_M_up_4 : decode I_M_up.2.1 4 = .ok (.isub, 1) := by decide +kernel
theorem zd_M_up_5 : decode I_M_up.2.1 5 = .ok (.iload_n 1, 1) := by decide +kernel
theorem zd_M_up_6 : decode I_M_up.2.1 6 = .ok (.idiv, 1) := by decide +kernel
theorem zd_M_up_7 : decode I_M_up.2.1 7 = .ok (.ireturn, 1) := by decide +kernel
theorem zd_M_reached_0 : decode I_M_reached.2.1 0 = .ok (.aload_n 0, 1) := by decide +kernel
theorem zd_M_reached_1 : decode I_M_reached.2.1 1 = .ok (.iload_n 1, 1) := by decide +kernel
theorem zd_M_reached_2 : decode I_M_reached.2.1 2 = .ok (.iload_n 2, 1) := by decide +kernel
theorem zd_M_reached_3 : decode I_M_reached.2.1 3 = .ok (.invokevirtual 189, 3) := by decide +kernel
theorem zd_M_reached_6 : decode I_M_reached.2.1 6 = .ok (.ifCond .ne 6, 3) := by decide +kernel
theorem zd_M_reached_9 : decode I_M_reached.2.1 9 = .ok (.bipush (-9), 2) := by decide +kernel
theorem zd_M_reached_11 : decode I_M_reached.2.1 11 = .ok (.ireturn, 1) := by decide +kernel
theorem zd_M_reached_12 : decode I_M_reached.2.1 12 = .ok (.aload_n 0, 1) := by decide +kernel
theorem zd_M_reached_13 : decode I_M_reached.2.1 13 = .ok (.iload_n 1, 1) := by decide +kernel
theorem zd_M_reached_14 : decode I_M_reached.2.1 14 = .ok (.invokevirtual 192, 3) := by decide +kernel
theorem zd_M_reached_17 : decode I_M_reached.2.1 17 = .ok (.istore_n 3, 1) := by decide +kernel
theorem zd_M_reached_18 : decode I_M_reached.2.1 18 = .ok (.iload_n 3, 1) := by decide +kernel
theorem zd_M_reached_19 : decode I_M_reached.2.1 19 = .ok (.bipush (-9), 2) := by decide +kernel
theorem zd_M_reached_21 : decode I_M_reached.2.1 21 = .ok (.if_icmp .ne 8, 3) := by decide +kernel
theorem zd_M_reached_24 : decode I_M_reached.2.1 24 = .ok (.bipush (-9), 2) := by decide +kernel
theorem zd_M_reached_26 : decode I_M_reached.2.1 26 = .ok (.goto 23, 3) := by decide +kernel
theorem zd_M_reached_29 : decode I_M_reached.2.1 29 = .ok (.iload_n 3, 1) := by decide +kernel
theorem zd_M_reached_30 : decode I_M_reached.2.1 30 = .ok (.bipush 60, 2) := by decide +kernel
theorem zd_M_reached_32 : decode I_M_reached.2.1 32 = .ok (.aload_n 0, 1) := by decide +kernel
theorem zd_M_reached_33 : decode I_M_reached.2.1 33 = .ok (.iload_n 1, 1) := by decide +kernel
theorem zd_M_reached_34 : decode I_M_reached.2.1 34 = .ok (.iload_n 2, 1) := by decide +kernel
theorem zd_M_reached_35 : decode I_M_reached.2.1 35 = .ok (.invokevirtual 183, 3) := by decide +kernel
theorem zd_M_reached_38 : decode I_M_reached.2.1 38 = .ok (.imul, 1) := by decide +kernel
theorem zd_M_reached_39 : decode I_M_reached.2.1 39 = .ok (.aload_n 0, 1) := by decide +kernel
theorem zd_M_reached_40 : decode I_M_reached.2.1 40 = .ok (.iload_n 1, 1) := by decide +kernel
theorem zd_M_reached_41 : decode I_M_reached.2.1 41 = .ok (.iload_n 2, 1) := by decide +kernel
theorem zd_M_reached_42 : decode I_M_reached.2.1 42 = .ok (.invokevirtual 180, 3) := by decide +kernel
theorem zd_M_reached_45 : decode I_M_reached.2.1 45 = .ok (.invokestatic 186, 3) := by decide +kernel
theorem zd_M_reached_48 : decode I_M_reached.2.1 48 = .ok (.iadd, 1) := by decide +kernel
theorem zd_M_reached_49 : decode I_M_reached.2.1 49 = .ok (.ireturn, 1) := by decide +kernel
theorem zd_M_launch_0 : decode I_M_launch.2.1 0 = .ok (.aload_n 0, 1) := by decide +kernel
theorem zd_M_launch_1 : decode I_M_launch.2.1 1 = .ok (.iload_n 1, 1) := by decide +kernel
theorem zd_M_launch_2 : decode I_M_launch.2.1 2 = .ok (.invokevirtual 174, 3) := by decide +kernel
theorem zd_M_launch_5 : decode I_M_launch.2.1 5 = .ok (.ifCond .eq 12, 3) := by decide +kernel
theorem zd_M_launch_8 : decode I_M_launch.2.1 8 = .ok (.aload_n 0, 1) := by decide +kernel
theorem zd_M_launch_9 : decode I_M_launch.2.1 9 = .ok (.getfield 50, 3) := by decide +kernel
theorem zd_M_launch_12 : decode I_M_launch.2.1 12 = .ok (.iload_n 1, 1) := by decide +kernel
theorem zd_M_launch_13 : decode I_M_launch.2.1 13 = .ok (.iaload, 1) := by decide +kernel
theorem zd_M_launch_14 : decode I_M_launch.2.1 14 = .ok (.goto 7, 3) := by decide +kernel
theorem zd_M_launch_17 : decode I_M_launch.2.1 17 = .ok (.aload_n 0, 1) := by decide +kernel
theorem zd_M_launch_18 : decode I_M_launch.2.1 18 = .ok (.getfield 119, 3) := by decide +kernel
theorem zd_M_launch_21 : decode I_M_launch.2.1 21 = .ok (.aload_n 0, 1) := by decide +kernel
theorem zd_M_launch_22 : decode I_M_launch.2.1 22 = .ok (.getfield 13, 3) := by decide +kernel
theorem zd_M_launch_25 : decode I_M_launch.2.1 25 = .ok (.iadd, 1) := by decide +kernel
theorem zd_M_launch_26 : decode I_M_launch.2.1 26 = .ok (.istore_n 2, 1) := by decide +kernel
theorem zd_M_launch_27 : decode I_M_launch.2.1 27 = .ok (.iload_n 2, 1) := by decide +kernel
theorem zd_M_launch_28 : decode I_M_launch.2.1 28 = .ok (.bipush 60, 2) := by decide +kernel
theorem zd_M_launch_30 : decode I_M_launch.2.1 30 = .ok (.idiv, 1) := by decide +kernel
theorem zd_M_launch_31 : decode I_M_launch.2.1 31 = .ok (.istore_n 3, 1) := by decide +kernel
theorem zd_M_launch_32 : decode I_M_launch.2.1 32 = .ok (.aload_n 0, 1) := by decide +kernel
theorem zd_M_launch_33 : decode I_M_launch.2.1 33 = .ok (.aload_n 0, 1) := by decide +kernel
theorem zd_M_launch_34 : decode I_M_launch.2.1 34 = .ok (.getfield 44, 3) := by decide +kernel
theorem zd_M_launch_37 : decode I_M_launch.2.1 37 = .ok (.iload_n 1, 1) := by decide +kernel
theorem zd_M_launch_38 : decode I_M_launch.2.1 38 = .ok (.iaload, 1) := by decide +kernel
theorem zd_M_launch_39 : decode I_M_launch.2.1 39 = .ok (.iload_n 3, 1) := by decide +kernel
theorem zd_M_launch_40 : decode I_M_launch.2.1 40 = .ok (.invokevirtual 166, 3) := by decide +kernel
theorem zd_M_launch_43 : decode I_M_launch.2.1 43 = .ok (.ifCond .eq 5, 3) := by decide +kernel
theorem zd_M_launch_46 : decode I_M_launch.2.1 46 = .ok (.iload_n 2, 1) := by decide +kernel
theorem zd_M_launch_47 : decode I_M_launch.2.1 47 = .ok (.ireturn, 1) := by decide +kernel
theorem zd_M_launch_48 : decode I_M_launch.2.1 48 = .ok (.iconst 1, 1) := by decide +kernel
theorem zd_M_launch_49 : decode I_M_launch.2.1 49 = .ok (.istore 4, 2) := by decide +kernel
theorem zd_M_launch_51 : decode I_M_launch.2.1 51 = .ok (.iload 4, 2) := by decide +kernel
theorem zd_M_launch_53 : decode I_M_launch.2.1 53 = .ok (.bipush 48, 2) := by decide +kernel
theorem zd_M_launch_55 : decode I_M_launch.2.1 55 = .ok (.if_icmp .gt 34, 3) := by decide +kernel
theorem zd_M_launch_58 : decode I_M_launch.2.1 58 = .ok (.aload_n 0, 1) := by decide +kernel
theorem zd_M_launch_59 : decode I_M_launch.2.1 59 = .ok (.aload_n 0, 1) := by decide +kernel
theorem zd_M_launch_60 : decode I_M_launch.2.1 60 = .ok (.getfield 44, 3) := by decide +kernel
theorem zd_M_launch_63 : decode I_M_launch.2.1 63 = .ok (.iload_n 1, 1) := by decide +kernel
theorem zd_M_launch_64 : decode I_M_launch.2.1 64 = .ok (.iaload, 1) := by decide +kernel
theorem zd_M_launch_65 : decode I_M_launch.2.1 65 = .ok (.iload_n 3, 1) := by decide +kernel
theorem zd_M_launch_66 : decode I_M_launch.2.1 66 = .ok (.iload 4, 2) := by decide +kernel
theorem zd_M_launch_68 : decode I_M_launch.2.1 68 = .ok (.iadd, 1) := by decide +kernel
theorem zd_M_launch_69 : decode I_M_launch.2.1 69 = .ok (.invokevirtual 166, 3) := by decide +kernel
theorem zd_M_launch_72 : decode I_M_launch.2.1 72 = .ok (.ifCond .eq 11, 3) := by decide +kernel
theorem zd_M_launch_75 : decode I_M_launch.2.1 75 = .ok (.bipush 60, 2) := by decide +kernel
theorem zd_M_launch_77 : decode I_M_launch.2.1 77 = .ok (.iload_n 3, 1) := by decide +kernel
theorem zd_M_launch_78 : decode I_M_launch.2.1 78 = .ok (.iload 4, 2) := by decide +kernel
theorem zd_M_launch_80 : decode I_M_launch.2.1 80 = .ok (.iadd, 1) := by decide +kernel
theorem zd_M_launch_81 : decode I_M_launch.2.1 81 = .ok (.imul, 1) := by decide +kernel
theorem zd_M_launch_82 : decode I_M_launch.2.1 82 = .ok (.ireturn, 1) := by decide +kernel
theorem zd_M_launch_83 : decode I_M_launch.2.1 83 = .ok (.iinc 4 1, 3) := by decide +kernel
theorem zd_M_launch_86 : decode I_M_launch.2.1 86 = .ok (.goto (-35), 3) := by decide +kernel
theorem zd_M_launch_89 : decode I_M_launch.2.1 89 = .ok (.bipush (-9), 2) := by decide +kernel
theorem zd_M_launch_91 : decode I_M_launch.2.1 91 = .ok (.ireturn, 1) := by decide +kernel
theorem zd_M_first_0 : decode I_M_first.2.1 0 = .ok (.aload_n 0, 1) := by decide +kernel
theorem zd_M_first_1 : decode I_M_first.2.1 1 = .ok (.iload_n 1, 1) := by decide +kernel
theorem zd_M_first_2 : decode I_M_first.2.1 2 = .ok (.invokevirtual 195, 3) := by decide +kernel
theorem zd_M_first_5 : decode I_M_first.2.1 5 = .ok (.ifCond .ne 9, 3) := by decide +kernel
theorem zd_M_first_8 : decode I_M_first.2.1 8 = .ok (.aload_n 0, 1) := by decide +kernel
theorem zd_M_first_9 : decode I_M_first.2.1 9 = .ok (.iconst (-1), 1) := by decide +kernel
theorem zd_M_first_10 : decode I_M_first.2.1 10 = .ok (.invokevirtual 133, 3) := by decide +kernel
theorem zd_M_first_13 : decode I_M_first.2.1 13 = .ok (.ireturn, 1) := by decide +kernel
theorem zd_M_first_14 : decode I_M_first.2.1 14 = .ok (.bipush (-9), 2) := by decide +kernel
theorem zd_M_first_16 : decode I_M_first.2.1 16 = .ok (.istore_n 2, 1) := by decide +kernel
theorem zd_M_first_17 : decode I_M_first.2.1 17 = .ok (.iconst 0, 1) := by decide +kernel
theorem zd_M_first_18 : decode I_M_first.2.1 18 = .ok (.istore_n 3, 1) := by decide +kernel
theorem zd_M_first_19 : decode I_M_first.2.1 19 = .ok (.iload_n 3, 1) := by decide +kernel
theorem zd_M_first_20 : decode I_M_first.2.1 20 = .ok (.aload_n 0, 1) := by decide +kernel
theorem zd_M_first_21 : decode I_M_first.2.1 21 = .ok (.getfield 113, 3) := by decide +kernel
theorem zd_M_first_24 : decode I_M_first.2.1 24 = .ok (.if_icmp .ge 43, 3) := by decide +kernel
theorem zd_M_first_27 : decode I_M_first.2.1 27 = .ok (.aload_n 0, 1) := by decide +kernel
theorem zd_M_first_28 : decode I_M_first.2.1 28 = .ok (.iload_n 3, 1) := by decide +kernel
theorem zd_M_first_29 : decode I_M_first.2.1 29 = .ok (.iload_n 1, 1) := by decide +kernel
theorem zd_M_first_30 : decode I_M_first.2.1 30 = .ok (.invokevirtual 198, 3) := by decide +kernel
theorem zd_M_first_33 : decode I_M_first.2.1 33 = .ok (.istore 4, 2) := by decide +kernel
theorem zd_M_first_35 : decode I_M_first.2.1 35 = .ok (.iload 4, 2) := by decide +kernel
theorem zd_M_first_37 : decode I_M_first.2.1 37 = .ok (.bipush (-9), 2) := by decide +kernel
theorem zd_M_first_39 : decode I_M_first.2.1 39 = .ok (.if_icmp .eq 22, 3) := by decide +kernel
theorem zd_M_first_42 : decode I_M_first.2.1 42 = .ok (.iload_n 2, 1) := by decide +kernel
theorem zd_M_first_43 : decode I_M_first.2.1 43 = .ok (.bipush (-9), 2) := by decide +kernel
theorem zd_M_first_45 : decode I_M_first.2.1 45 = .ok (.if_icmp .eq 14, 3) := by decide +kernel
theorem zd_M_first_48 : decode I_M_first.2.1 48 = .ok (.iload 4, 2) := by decide +kernel
theorem zd_M_first_50 : decode I_M_first.2.1 50 = .ok (.aload_n 0, 1) := by decide +kernel
theorem zd_M_first_51 : decode I_M_first.2.1 51 = .ok (.iload_n 2, 1) := by decide +kernel
theorem zd_M_first_52 : decode I_M_first.2.1 52 = .ok (.iload_n 1, 1) := by decide +kernel
theorem zd_M_first_53 : decode I_M_first.2.1 53 = .ok (.invokevirtual 198, 3) := by decide +kernel
theorem zd_M_first_56 : decode I_M_first.2.1 56 = .ok (.if_icmp .ge 5, 3) := by decide +kernel
theorem zd_M_first_59 : decode I_M_first.2.1 59 = .ok (.iload_n 3, 1) := by decide +kernel
theorem zd_M_first_60 : decode I_M_first.2.1 60 = .ok (.istore_n 2, 1) := by decide +kernel
theorem zd_M_first_61 : decode I_M_first.2.1 61 = .ok (.iinc 3 1, 3) := by decide +kernel
theorem zd_M_first_64 : decode I_M_first.2.1 64 = .ok (.goto (-45), 3) := by decide +kernel
theorem zd_M_first_67 : decode I_M_first.2.1 67 = .ok (.iload_n 2, 1) := by decide +kernel
theorem zd_M_first_68 : decode I_M_first.2.1 68 = .ok (.ireturn, 1) := by decide +kernel
theorem zd_M_two_0 : decode I_M_two.2.1 0 = .ok (.aload_n 0, 1) := by decide +kernel
theorem zd_M_two_1 : decode I_M_two.2.1 1 = .ok (.iload_n 1, 1) := by decide +kernel
theorem zd_M_two_2 : decode I_M_two.2.1 2 = .ok (.invokevirtual 195, 3) := by decide +kernel
theorem zd_M_two_5 : decode I_M_two.2.1 5 = .ok (.ifCond .eq 16, 3) := by decide +kernel
theorem zd_M_two_8 : decode I_M_two.2.1 8 = .ok (.aload_n 0, 1) := by decide +kernel
theorem zd_M_two_9 : decode I_M_two.2.1 9 = .ok (.iload_n 2, 1) := by decide +kernel
theorem zd_M_two_10 : decode I_M_two.2.1 10 = .ok (.invokevirtual 195, 3) := by decide +kernel
theorem zd_M_two_13 : decode I_M_two.2.1 13 = .ok (.ifCond .eq 8, 3) := by decide +kernel
theorem zd_M_two_16 : decode I_M_two.2.1 16 = .ok (.iload_n 1, 1) := by decide +kernel
theorem zd_M_two_17 : decode I_M_two.2.1 17 = .ok (.iload_n 2, 1) := by decide +kernel
theorem zd_M_two_18 : decode I_M_two.2.1 18 = .ok (.if_icmp .ne 9, 3) := by decide +kernel
theorem zd_M_two_21 : decode I_M_two.2.1 21 = .ok (.aload_n 0, 1) := by decide +kernel
theorem zd_M_two_22 : decode I_M_two.2.1 22 = .ok (.iconst (-1), 1) := by decide +kernel
theorem zd_M_two_23 : decode I_M_two.2.1 23 = .ok (.invokevirtual 133, 3) := by decide +kernel
theorem zd_M_two_26 : decode I_M_two.2.1 26 = .ok (.ireturn, 1) := by decide +kernel
theorem zd_M_two_27 : decode I_M_two.2.1 27 = .ok (.iload_n 3, 1) := by decide +kernel
theorem zd_M_two_28 : decode I_M_two.2.1 28 = .ok (.ifCond .lt 8, 3) := by decide +kernel
theorem zd_M_two_31 : decode I_M_two.2.1 31 = .ok (.iload_n 3, 1) := by decide +kernel
theorem zd_M_two_32 : decode I_M_two.2.1 32 = .ok (.iconst 2, 1) := by decide +kernel
theorem zd_M_two_33 : decode I_M_two.2.1 33 = .ok (.if_icmp .le 10, 3) := by decide +kernel
theorem zd_M_two_36 : decode I_M_two.2.1 36 = .ok (.aload_n 0, 1) := by decide +kernel
theorem zd_M_two_37 : decode I_M_two.2.1 37 = .ok (.bipush (-2), 2) := by decide +kernel
theorem zd_M_two_39 : decode I_M_two.2.1 39 = .ok (.invokevirtual 133, 3) := by decide +kernel
theorem zd_M_two_42 : decode I_M_two.2.1 42 = .ok (.ireturn, 1) := by decide +kernel
theorem zd_M_two_43 : decode I_M_two.2.1 43 = .ok (.bipush (-9), 2) := by decide +kernel
theorem zd_M_two_45 : decode I_M_two.2.1 45 = .ok (.istore 4, 2) := by decide +kernel
theorem zd_M_two_47 : decode I_M_two.2.1 47 = .ok (.iconst 0, 1) := by decide +kernel
theorem zd_M_two_48 : decode I_M_two.2.1 48 = .ok (.istore 5, 2) := by decide +kernel
theorem zd_M_two_50 : decode I_M_two.2.1 50 = .ok (.bipush (-9), 2) := by decide +kernel
theorem zd_M_two_52 : decode I_M_two.2.1 52 = .ok (.istore 6, 2) := by decide +kernel
theorem zd_M_two_54 : decode I_M_two.2.1 54 = .ok (.bipush (-9), 2) := by decide +kernel
theorem zd_M_two_56 : decode I_M_two.2.1 56 = .ok (.istore 7, 2) := by decide +kernel
theorem zd_M_two_58 : decode I_M_two.2.1 58 = .ok (.iconst 0, 1) := by decide +kernel
theorem zd_M_two_59 : decode I_M_two.2.1 59 = .ok (.istore 8, 2) := by decide +kernel
theorem zd_M_two_61 : decode I_M_two.2.1 61 = .ok (.iload 8, 2) := by decide +kernel
theorem zd_M_two_63 : decode I_M_two.2.1 63 = .ok (.aload_n 0, 1) := by decide +kernel
theorem zd_M_two_64 : decode I_M_two.2.1 64 = .ok (.getfield 113, 3) := by decide +kernel
theorem zd_M_two_67 : decode I_M_two.2.1 67 = .ok (.if_icmp .ge 155, 3) := by decide +kernel
theorem zd_M_two_70 : decode I_M_two.2.1 70 = .ok (.iconst 0, 1) := by decide +kernel
theorem zd_M_two_71 : decode I_M_two.2.1 71 = .ok (.istore 9, 2) := by decide +kernel
theorem zd_M_two_73 : decode I_M_two.2.1 73 = .ok (.iload 9, 2) := by decide +kernel
theorem zd_M_two_75 : decode I_M_two.2.1 75 = .ok (.aload_n 0, 1) := by decide +kernel
theorem zd_M_two_76 : decode I_M_two.2.1 76 = .ok (.getfield 113, 3) := by decide +kernel
theorem zd_M_two_79 : decode I_M_two.2.1 79 = .ok (.if_icmp .ge 137, 3) := by decide +kernel
theorem zd_M_two_82 : decode I_M_two.2.1 82 = .ok (.iload 8, 2) := by decide +kernel
theorem zd_M_two_84 : decode I_M_two.2.1 84 = .ok (.iload 9, 2) := by decide +kernel
theorem zd_M_two_86 : decode I_M_two.2.1 86 = .ok (.if_icmp .ne 8, 3) := by decide +kernel
theorem zd_M_two_89 : decode I_M_two.2.1 89 = .ok (.bipush (-9), 2) := by decide +kernel
theorem zd_M_two_91 : decode I_M_two.2.1 91 = .ok (.goto 10, 3) := by decide +kernel
theorem zd_M_two_94 : decode I_M_two.2.1 94 = .ok (.aload_n 0, 1) := by decide +kernel
theorem zd_M_two_95 : decode I_M_two.2.1 95 = .ok (.iload 8, 2) := by decide +kernel
theorem zd_M_two_97 : decode I_M_two.2.1 97 = .ok (.iload_n 1, 1) := by decide +kernel
theorem zd_M_two_98 : decode I_M_two.2.1 98 = .ok (.invokevirtual 198, 3) := by decide +kernel
theorem zd_M_two_101 : decode I_M_two.2.1 101 = .ok (.istore 10, 2) := by decide +kernel
theorem zd_M_two_103 : decode I_M_two.2.1 103 = .ok (.iload 8, 2) := by decide +kernel
theorem zd_M_two_105 : decode I_M_two.2.1 105 = .ok (.iload 9, 2) := by decide +kernel
theorem zd_M_two_107 : decode I_M_two.2.1 107 = .ok (.if_icmp .ne 8, 3) := by decide +kernel
theorem zd_M_two_110 : decode I_M_two.2.1 110 = .ok (.bipush (-9), 2) := by decide +kernel
theorem zd_M_two_112 : decode I_M_two.2.1 112 = .ok (.goto 10, 3) := by decide +kernel
theorem zd_M_two_115 : decode I_M_two.2.1 115 = .ok (.aload_n 0, 1) := by decide +kernel
theorem zd_M_two_116 : decode I_M_two.2.1 116 = .ok (.iload 9, 2) := by decide +kernel
theorem zd_M_two_118 : decode I_M_two.2.1 118 = .ok (.iload_n 2, 1) := by decide +kernel
theorem zd_M_two_119 : decode I_M_two.2.1 119 = .ok (.invokevirtual 198, 3) := by decide +kernel
theorem zd_M_two_122 : decode I_M_two.2.1 122 = .ok (.istore 11, 2) := by decide +kernel
theorem zd_M_two_124 : decode I_M_two.2.1 124 = .ok (.iload 10, 2) := by decide +kernel
theorem zd_M_two_126 : decode I_M_two.2.1 126 = .ok (.bipush (-9), 2) := by decide +kernel
theorem zd_M_two_128 : decode I_M_two.2.1 128 = .ok (.if_icmp .eq 82, 3) := by decide +kernel
theorem zd_M_two_131 : decode I_M_two.2.1 131 = .ok (.iload 11, 2) := by decide +kernel
theorem zd_M_two_133 : decode I_M_two.2.1 133 = .ok (.bipush (-9), 2) := by decide +kernel
theorem zd_M_two_135 : decode I_M_two.2.1 135 = .ok (.if_icmp .ne 6, 3) := by decide +kernel
theorem zd_M_two_138 : decode I_M_two.2.1 138 = .ok (.goto 72, 3) := by decide +kernel
theorem zd_M_two_141 : decode I_M_two.2.1 141 = .ok (.iload 10, 2) := by decide +kernel
theorem zd_M_two_143 : decode I_M_two.2.1 143 = .ok (.iload 11, 2) := by decide +kernel
theorem zd_M_two_145 : decode I_M_two.2.1 145 = .ok (.if_icmp .le 8, 3) := by decide +kernel
theorem zd_M_two_148 : decode I_M_two.2.1 148 = .ok (.iload 10, 2) := by decide +kernel
theorem zd_M_two_150 : decode I_M_two.2.1 150 = .ok (.goto 5, 3) := by decide +kernel
theorem zd_M_two_153 : decode I_M_two.2.1 153 = .ok (.iload 11, 2) := by decide +kernel
theorem zd_M_two_155 : decode I_M_two.2.1 155 = .ok (.istore 12, 2) := by decide +kernel
theorem zd_M_two_157 : decode I_M_two.2.1 157 = .ok (.iload 4, 2) := by decide +kernel
theorem zd_M_two_159 : decode I_M_two.2.1 159 = .ok (.bipush (-9), 2) := by decide +kernel
theorem zd_M_two_161 : decode I_M_two.2.1 161 = .ok (.if_icmp .eq 30, 3) := by decide +kernel
theorem zd_M_two_164 : decode I_M_two.2.1 164 = .ok (.iload 12, 2) := by decide +kernel
theorem zd_M_two_166 : decode I_M_two.2.1 166 = .ok (.iload 4, 2) := by decide +kernel
theorem zd_M_two_168 : decode I_M_two.2.1 168 = .ok (.if_icmp .gt 42, 3) := by decide +kernel
theorem zd_M_two_171 : decode I_M_two.2.1 171 = .ok (.iload 12, 2) := by decide +kernel
theorem zd_M_two_173 : decode I_M_two.2.1 173 = .ok (.iload 4, 2) := by decide +kernel
theorem zd_M_two_175 : decode I_M_two.2.1 175 = .ok (.if_icmp .ne 16, 3) := by decide +kernel
theorem zd_M_two_178 : decode I_M_two.2.1 178 = .ok (.iload 10, 2) := by decide +kernel
theorem zd_M_two_180 : decode I_M_two.2.1 180 = .ok (.iload 11, 2) := by decide +kernel
theorem zd_M_two_182 : decode I_M_two.2.1 182 = .ok (.iadd, 1) := by decide +kernel
theorem zd_M_two_183 : decode I_M_two.2.1 183 = .ok (.iload 5, 2) := by decide +kernel
theorem zd_M_two_185 : decode I_M_two.2.1 185 = .ok (.if_icmp .lt 6, 3) := by decide +kernel
theorem zd_M_two_188 : decode I_M_two.2.1 188 = .ok (.goto 22, 3) := by decide +kernel
theorem zd_M_two_191 : decode I_M_two.2.1 191 = .ok (.iload 12, 2) := by decide +kernel
theorem zd_M_two_193 : decode I_M_two.2.1 193 = .ok (.istore 4, 2) := by decide +kernel
theorem zd_M_two_195 : decode I_M_two.2.1 195 = .ok (.iload 10, 2) := by decide +kernel
theorem zd_M_two_197 : decode I_M_two.2.1 197 = .ok (.iload 11, 2) := by decide +kernel
theorem zd_M_two_199 : decode I_M_two.2.1 199 = .ok (.iadd, 1) := by decide +kernel
theorem zd_M_two_200 : decode I_M_two.2.1 200 = .ok (.istore 5, 2) := by decide +kernel
theorem zd_M_two_202 : decode I_M_two.2.1 202 = .ok (.iload 8, 2) := by decide +kernel
theorem zd_M_two_204 : decode I_M_two.2.1 204 = .ok (.istore 6, 2) := by decide +kernel
theorem zd_M_two_206 : decode I_M_two.2.1 206 = .ok (.iload 9, 2) := by decide +kernel
theorem zd_M_two_208 : decode I_M_two.2.1 208 = .ok (.istore 7, 2) := by decide +kernel
theorem zd_M_two_210 : decode I_M_two.2.1 210 = .ok (.iinc 9 1, 3) := by decide +kernel
theorem zd_M_two_213 : decode I_M_two.2.1 213 = .ok (.goto (-140), 3) := by decide +kernel
theorem zd_M_two_216 : decode I_M_two.2.1 216 = .ok (.iinc 8 1, 3) := by decide +kernel
theorem zd_M_two_219 : decode I_M_two.2.1 219 = .ok (.goto (-158), 3) := by decide +kernel
theorem zd_M_two_222 : decode I_M_two.2.1 222 = .ok (.iload_n 3, 1) := by decide +kernel
theorem zd_M_two_223 : decode I_M_two.2.1 223 = .ok (.ifCond .ne 8, 3) := by decide +kernel
theorem zd_M_two_226 : decode I_M_two.2.1 226 = .ok (.iload 4, 2) := by decide +kernel
theorem zd_M_two_228 : decode I_M_two.2.1 228 = .ok (.goto 15, 3) := by decide +kernel
theorem zd_M_two_231 : decode I_M_two.2.1 231 = .ok (.iload_n 3, 1) := by decide +kernel
theorem zd_M_two_232 : decode I_M_two.2.1 232 = .ok (.iconst 1, 1) := by decide +kernel
theorem zd_M_two_233 : decode I_M_two.2.1 233 = .ok (.if_icmp .ne 8, 3) := by decide +kernel
theorem zd_M_two_236 : decode I_M_two.2.1 236 = .ok (.iload 6, 2) := by decide +kernel
theorem zd_M_two_238 : decode I_M_two.2.1 238 = .ok (.goto 5, 3) := by decide +kernel
theorem zd_M_two_241 : decode I_M_two.2.1 241 = .ok (.iload 7, 2) := by decide +kernel
theorem zd_M_two_243 : decode I_M_two.2.1 243 = .ok (.ireturn, 1) := by decide +kernel
theorem zd_M_send_0 : decode I_M_send.2.1 0 = .ok (.aload_n 0, 1) := by decide +kernel
theorem zd_M_send_1 : decode I_M_send.2.1 1 = .ok (.iload_n 1, 1) := by decide +kernel
theorem zd_M_send_2 : decode I_M_send.2.1 2 = .ok (.invokevirtual 171, 3) := by decide +kernel
theorem zd_M_send_5 : decode I_M_send.2.1 5 = .ok (.ifCond .eq 11, 3) := by decide +kernel
theorem zd_M_send_8 : decode I_M_send.2.1 8 = .ok (.aload_n 0, 1) := by decide +kernel
theorem zd_M_send_9 : decode I_M_send.2.1 9 = .ok (.iload_n 2, 1) := by decide +kernel
theorem zd_M_send_10 : decode I_M_send.2.1 10 = .ok (.invokevirtual 195, 3) := by decide +kernel
theorem zd_M_send_13 : decode I_M_send.2.1 13 = .ok (.ifCond .ne 9, 3) := by decide +kernel
theorem zd_M_send_16 : decode I_M_send.2.1 16 = .ok (.aload_n 0, 1) := by decide +kernel
theorem zd_M_send_17 : decode I_M_send.2.1 17 = .ok (.iconst (-1), 1) := by decide +kernel
theorem zd_M_send_18 : decode I_M_send.2.1 18 = .ok (.invokevirtual 133, 3) := by decide +kernel
theorem zd_M_send_21 : decode I_M_send.2.1 21 = .ok (.ireturn, 1) := by decide +kernel
theorem zd_M_send_22 : decode I_M_send.2.1 22 = .ok (.aload_n 0, 1) := by decide +kernel
theorem zd_M_send_23 : decode I_M_send.2.1 23 = .ok (.iload_n 1, 1) := by decide +kernel
theorem zd_M_send_24 : decode I_M_send.2.1 24 = .ok (.iload_n 2, 1) := by decide +kernel
theorem zd_M_send_25 : decode I_M_send.2.1 25 = .ok (.invokevirtual 198, 3) := by decide +kernel
theorem zd_M_send_28 : decode I_M_send.2.1 28 = .ok (.istore 5, 2) := by decide +kernel
theorem zd_M_send_30 : decode I_M_send.2.1 30 = .ok (.iload 5, 2) := by decide +kernel
theorem zd_M_send_32 : decode I_M_send.2.1 32 = .ok (.bipush (-9), 2) := by decide +kernel
theorem zd_M_send_34 : decode I_M_send.2.1 34 = .ok (.if_icmp .eq 11, 3) := by decide +kernel
theorem zd_M_send_37 : decode I_M_send.2.1 37 = .ok (.aload_n 0, 1) := by decide +kernel
theorem zd_M_send_38 : decode I_M_send.2.1 38 = .ok (.iload_n 1, 1) := by decide +kernel
theorem zd_M_send_39 : decode I_M_send.2.1 39 = .ok (.invokevirtual 174, 3) := by decide +kernel
theorem zd_M_send_42 : decode I_M_send.2.1 42 = .ok (.ifCond .eq 10, 3) := by decide +kernel
theorem zd_M_send_45 : decode I_M_send.2.1 45 = .ok (.aload_n 0, 1) := by decide +kernel
theorem zd_M_send_46 : decode I_M_send.2.1 46 = .ok (.bipush (-3), 2) := by decide +kernel
theorem zd_M_send_48 : decode I_M_send.2.1 48 = .ok (.invokevirtual 133, 3) := by decide +kernel
theorem zd_M_send_51 : decode I_M_send.2.1 51 = .ok (.ireturn, 1) := by decide +kernel
theorem zd_M_send_52 : decode I_M_send.2.1 52 = .ok (.iload_n 3, 1) := by decide +kernel
theorem zd_M_send_53 : decode I_M_send.2.1 53 = .ok (.ifCond .ge 10, 3) := by decide +kernel
theorem zd_M_send_56 : decode I_M_send.2.1 56 = .ok (.aload_n 0, 1) := by decide +kernel
theorem zd_M_send_57 : decode I_M_send.2.1 57 = .ok (.bipush (-4), 2) := by decide +kernel
theorem zd_M_send_59 : decode I_M_send.2.1 59 = .ok (.invokevirtual 133, 3) := by decide +kernel
theorem zd_M_send_62 : decode I_M_send.2.1 62 = .ok (.ireturn, 1) := by decide +kernel
theorem zd_M_send_63 : decode I_M_send.2.1 63 = .ok (.iload_n 3, 1) := by decide +kernel
theorem zd_M_send_64 : decode I_M_send.2.1 64 = .ok (.sipush 600, 3) := by decide +kernel
theorem zd_M_send_67 : decode I_M_send.2.1 67 = .ok (.if_icmp .gt 12, 3) := by decide +kernel
theorem zd_M_send_70 : decode I_M_send.2.1 70 = .ok (.aload_n 0, 1) := by decide +kernel
theorem zd_M_send_71 : decode I_M_send.2.1 71 = .ok (.getfield 201, 3) := by decide +kernel
theorem zd_M_send_74 : decode I_M_send.2.1 74 = .ok (.bipush 40, 2) := by decide +kernel
theorem zd_M_send_76 : decode I_M_send.2.1 76 = .ok (.if_icmp .ne 10, 3) := by decide +kernel
theorem zd_M_send_79 : decode I_M_send.2.1 79 = .ok (.aload_n 0, 1) := by decide +kernel
theorem zd_M_send_80 : decode I_M_send.2.1 80 = .ok (.bipush (-6), 2) := by decide +kernel
theorem zd_M_send_82 : decode I_M_send.2.1 82 = .ok (.invokevirtual 133, 3) := by decide +kernel
theorem zd_M_send_85 : decode I_M_send.2.1 85 = .ok (.ireturn, 1) := by decide +kernel
theorem zd_M_send_86 : decode I_M_send.2.1 86 = .ok (.aload_n 0, 1) := by decide +kernel
theorem zd_M_send_87 : decode I_M_send.2.1 87 = .ok (.iload_n 1, 1) := by decide +kernel
theorem zd_M_send_88 : decode I_M_send.2.1 88 = .ok (.iload_n 2, 1) := by decide +kernel
theorem zd_M_send_89 : decode I_M_send.2.1 89 = .ok (.invokevirtual 180, 3) := by decide +kernel
theorem zd_M_send_92 : decode I_M_send.2.1 92 = .ok (.istore 6, 2) := by decide +kernel
theorem zd_M_send_94 : decode I_M_send.2.1 94 = .ok (.iload 4, 2) := by decide +kernel
theorem zd_M_send_96 : decode I_M_send.2.1 96 = .ok (.ifCond .eq 21, 3) := by decide +kernel
theorem zd_M_send_99 : decode I_M_send.2.1 99 = .ok (.iload 6, 2) := by decide +kernel
theorem zd_M_send_101 : decode I_M_send.2.1 101 = .ok (.iconst 2, 1) := by decide +kernel
theorem zd_M_send_102 : decode I_M_send.2.1 102 = .ok (.idiv, 1) := by decide +kernel
theorem zd_M_send_103 : decode I_M_send.2.1 103 = .ok (.iconst 1, 1) := by decide +kernel
theorem zd_M_send_104 : decode I_M_send.2.1 104 = .ok (.if_icmp .ge 7, 3) := by decide +kernel
theorem zd_M_send_107 : decode I_M_send.2.1 107 = .ok (.iconst 1, 1) := by decide +kernel
theorem zd_M_send_108 : decode I_M_send.2.1 108 = .ok (.goto 7, 3) := by decide +kernel
theorem zd_M_send_111 : decode I_M_send.2.1 111 = .ok (.iload 6, 2) := by decide +kernel
theorem zd_M_send_113 : decode I_M_send.2.1 113 = .ok (.iconst 2, 1) := by decide +kernel
theorem zd_M_send_114 : decode I_M_send.2.1 114 = .ok (.idiv, 1) := by decide +kernel
theorem zd_M_send_115 : decode I_M_send.2.1 115 = .ok (.istore 6, 2) := by decide +kernel
theorem zd_M_send_117 : decode I_M_send.2.1 117 = .ok (.iload 5, 2) := by decide +kernel
theorem zd_M_send_119 : decode I_M_send.2.1 119 = .ok (.iload_n 3, 1) := by decide +kernel
theorem zd_M_send_120 : decode I_M_send.2.1 120 = .ok (.iadd, 1) := by decide +kernel
theorem zd_M_send_121 : decode I_M_send.2.1 121 = .ok (.bipush 60, 2) := by decide +kernel
theorem zd_M_send_123 : decode I_M_send.2.1 123 = .ok (.aload_n 0, 1) := by decide +kernel
theorem zd_M_send_124 : decode I_M_send.2.1 124 = .ok (.iload_n 1, 1) := by decide +kernel
theorem zd_M_send_125 : decode I_M_send.2.1 125 = .ok (.iload_n 2, 1) := by decide +kernel
theorem zd_M_send_126 : decode I_M_send.2.1 126 = .ok (.invokevirtual 183, 3) := by decide +kernel
theorem zd_M_send_129 : decode I_M_send.2.1 129 = .ok (.imul, 1) := by decide +kernel
theorem zd_M_send_130 : decode I_M_send.2.1 130 = .ok (.iload 6, 2) := by decide +kernel
theorem zd_M_send_132 : decode I_M_send.2.1 132 = .ok (.invokestatic 186, 3) := by decide +kernel
theorem zd_M_send_135 : decode I_M_send.2.1 135 = .ok (.iadd, 1) := by decide +kernel
theorem zd_M_send_136 : decode I_M_send.2.1 136 = .ok (.istore 7, 2) := by decide +kernel
theorem zd_M_send_138 : decode I_M_send.2.1 138 = .ok (.aload_n 0, 1) := by decide +kernel
theorem zd_M_send_139 : decode I_M_send.2.1 139 = .ok (.getfield 65, 3) := by decide +kernel
theorem zd_M_send_142 : decode I_M_send.2.1 142 = .ok (.aload_n 0, 1) := by decide +kernel
theorem zd_M_send_143 : decode I_M_send.2.1 143 = .ok (.getfield 201, 3) := by decide +kernel
theorem zd_M_send_146 : decode I_M_send.2.1 146 = .ok (.iload_n 1, 1) := by decide +kernel
theorem zd_M_send_147 : decode I_M_send.2.1 147 = .ok (.iastore, 1) := by decide +kernel
theorem zd_M_send_148 : decode I_M_send.2.1 148 = .ok (.aload_n 0, 1) := by decide +kernel
theorem zd_M_send_149 : decode I_M_send.2.1 149 = .ok (.getfield 68, 3) := by decide +kernel
theorem zd_M_send_152 : decode I_M_send.2.1 152 = .ok (.aload_n 0, 1) := by decide +kernel
theorem zd_M_send_153 : decode I_M_send.2.1 153 = .ok (.getfield 201, 3) := by decide +kernel
theorem zd_M_send_156 : decode I_M_send.2.1 156 = .ok (.iload_n 2, 1) := by decide +kernel
theorem zd_M_send_157 : decode I_M_send.2.1 157 = .ok (.iastore, 1) := by decide +kernel
theorem zd_M_send_158 : decode I_M_send.2.1 158 = .ok (.aload_n 0, 1) := by decide +kernel
theorem zd_M_send_159 : decode I_M_send.2.1 159 = .ok (.getfield 71, 3) := by decide +kernel
theorem zd_M_send_162 : decode I_M_send.2.1 162 = .ok (.aload_n 0, 1) := by decide +kernel
theorem zd_M_send_163 : decode I_M_send.2.1 163 = .ok (.getfield 201, 3) := by decide +kernel
theorem zd_M_send_166 : decode I_M_send.2.1 166 = .ok (.aload_n 0, 1) := by decide +kernel
theorem zd_M_send_167 : decode I_M_send.2.1 167 = .ok (.iload_n 1, 1) := by decide +kernel
theorem zd_M_send_168 : decode I_M_send.2.1 168 = .ok (.invokevirtual 192, 3) := by decide +kernel
theorem zd_M_send_171 : decode I_M_send.2.1 171 = .ok (.iastore, 1) := by decide +kernel
theorem zd_M_send_172 : decode I_M_send.2.1 172 = .ok (.aload_n 0, 1) := by decide +kernel
theorem zd_M_send_173 : decode I_M_send.2.1 173 = .ok (.getfield 74, 3) := by decide +kernel
theorem zd_M_send_176 : decode I_M_send.2.1 176 = .ok (.aload_n 0, 1) := by decide +kernel
theorem zd_M_send_177 : decode I_M_send.2.1 177 = .ok (.getfield 201, 3) := by decide +kernel
theorem zd_M_send_180 : decode I_M_send.2.1 180 = .ok (.iload 5, 2) := by decide +kernel
theorem zd_M_send_182 : decode I_M_send.2.1 182 = .ok (.iastore, 1) := by decide +kernel
theorem zd_M_send_183 : decode I_M_send.2.1 183 = .ok (.aload_n 0, 1) := by decide +kernel
theorem zd_M_send_184 : decode I_M_send.2.1 184 = .ok (.getfield 77, 3) := by decide +kernel
theorem zd_M_send_187 : decode I_M_send.2.1 187 = .ok (.aload_n 0, 1) := by decide +kernel
theorem zd_M_send_188 : decode I_M_send.2.1 188 = .ok (.dup, 1) := by decide +kernel
theorem zd_M_send_189 : decode I_M_send.2.1 189 = .ok (.getfield 201, 3) := by decide +kernel
theorem zd_M_send_192 : decode I_M_send.2.1 192 = .ok (.dup_x1, 1) := by decide +kernel
theorem zd_M_send_193 : decode I_M_send.2.1 193 = .ok (.iconst 1, 1) := by decide +kernel
theorem zd_M_send_194 : decode I_M_send.2.1 194 = .ok (.iadd, 1) := by decide +kernel
theorem zd_M_send_195 : decode I_M_send.2.1 195 = .ok (.putfield 201, 3) := by decide +kernel
theorem zd_M_send_198 : decode I_M_send.2.1 198 = .ok (.iload 7, 2) := by decide +kernel
theorem zd_M_send_200 : decode I_M_send.2.1 200 = .ok (.iastore, 1) := by decide +kernel
theorem zd_M_send_201 : decode I_M_send.2.1 201 = .ok (.aload_n 0, 1) := by decide +kernel
theorem zd_M_send_202 : decode I_M_send.2.1 202 = .ok (.getfield 50, 3) := by decide +kernel
theorem zd_M_send_205 : decode I_M_send.2.1 205 = .ok (.iload_n 1, 1) := by decide +kernel
theorem zd_M_send_206 : decode I_M_send.2.1 206 = .ok (.iload 7, 2) := by decide +kernel
theorem zd_M_send_208 : decode I_M_send.2.1 208 = .ok (.iastore, 1) := by decide +kernel
theorem zd_M_send_209 : decode I_M_send.2.1 209 = .ok (.iload 7, 2) := by decide +kernel
theorem zd_M_send_211 : decode I_M_send.2.1 211 = .ok (.ireturn, 1) := by decide +kernel
theorem zd_M_log_0 : decode I_M_log.2.1 0 = .ok (.iload_n 2, 1) := by decide +kernel
theorem zd_M_log_1 : decode I_M_log.2.1 1 = .ok (.ifCond .lt 8, 3) := by decide +kernel
theorem zd_M_log_4 : decode I_M_log.2.1 4 = .ok (.iload_n 2, 1) := by decide +kernel
theorem zd_M_log_5 : decode I_M_log.2.1 5 = .ok (.iconst 4, 1) := by decide +kernel
theorem zd_M_log_6 : decode I_M_log.2.1 6 = .ok (.if_icmp .le 10, 3) := by decide +kernel
theorem zd_M_log_9 : decode I_M_log.2.1 9 = .ok (.aload_n 0, 1) := by decide +kernel
theorem zd_M_log_10 : decode I_M_log.2.1 10 = .ok (.bipush (-2), 2) := by decide +kernel
theorem zd_M_log_12 : decode I_M_log.2.1 12 = .ok (.invokevirtual 133, 3) := by decide +kernel
theorem zd_M_log_15 : decode I_M_log.2.1 15 = .ok (.ireturn, 1) := by decide +kernel
theorem zd_M_log_16 : decode I_M_log.2.1 16 = .ok (.iload_n 1, 1) := by decide +kernel
theorem zd_M_log_17 : decode I_M_log.2.1 17 = .ok (.ifCond .lt 11, 3) := by decide +kernel
theorem zd_M_log_20 : decode I_M_log.2.1 20 = .ok (.iload_n 1, 1) := by decide +kernel
theorem zd_M_log_21 : decode I_M_log.2.1 21 = .ok (.aload_n 0, 1) := by decide +kernel
theorem zd_M_log_22 : decode I_M_log.2.1 22 = .ok (.getfield 201, 3) := by decide +kernel
theorem zd_M_log_25 : decode I_M_log.2.1 25 = .ok (.if_icmp .lt 6, 3) := by decide +kernel
theorem zd_M_log_28 : decode I_M_log.2.1 28 = .ok (.bipush (-9), 2) := by decide +kernel
theorem zd_M_log_30 : decode I_M_log.2.1 30 = .ok (.ireturn, 1) := by decide +kernel
theorem zd_M_log_31 : decode I_M_log.2.1 31 = .ok (.iload_n 2, 1) := by decide +kernel
theorem zd_M_log_32 : decode I_M_log.2.1 32 = .ok (.ifCond .ne 12, 3) := by decide +kernel
theorem zd_M_log_35 : decode I_M_log.2.1 35 = .ok (.aload_n 0, 1) := by decide +kernel
theorem zd_M_log_36 : decode I_M_log.2.1 36 = .ok (.getfield 65, 3) := by decide +kernel
theorem zd_M_log_39 : decode I_M_log.2.1 39 = .ok (.iload_n 1, 1) := by decide +kernel
theorem zd_M_log_40 : decode I_M_log.2.1 40 = .ok (.iaload, 1) := by decide +kernel
theorem zd_M_log_41 : decode I_M_log.2.1 41 = .ok (.goto 51, 3) := by decide +kernel
theorem zd_M_log_44 : decode I_M_log.2.1 44 = .ok (.iload_n 2, 1) := by decide +kernel
theorem zd_M_log_45 : decode I_M_log.2.1 45 = .ok (.iconst 1, 1) := by decide +kernel
theorem zd_M_log_46 : decode I_M_log.2.1 46 = .ok (.if_icmp .ne 12, 3) := by decide +kernel
theorem zd_M_log_49 : decode I_M_log.2.1 49 = .ok (.aload_n 0, 1) := by decide +kernel
theorem zd_M_log_50 : decode I_M_log.2.1 50 = .ok (.getfield 68, 3) := by decide +kernel
theorem zd_M_log_53 : decode I_M_log.2.1 53 = .ok (.iload_n 1, 1) := by decide +kernel
theorem zd_M_log_54 : decode I_M_log.2.1 54 = .ok (.iaload, 1) := by decide +kernel
theorem zd_M_log_55 : decode I_M_log.2.1 55 = .ok (.goto 37, 3) := by decide +kernel
theorem zd_M_log_58 : decode I_M_log.2.1 58 = .ok (.iload_n 2, 1) := by decide +kernel
theorem zd_M_log_59 : decode I_M_log.2.1 59 = .ok (.iconst 2, 1) := by decide +kernel
theorem zd_M_log_60 : decode I_M_log.2.1 60 = .ok (.if_icmp .ne 12, 3) := by decide +kernel
theorem zd_M_log_63 : decode I_M_log.2.1 63 = .ok (.aload_n 0, 1) := by decide +kernel
theorem zd_M_log_64 : decode I_M_log.2.1 64 = .ok (.getfield 71, 3) := by decide +kernel
theorem zd_M_log_67 : decode I_M_log.2.1 67 = .ok (.iload_n 1, 1) := by decide +kernel
theorem zd_M_log_68 : decode I_M_log.2.1 68 = .ok (.iaload, 1) := by decide +kernel
theorem zd_M_log_69 : decode I_M_log.2.1 69 = .ok (.goto 23, 3) := by decide +kernel
theorem zd_M_log_72 : decode I_M_log.2.1 72 = .ok (.iload_n 2, 1) := by decide +kernel
theorem zd_M_log_73 : decode I_M_log.2.1 73 = .ok (.iconst 3, 1) := by decide +kernel
theorem zd_M_log_74 : decode I_M_log.2.1 74 = .ok (.if_icmp .ne 12, 3) := by decide +kernel
theorem zd_M_log_77 : decode I_M_log.2.1 77 = .ok (.aload_n 0, 1) := by decide +kernel
theorem zd_M_log_78 : decode I_M_log.2.1 78 = .ok (.getfield 74, 3) := by decide +kernel
theorem zd_M_log_81 : decode I_M_log.2.1 81 = .ok (.iload_n 1, 1) := by decide +kernel
theorem zd_M_log_82 : decode I_M_log.2.1 82 = .ok (.iaload, 1) := by decide +kernel
theorem zd_M_log_83 : decode I_M_log.2.1 83 = .ok (.goto 9, 3) := by decide +kernel
theorem zd_M_log_86 : decode I_M_log.2.1 86 = .ok (.aload_n 0, 1) := by decide +kernel
theorem zd_M_log_87 : decode I_M_log.2.1 87 = .ok (.getfield 77, 3) := by decide +kernel
theorem zd_M_log_90 : decode I_M_log.2.1 90 = .ok (.iload_n 1, 1) := by decide +kernel
theorem zd_M_log_91 : decode I_M_log.2.1 91 = .ok (.iaload, 1) := by decide +kernel
theorem zd_M_log_92 : decode I_M_log.2.1 92 = .ok (.ireturn, 1) := by decide +kernel
theorem zd_M_covered_0 : decode I_M_covered.2.1 0 = .ok (.iload_n 1, 1) := by decide +kernel
theorem zd_M_covered_1 : decode I_M_covered.2.1 1 = .ok (.invokestatic 129, 3) := by decide +kernel
theorem zd_M_covered_4 : decode I_M_covered.2.1 4 = .ok (.ifCond .eq 19, 3) := by decide +kernel
theorem zd_M_covered_7 : decode I_M_covered.2.1 7 = .ok (.aload_n 0, 1) := by decide +kernel
theorem zd_M_covered_8 : decode I_M_covered.2.1 8 = .ok (.iload_n 1, 1) := by decide +kernel
theorem zd_M_covered_9 : decode I_M_covered.2.1 9 = .ok (.invokevirtual 204, 3) := by decide +kernel
theorem zd_M_covered_12 : decode I_M_covered.2.1 12 = .ok (.ifCond .le 7, 3) := by decide +kernel
theorem zd_M_covered_15 : decode I_M_covered.2.1 15 = .ok (.iconst 1, 1) := by decide +kernel
theorem zd_M_covered_16 : decode I_M_covered.2.1 16 = .ok (.goto 12, 3) := by decide +kernel
theorem zd_M_covered_19 : decode I_M_covered.2.1 19 = .ok (.iconst 0, 1) := by decide +kernel
theorem zd_M_covered_20 : decode I_M_covered.2.1 20 = .ok (.goto 8, 3) := by decide +kernel
theorem zd_M_covered_23 : decode I_M_covered.2.1 23 = .ok (.aload_n 0, 1) := by decide +kernel
theorem zd_M_covered_24 : decode I_M_covered.2.1 24 = .ok (.iconst (-1), 1) := by decide +kernel
theorem zd_M_covered_25 : decode I_M_covered.2.1 25 = .ok (.invokevirtual 133, 3) := by decide +kernel
theorem zd_M_covered_28 : decode I_M_covered.2.1 28 = .ok (.ireturn, 1) := by decide +kernel
theorem zd_M_standing_0 : decode I_M_standing.2.1 0 = .ok (.iconst 0, 1) := by decide +kernel
theorem zd_M_standing_1 : decode I_M_standing.2.1 1 = .ok (.istore_n 2, 1) := by decide +kernel
theorem zd_M_standing_2 : decode I_M_standing.2.1 2 = .ok (.iconst 0, 1) := by decide +kernel
theorem zd_M_standing_3 : decode I_M_standing.2.1 3 = .ok (.istore_n 3, 1) := by decide +kernel
theorem zd_M_standing_4 : decode I_M_standing.2.1 4 = .ok (.iload_n 3, 1) := by decide +kernel
theorem zd_M_standing_5 : decode I_M_standing.2.1 5 = .ok (.aload_n 0, 1) := by decide +kernel
theorem zd_M_standing_6 : decode I_M_standing.2.1 6 = .ok (.getfield 113, 3) := by decide +kernel
theorem zd_M_standing_9 : decode I_M_standing.2.1 9 = .ok (.if_icmp .ge 30, 3) := by decide +kernel
theorem zd_M_standing_12 : decode I_M_standing.2.1 12 = .ok (.aload_n 0, 1) := by decide +kernel
theorem zd_M_standing_13 : decode I_M_standing.2.1 13 = .ok (.getfield 44, 3) := by decide +kernel
theorem zd_M_standing_16 : decode I_M_standing.2.1 16 = .ok (.iload_n 3, 1) := by decide +kernel
theorem zd_M_standing_17 : decode I_M_standing.2.1 17 = .ok (.iaload, 1) := by decide +kernel
theorem zd_M_standing_18 : decode I_M_standing.2.1 18 = .ok (.iload_n 1, 1) := by decide +kernel
theorem zd_M_standing_19 : decode I_M_standing.2.1 19 = .ok (.if_icmp .ne 14, 3) := by decide +kernel
theorem zd_M_standing_22 : decode I_M_standing.2.1 22 = .ok (.aload_n 0, 1) := by decide +kernel
theorem zd_M_standing_23 : decode I_M_standing.2.1 23 = .ok (.iload_n 3, 1) := by decide +kernel
theorem zd_M_standing_24 : decode I_M_standing.2.1 24 = .ok (.invokevirtual 174, 3) := by decide +kernel
theorem zd_M_standing_27 : decode I_M_standing.2.1 27 = .ok (.ifCond .ne 6, 3) := by decide +kernel
theorem zd_M_standing_30 : decode I_M_standing.2.1 30 = .ok (.iinc 2 1, 3) := by decide +kernel
theorem zd_M_standing_33 : decode I_M_standing.2.1 33 = .ok (.iinc 3 1, 3) := by decide +kernel
theorem zd_M_standing_36 : decode I_M_standing.2.1 36 = .ok (.goto (-32), 3) := by decide +kernel
theorem zd_M_standing_39 : decode I_M_standing.2.1 39 = .ok (.iload_n 2, 1) := by decide +kernel
theorem zd_M_standing_40 : decode I_M_standing.2.1 40 = .ok (.ireturn, 1) := by decide +kernel
theorem zd_M_flanks_0 : decode I_M_flanks.2.1 0 = .ok (.iload_n 1, 1) := by decide +kernel
theorem zd_M_flanks_1 : decode I_M_flanks.2.1 1 = .ok (.ifCond .lt 8, 3) := by decide +kernel
theorem zd_M_flanks_4 : decode I_M_flanks.2.1 4 = .ok (.iload_n 1, 1) := by decide +kernel
theorem zd_M_flanks_5 : decode I_M_flanks.2.1 5 = .ok (.iconst 1, 1) := by decide +kernel
theorem zd_M_flanks_6 : decode I_M_flanks.2.1 6 = .ok (.if_icmp .le 10, 3) := by decide +kernel
theorem zd_M_flanks_9 : decode I_M_flanks.2.1 9 = .ok (.aload_n 0, 1) := by decide +kernel
theorem zd_M_flanks_10 : decode I_M_flanks.2.1 10 = .ok (.bipush (-2), 2) := by decide +kernel
theorem zd_M_flanks_12 : decode I_M_flanks.2.1 12 = .ok (.invokevirtual 133, 3) := by decide +kernel
theorem zd_M_flanks_15 : decode I_M_flanks.2.1 15 = .ok (.ireturn, 1) := by decide +kernel
theorem zd_M_flanks_16 : decode I_M_flanks.2.1 16 = .ok (.aload_n 0, 1) := by decide +kernel
theorem zd_M_flanks_17 : decode I_M_flanks.2.1 17 = .ok (.invokevirtual 213, 3) := by decide +kernel
theorem zd_M_flanks_20 : decode I_M_flanks.2.1 20 = .ok (.iload_n 1, 1) := by decide +kernel
theorem zd_M_flanks_21 : decode I_M_flanks.2.1 21 = .ok (.ifCond .ne 10, 3) := by decide +kernel
theorem zd_M_flanks_24 : decode I_M_flanks.2.1 24 = .ok (.aload_n 0, 1) := by decide +kernel
theorem zd_M_flanks_25 : decode I_M_flanks.2.1 25 = .ok (.getfield 207, 3) := by decide +kernel
theorem zd_M_flanks_28 : decode I_M_flanks.2.1 28 = .ok (.goto 7, 3) := by decide +kernel
theorem zd_M_flanks_31 : decode I_M_flanks.2.1 31 = .ok (.aload_n 0, 1) := by decide +kernel
theorem zd_M_flanks_32 : decode I_M_flanks.2.1 32 = .ok (.getfield 210, 3) := by decide +kernel
theorem zd_M_flanks_35 : decode I_M_flanks.2.1 35 = .ok (.ireturn, 1) := by decide +kernel
theorem zd_M_helps_0 : decode I_M_helps.2.1 0 = .ok (.iconst 0, 1) := by decide +kernel
theorem zd_M_helps_1 : decode I_M_helps.2.1 1 = .ok (.istore_n 1, 1) := by decide +kernel
theorem zd_M_helps_2 : decode I_M_helps.2.1 2 = .ok (.iconst 0, 1) := by decide +kernel
theorem zd_M_helps_3 : decode I_M_helps.2.1 3 = .ok (.istore_n 2, 1) := by decide +kernel
theorem zd_M_helps_4 : decode I_M_helps.2.1 4 = .ok (.iload_n 2, 1) := by decide +kernel
theorem zd_M_helps_5 : decode I_M_helps.2.1 5 = .ok (.bipush 6, 2) := by decide +kernel
theorem zd_M_helps_7 : decode I_M_helps.2.1 7 = .ok (.if_icmp .ge 35, 3) := by decide +kernel
theorem zd_M_helps_10 : decode I_M_helps.2.1 10 = .ok (.aload_n 0, 1) := by decide +kernel
theorem zd_M_helps_11 : decode I_M_helps.2.1 11 = .ok (.getfield 107, 3) := by decide +kernel
theorem zd_M_helps_14 : decode I_M_helps.2.1 14 = .ok (.iload_n 2, 1) := by decide +kernel
theorem zd_M_helps_15 : decode I_M_helps.2.1 15 = .ok (.bipush 6, 2) := by decide +kernel
theorem zd_M_helps_17 : decode I_M_helps.2.1 17 = .ok (.iastore, 1) := by decide +kernel
theorem zd_M_helps_18 : decode I_M_helps.2.1 18 = .ok (.aload_n 0, 1) := by decide +kernel
theorem zd_M_helps_19 : decode I_M_helps.2.1 19 = .ok (.iload_n 2, 1) := by decide +kernel
theorem zd_M_helps_20 : decode I_M_helps.2.1 20 = .ok (.invokevirtual 204, 3) := by decide +kernel
theorem zd_M_helps_23 : decode I_M_helps.2.1 23 = .ok (.ifCond .ne 13, 3) := by decide +kernel
theorem zd_M_helps_26 : decode I_M_helps.2.1 26 = .ok (.aload_n 0, 1) := by decide +kernel
theorem zd_M_helps_27 : decode I_M_helps.2.1 27 = .ok (.getfield 98, 3) := by decide +kernel
theorem zd_M_helps_30 : decode I_M_helps.2.1 30 = .ok (.iload_n 1, 1) := by decide +kernel
theorem zd_M_helps_31 : decode I_M_helps.2.1 31 = .ok (.iinc 1 1, 3) := by decide +kernel
theorem zd_M_helps_34 : decode I_M_helps.2.1 34 = .ok (.iload_n 2, 1) := by decide +kernel
theorem zd_M_helps_35 : decode I_M_helps.2.1 35 = .ok (.iastore, 1) := by decide +kernel
theorem zd_M_helps_36 : decode I_M_helps.2.1 36 = .ok (.iinc 2 1, 3) := by decide +kernel
theorem zd_M_helps_39 : decode I_M_helps.2.1 39 = .ok (.goto (-35), 3) := by decide +kernel
theorem zd_M_helps_42 : decode I_M_helps.2.1 42 = .ok (.aload_n 0, 1) := by decide +kernel
theorem zd_M_helps_43 : decode I_M_helps.2.1 43 = .ok (.iconst 0, 1) := by decide +kernel
theorem zd_M_helps_44 : decode I_M_helps.2.1 44 = .ok (.putfield 207, 3) := by decide +kernel
theorem zd_M_helps_47 : decode I_M_helps.2.1 47 = .ok (.aload_n 0, 1) := by decide +kernel
theorem zd_M_helps_48 : decode I_M_helps.2.1 48 = .ok (.iconst 0, 1) := by decide +kernel
theorem zd_M_helps_49 : decode I_M_helps.2.1 49 = .ok (.putfield 210, 3) := by decide +kernel
theorem zd_M_helps_52 : decode I_M_helps.2.1 52 = .ok (.iconst 1, 1) := by decide +kernel
theorem zd_M_helps_53 : decode I_M_helps.2.1 53 = .ok (.istore_n 2, 1) := by decide +kernel
theorem zd_M_helps_54 : decode I_M_helps.2.1 54 = .ok (.iconst 0, 1) := by decide +kernel
theorem zd_M_helps_55 : decode I_M_helps.2.1 55 = .ok (.istore_n 3, 1) := by decide +kernel
theorem zd_M_helps_56 : decode I_M_helps.2.1 56 = .ok (.iload_n 3, 1) := by decide +kernel
theorem zd_M_helps_57 : decode I_M_helps.2.1 57 = .ok (.iload_n 1, 1) := by decide +kernel
theorem zd_M_helps_58 : decode I_M_helps.2.1 58 = .ok (.if_icmp .ge 14, 3) := by decide +kernel
theorem zd_M_helps_61 : decode I_M_helps.2.1 61 = .ok (.iload_n 2, 1) := by decide +kernel
theorem zd_M_helps_62 : decode I_M_helps.2.1 62 = .ok (.bipush 7, 2) := by decide +kernel
theorem zd_M_helps_64 : decode I_M_helps.2.1 64 = .ok (.imul, 1) := by decide +kernel
theorem zd_M_helps_65 : decode I_M_helps.2.1 65 = .ok (.istore_n 2, 1) := by decide +kernel
theorem zd_M_helps_66 : decode I_M_helps.2.1 66 = .ok (.iinc 3 1, 3) := by decide +kernel
theorem zd_M_helps_69 : decode I_M_helps.2.1 69 = .ok (.goto (-13), 3) := by decide +kernel
theorem zd_M_helps_72 : decode I_M_helps.2.1 72 = .ok (.iconst 0, 1) := by decide +kernel
theorem zd_M_helps_73 : decode I_M_helps.2.1 73 = .ok (.istore_n 3, 1) := by decide +kernel
theorem zd_M_helps_74 : decode I_M_helps.2.1 74 = .ok (.iconst 0, 1) := by decide +kernel
theorem zd_M_helps_75 : decode I_M_helps.2.1 75 = .ok (.istore 4, 2) := by decide +kernel
theorem zd_M_helps_77 : decode I_M_helps.2.1 77 = .ok (.iload 4, 2) := by decide +kernel
theorem zd_M_helps_79 : decode I_M_helps.2.1 79 = .ok (.iload_n 2, 1) := by decide +kernel
theorem zd_M_helps_80 : decode I_M_helps.2.1 80 = .ok (.if_icmp .ge 295, 3) := by decide +kernel
theorem zd_M_helps_83 : decode I_M_helps.2.1 83 = .ok (.iconst 0, 1) := by decide +kernel
theorem zd_M_helps_84 : decode I_M_helps.2.1 84 = .ok (.istore 5, 2) := by decide +kernel
theorem zd_M_helps_86 : decode I_M_helps.2.1 86 = .ok (.iload 5, 2) := by decide +kernel
theorem zd_M_helps_88 : decode I_M_helps.2.1 88 = .ok (.bipush 6, 2) := by decide +kernel
theorem zd_M_helps_90 : decode I_M_helps.2.1 90 = .ok (.if_icmp .ge 24, 3) := by decide +kernel
theorem zd_M_helps_93 : decode I_M_helps.2.1 93 = .ok (.aload_n 0, 1) := by decide +kernel
theorem zd_M_helps_94 : decode I_M_helps.2.1 94 = .ok (.getfield 101, 3) := by decide +kernel
theorem zd_M_helps_97 : decode I_M_helps.2.1 97 = .ok (.iload 5, 2) := by decide +kernel
theorem zd_M_helps_99 : decode I_M_helps.2.1 99 = .ok (.aload_n 0, 1) := by decide +kernel
theorem zd_M_helps_100 : decode I_M_helps.2.1 100 = .ok (.iload 5, 2) := by decide +kernel
theorem zd_M_helps_102 : decode I_M_helps.2.1 102 = .ok (.invokevirtual 204, 3) := by decide +kernel
theorem zd_M_helps_105 : decode I_M_helps.2.1 105 = .ok (.iconst 1, 1) := by decide +kernel
theorem zd_M_helps_106 : decode I_M_helps.2.1 106 = .ok (.isub, 1) := by decide +kernel
theorem zd_M_helps_107 : decode I_M_helps.2.1 107 = .ok (.iastore, 1) := by decide +kernel
theorem zd_M_helps_108 : decode I_M_helps.2.1 108 = .ok (.iinc 5 1, 3) := by decide +kernel
theorem zd_M_helps_111 : decode I_M_helps.2.1 111 = .ok (.goto (-25), 3) := by decide +kernel
theorem zd_M_helps_114 : decode I_M_helps.2.1 114 = .ok (.iload 4, 2) := by decide +kernel
theorem zd_M_helps_116 : decode I_M_helps.2.1 116 = .ok (.istore 5, 2) := by decide +kernel
theorem zd_M_helps_118 : decode I_M_helps.2.1 118 = .ok (.iload_n 1, 1) := by decide +kernel
theorem zd_M_helps_119 : decode I_M_helps.2.1 119 = .ok (.iconst 1, 1) := by decide +kernel
theorem zd_M_helps_120 : decode I_M_helps.2.1 120 = .ok (.isub, 1) := by decide +kernel
theorem zd_M_helps_121 : decode I_M_helps.2.1 121 = .ok (.istore 6, 2) := by decide +kernel
theorem zd_M_helps_123 : decode I_M_helps.2.1 123 = .ok (.iload 6, 2) := by decide +kernel
theorem zd_M_helps_125 : decode I_M_helps.2.1 125 = .ok (.ifCond .lt 28, 3) := by decide +kernel
theorem zd_M_helps_128 : decode I_M_helps.2.1 128 = .ok (.aload_n 0, 1) := by decide +kernel
theorem zd_M_helps_129 : decode I_M_helps.2.1 129 = .ok (.getfield 104, 3) := by decide +kernel
theorem zd_M_helps_132 : decode I_M_helps.2.1 132 = .ok (.iload 6, 2) := by decide +kernel
theorem zd_M_helps_134 : decode I_M_helps.2.1 134 = .ok (.iload 5, 2) := by decide +kernel
theorem zd_M_helps_136 : decode I_M_helps.2.1 136 = .ok (.bipush 7, 2) := by decide +kernel
theorem zd_M_helps_138 : decode I_M_helps.2.1 138 = .ok (.irem, 1) := by decide +kernel
theorem zd_M_helps_139 : decode I_M_helps.2.1 139 = .ok (.iastore, 1) := by decide +kernel
theorem zd_M_helps_140 : decode I_M_helps.2.1 140 = .ok (.iload 5, 2) := by decide +kernel
theorem zd_M_helps_142 : decode I_M_helps.2.1 142 = .ok (.bipush 7, 2) := by decide +kernel
theorem zd_M_helps_144 : decode I_M_helps.2.1 144 = .ok (.idiv, 1) := by decide +kernel
theorem zd_M_helps_145 : decode I_M_helps.2.1 145 = .ok (.istore 5, 2) := by decide +kernel
theorem zd_M_helps_147 : decode I_M_helps.2.1 147 = .ok (.iinc 6 (-1), 3) := by decide +kernel
theorem zd_M_helps_150 : decode I_M_helps.2.1 150 = .ok (.goto (-27), 3) := by decide +kernel
theorem zd_M_helps_153 : decode I_M_helps.2.1 153 = .ok (.iconst 0, 1) := by decide +kernel
theorem zd_M_helps_154 : decode I_M_helps.2.1 154 = .ok (.istore 6, 2) := by decide +kernel
theorem zd_M_helps_156 : decode I_M_helps.2.1 156 = .ok (.iconst 0, 1) := by decide +kernel
theorem zd_M_helps_157 : decode I_M_helps.2.1 157 = .ok (.istore 7, 2) := by decide +kernel
theorem zd_M_helps_159 : decode I_M_helps.2.1 159 = .ok (.iconst 1, 1) := by decide +kernel
theorem zd_M_helps_160 : decode I_M_helps.2.1 160 = .ok (.istore 8, 2) := by decide +kernel
theorem zd_M_helps_162 : decode I_M_helps.2.1 162 = .ok (.iconst 0, 1) := by decide +kernel
theorem zd_M_helps_163 : decode I_M_helps.2.1 163 = .ok (.istore 9, 2) := by decide +kernel
theorem zd_M_helps_165 : decode I_M_helps.2.1 165 = .ok (.iload 9, 2) := by decide +kernel
theorem zd_M_helps_167 : decode I_M_helps.2.1 167 = .ok (.iload_n 1, 1) := by decide +kernel
theorem zd_M_helps_168 : decode I_M_helps.2.1 168 = .ok (.if_icmp .ge 114, 3) := by decide +kernel
theorem zd_M_helps_171 : decode I_M_helps.2.1 171 = .ok (.aload_n 0, 1) := by decide +kernel
theorem zd_M_helps_172 : decode I_M_helps.2.1 172 = .ok (.getfield 104, 3) := by decide +kernel
theorem zd_M_helps_175 : decode I_M_helps.2.1 175 = .ok (.iload 9, 2) := by decide +kernel
theorem zd_M_helps_177 : decode I_M_helps.2.1 177 = .ok (.iaload, 1) := by decide +kernel
theorem zd_M_helps_178 : decode I_M_helps.2.1 178 = .ok (.bipush 6, 2) := by decide +kernel
theorem zd_M_helps_180 : decode I_M_helps.2.1 180 = .ok (.if_icmp .ne 6, 3) := by decide +kernel
theorem zd_M_helps_183 : decode I_M_helps.2.1 183 = .ok (.goto 93, 3) := by decide +kernel
theorem zd_M_helps_186 : decode I_M_helps.2.1 186 = .ok (.aload_n 0, 1) := by decide +kernel
theorem zd_M_helps_187 : decode I_M_helps.2.1 187 = .ok (.getfield 16, 3) := by decide +kernel
theorem zd_M_helps_190 : decode I_M_helps.2.1 190 = .ok (.aload_n 0, 1) := by decide +kernel
theorem zd_M_helps_191 : decode I_M_helps.2.1 191 = .ok (.getfield 98, 3) := by decide +kernel
theorem zd_M_helps_194 : decode I_M_helps.2.1 194 = .ok (.iload 9, 2) := by decide +kernel
theorem zd_M_helps_196 : decode I_M_helps.2.1 196 = .ok (.iaload, 1) := by decide +kernel
theorem zd_M_helps_197 : decode I_M_helps.2.1 197 = .ok (.iaload, 1) := by decide +kernel
theorem zd_M_helps_198 : decode I_M_helps.2.1 198 = .ok (.aload_n 0, 1) := by decide +kernel
theorem zd_M_helps_199 : decode I_M_helps.2.1 199 = .ok (.getfield 16, 3) := by decide +kernel
theorem zd_M_helps_202 : decode I_M_helps.2.1 202 = .ok (.aload_n 0, 1) := by decide +kernel
theorem zd_M_helps_203 : decode I_M_helps.2.1 203 = .ok (.getfield 104, 3) := by decide +kernel
theorem zd_M_helps_206 : decode I_M_helps.2.1 206 = .ok (.iload 9, 2) := by decide +kernel
theorem zd_M_helps_208 : decode I_M_helps.2.1 208 = .ok (.iaload, 1) := by decide +kernel
theorem zd_M_helps_209 : decode I_M_helps.2.1 209 = .ok (.iaload, 1) := by decide +kernel
theorem zd_M_helps_210 : decode I_M_helps.2.1 210 = .ok (.isub, 1) := by decide +kernel
theorem zd_M_helps_211 : decode I_M_helps.2.1 211 = .ok (.invokestatic 177, 3) := by decide +kernel
theorem zd_M_helps_214 : decode I_M_helps.2.1 214 = .ok (.istore 10, 2) := by decide +kernel
theorem zd_M_helps_216 : decode I_M_helps.2.1 216 = .ok (.iload 8, 2) := by decide +kernel
theorem zd_M_helps_218 : decode I_M_helps.2.1 218 = .ok (.ifCond .eq 29, 3) := by decide +kernel
theorem zd_M_helps_221 : decode I_M_helps.2.1 221 = .ok (.iload 10, 2) := by decide +kernel
theorem zd_M_helps_223 : decode I_M_helps.2.1 223 = .ok (.bipush 80, 2) := by decide +kernel
theorem zd_M_helps_225 : decode I_M_helps.2.1 225 = .ok (.if_icmp .gt 22, 3) := by decide +kernel
theorem zd_M_helps_228 : decode I_M_helps.2.1 228 = .ok (.aload_n 0, 1) := by decide +kernel
theorem zd_M_helps_229 : decode I_M_helps.2.1 229 = .ok (.getfield 101, 3) := by decide +kernel
theorem zd_M_helps_232 : decode I_M_helps.2.1 232 = .ok (.aload_n 0, 1) := by decide +kernel
theorem zd_M_helps_233 : decode I_M_helps.2.1 233 = .ok (.getfield 104, 3) := by decide +kernel
theorem zd_M_helps_236 : decode I_M_helps.2.1 236 = .ok (.iload 9, 2) := by decide +kernel
theorem zd_M_helps_238 : decode I_M_helps.2.1 238 = .ok (.iaload, 1) := by decide +kernel
theorem zd_M_helps_239 : decode I_M_helps.2.1 239 = .ok (.iaload, 1) := by decide +kernel
theorem zd_M_helps_240 : decode I_M_helps.2.1 240 = .ok (.ifCond .le 7, 3) := by decide +kernel
theorem zd_M_helps_243 : decode I_M_helps.2.1 243 = .ok (.iconst 1, 1) := by decide +kernel
theorem zd_M_helps_244 : decode I_M_helps.2.1 244 = .ok (.goto 4, 3) := by decide +kernel
theorem zd_M_helps_247 : decode I_M_helps.2.1 247 = .ok (.iconst 0, 1) := by decide +kernel
theorem zd_M_helps_248 : decode I_M_helps.2.1 248 = .ok (.istore 8, 2) := by decide +kernel
theorem zd_M_helps_250 : decode I_M_helps.2.1 250 = .ok (.aload_n 0, 1) := by decide +kernel
theorem zd_M_helps_251 : decode I_M_helps.2.1 251 = .ok (.getfield 101, 3) := by decide +kernel
theorem zd_M_helps_254 : decode I_M_helps.2.1 254 = .ok (.aload_n 0, 1) := by decide +kernel
theorem zd_M_helps_255 : decode I_M_helps.2.1 255 = .ok (.getfield 104, 3) := by decide +kernel
theorem zd_M_helps_258 : decode I_M_helps.2.1 258 = .ok (.iload 9, 2) := by decide +kernel
theorem zd_M_helps_260 : decode I_M_helps.2.1 260 = .ok (.iaload, 1) := by decide +kernel
theorem zd_M_helps_261 : decode I_M_helps.2.1 261 = .ok (.dup2, 1) := by decide +kernel
theorem zd_M_helps_262 : decode I_M_helps.2.1 262 = .ok (.iaload, 1) := by decide +kernel
theorem zd_M_helps_263 : decode I_M_helps.2.1 263 = .ok (.iconst 1, 1) := by decide +kernel
theorem zd_M_helps_264 : decode I_M_helps.2.1 264 = .ok (.isub, 1) := by decide +kernel
theorem zd_M_helps_265 : decode I_M_helps.2.1 265 = .ok (.iastore, 1) := by decide +kernel
theorem zd_M_helps_266 : decode I_M_helps.2.1 266 = .ok (.iinc 6 1, 3) := by decide +kernel
theorem zd_M_helps_269 : decode I_M_helps.2.1 269 = .ok (.iload 7, 2) := by decide +kernel
theorem zd_M_helps_271 : decode I_M_helps.2.1 271 = .ok (.iload 10, 2) := by decide +kernel
theorem zd_M_helps_273 : decode I_M_helps.2.1 273 = .ok (.iadd, 1) := by decide +kernel
theorem zd_M_helps_274 : decode I_M_helps.2.1 274 = .ok (.istore 7, 2) := by decide +kernel
theorem zd_M_helps_276 : decode I_M_helps.2.1 276 = .ok (.iinc 9 1, 3) := by decide +kernel
theorem zd_M_helps_279 : decode I_M_helps.2.1 279 = .ok (.goto (-114), 3) := by decide +kernel
theorem zd_M_helps_282 : decode I_M_helps.2.1 282 = .ok (.iload 8, 2) := by decide +kernel
theorem zd_M_helps_284 : decode I_M_helps.2.1 284 = .ok (.ifCond .eq 85, 3) := by decide +kernel
theorem zd_M_helps_287 : decode I_M_helps.2.1 287 = .ok (.iload_n 3, 1) := by decide +kernel
theorem zd_M_helps_288 : decode I_M_helps.2.1 288 = .ok (.ifCond .eq 33, 3) := by decide +kernel
theorem zd_M_helps_291 : decode I_M_helps.2.1 291 = .ok (.iload 6, 2) := by decide +kernel
theorem zd_M_helps_293 : decode I_M_helps.2.1 293 = .ok (.aload_n 0, 1) := by decide +kernel
theorem zd_M_helps_294 : decode I_M_helps.2.1 294 = .ok (.getfield 207, 3) := by decide +kernel
theorem zd_M_helps_297 : decode I_M_helps.2.1 297 = .ok (.if_icmp .lt 72, 3) := by decide +kernel
theorem zd_M_helps_300 : decode I_M_helps.2.1 300 = .ok (.iload 6, 2) := by decide +kernel
theorem zd_M_helps_302 : decode I_M_helps.2.1 302 = .ok (.aload_n 0, 1) := by decide +kernel
theorem zd_M_helps_303 : decode I_M_helps.2.1 303 = .ok (.getfield 207, 3) := by decide +kernel
theorem zd_M_helps_306 : decode I_M_helps.2.1 306 = .ok (.if_icmp .ne 15, 3) := by decide +kernel
theorem zd_M_helps_309 : decode I_M_helps.2.1 309 = .ok (.iload 7, 2) := by decide +kernel
theorem zd_M_helps_311 : decode I_M_helps.2.1 311 = .ok (.aload_n 0, 1) := by decide +kernel
theorem zd_M_helps_312 : decode I_M_helps.2.1 312 = .ok (.getfield 210, 3) := by decide +kernel
theorem zd_M_helps_315 : decode I_M_helps.2.1 315 = .ok (.if_icmp .lt 6, 3) := by decide +kernel
theorem zd_M_helps_318 : decode I_M_helps.2.1 318 = .ok (.goto 51, 3) := by decide +kernel
theorem zd_M_helps_321 : decode I_M_helps.2.1 321 = .ok (.iconst 1, 1) := by decide +kernel
theorem zd_M_helps_322 : decode I_M_helps.2.1 322 = .ok (.istore_n 3, 1) := by decide +kernel
theorem zd_M_helps_323 : decode I_M_helps.2.1 323 = .ok (.aload_n 0, 1) := by decide +kernel
theorem zd_M_helps_324 : decode I_M_helps.2.1 324 = .ok (.iload 6, 2) := by decide +kernel
theorem zd_M_helps_326 : decode I_M_helps.2.1 326 = .ok (.putfield 207, 3) := by decide +kernel
theorem zd_M_helps_329 : decode I_M_helps.2.1 329 = .ok (.aload_n 0, 1) := by decide +kernel
theorem zd_M_helps_330 : decode I_M_helps.2.1 330 = .ok (.iload 7, 2) := by decide +kernel
theorem zd_M_helps_332 : decode I_M_helps.2.1 332 = .ok (.putfield 210, 3) := by decide +kernel
theorem zd_M_helps_335 : decode I_M_helps.2.1 335 = .ok (.iconst 0, 1) := by decide +kernel
theorem zd_M_helps_336 : decode I_M_helps.2.1 336 = .ok (.istore 9, 2) := by decide +kernel
theorem zd_M_helps_338 : decode I_M_helps.2.1 338 = .ok (.iload 9, 2) := by decide +kernel
theorem zd_M_helps_340 : decode I_M_helps.2.1 340 = .ok (.iload_n 1, 1) := by decide +kernel
theorem zd_M_helps_341 : decode I_M_helps.2.1 341 = .ok (.if_icmp .ge 28, 3) := by decide +kernel
theorem zd_M_helps_344 : decode I_M_helps.2.1 344 = .ok (.aload_n 0, 1) := by decide +kernel
theorem zd_M_helps_345 : decode I_M_helps.2.1 345 = .ok (.getfield 107, 3) := by decide +kernel
theorem zd_M_helps_348 : decode I_M_helps.2.1 348 = .ok (.aload_n 0, 1) := by decide +kernel
theorem zd_M_helps_349 : decode I_M_helps.2.1 349 = .ok (.getfield 98, 3) := by decide +kernel
theorem zd_M_helps_352 : decode I_M_helps.2.1 352 = .ok (.iload 9, 2) := by decide +kernel
theorem zd_M_helps_354 : decode I_M_helps.2.1 354 = .ok (.iaload, 1) := by decide +kernel
theorem zd_M_helps_355 : decode I_M_helps.2.1 355 = .ok (.aload_n 0, 1) := by decide +kernel
theorem zd_M_helps_356 : decode I_M_helps.2.1 356 = .ok (.getfield 104, 3) := by decide +kernel
theorem zd_M_helps_359 : decode I_M_helps.2.1 359 = .ok (.iload 9, 2) := by decide +kernel
theorem zd_M_helps_361 : decode I_M_helps.2.1 361 = .ok (.iaload, 1) := by decide +kernel
theorem zd_M_helps_362 : decode I_M_helps.2.1 362 = .ok (.iastore, 1) := by decide +kernel
theorem zd_M_helps_363 : decode I_M_helps.2.1 363 = .ok (.iinc 9 1, 3) := by decide +kernel
theorem zd_M_helps_366 : decode I_M_helps.2.1 366 = .ok (.goto (-28), 3) := by decide +kernel
theorem zd_M_helps_369 : decode I_M_helps.2.1 369 = .ok (.iinc 4 1, 3) := by decide +kernel
theorem zd_M_helps_372 : decode I_M_helps.2.1 372 = .ok (.goto (-295), 3) := by decide +kernel
theorem zd_M_helps_375 : decode I_M_helps.2.1 375 = .ok (.return_, 1) := by decide +kernel
theorem zd_M_flank_0 : decode I_M_flank.2.1 0 = .ok (.iload_n 1, 1) := by decide +kernel
theorem zd_M_flank_1 : decode I_M_flank.2.1 1 = .ok (.invokestatic 129, 3) := by decide +kernel
theorem zd_M_flank_4 : decode I_M_flank.2.1 4 = .ok (.ifCond .ne 9, 3) := by decide +kernel
theorem zd_M_flank_7 : decode I_M_flank.2.1 7 = .ok (.aload_n 0, 1) := by decide +kernel
theorem zd_M_flank_8 : decode I_M_flank.2.1 8 = .ok (.iconst (-1), 1) := by decide +kernel
theorem zd_M_flank_9 : decode I_M_flank.2.1 9 = .ok (.invokevirtual 133, 3) := by decide +kernel
theorem zd_M_flank_12 : decode I_M_flank.2.1 12 = .ok (.ireturn, 1) := by decide +kernel
theorem zd_M_flank_13 : decode I_M_flank.2.1 13 = .ok (.aload_n 0, 1) := by decide +kernel
theorem zd_M_flank_14 : decode I_M_flank.2.1 14 = .ok (.invokevirtual 213, 3) := by decide +kernel
theorem zd_M_flank_17 : decode I_M_flank.2.1 17 = .ok (.aload_n 0, 1) := by decide +kernel
theorem zd_M_flank_18 : decode I_M_flank.2.1 18 = .ok (.getfield 107, 3) := by decide +kernel
theorem zd_M_flank_21 : decode I_M_flank.2.1 21 = .ok (.iload_n 1, 1) := by decide +kernel
theorem zd_M_flank_22 : decode I_M_flank.2.1 22 = .ok (.iaload, 1) := by decide +kernel
theorem zd_M_flank_23 : decode I_M_flank.2.1 23 = .ok (.bipush 6, 2) := by decide +kernel
theorem zd_M_flank_25 : decode I_M_flank.2.1 25 = .ok (.if_icmp .ne 8, 3) := by decide +kernel
theorem zd_M_flank_28 : decode I_M_flank.2.1 28 = .ok (.bipush (-9), 2) := by decide +kernel
theorem zd_M_flank_30 : decode I_M_flank.2.1 30 = .ok (.goto 9, 3) := by decide +kernel
theorem zd_M_flank_33 : decode I_M_flank.2.1 33 = .ok (.aload_n 0, 1) := by decide +kernel
theorem zd_M_flank_34 : decode I_M_flank.2.1 34 = .ok (.getfield 107, 3) := by decide +kernel
theorem zd_M_flank_37 : decode I_M_flank.2.1 37 = .ok (.iload_n 1, 1) := by decide +kernel
theorem zd_M_flank_38 : decode I_M_flank.2.1 38 = .ok (.iaload, 1) := by decide +kernel
theorem zd_M_flank_39 : decode I_M_flank.2.1 39 = .ok (.ireturn, 1) := by decide +kernel
theorem zd_M_box_0 : decode I_M_box.2.1 0 = .ok (.iload_n 1, 1) := by decide +kernel
theorem zd_M_box_1 : decode I_M_box.2.1 1 = .ok (.invokestatic 216, 3) := by decide +kernel
theorem zd_M_box_4 : decode I_M_box.2.1 4 = .ok (.ifCond .ne 9, 3) := by decide +kernel
theorem zd_M_box_7 : decode I_M_box.2.1 7 = .ok (.aload_n 0, 1) := by decide +kernel
theorem zd_M_box_8 : decode I_M_box.2.1 8 = .ok (.iconst (-1), 1) := by decide +kernel
theorem zd_M_box_9 : decode I_M_box.2.1 9 = .ok (.invokevirtual 133, 3) := by decide +kernel
theorem zd_M_box_12 : decode I_M_box.2.1 12 = .ok (.ireturn, 1) := by decide +kernel
theorem zd_M_box_13 : decode I_M_box.2.1 13 = .ok (.iload_n 2, 1) := by decide +kernel
theorem zd_M_box_14 : decode I_M_box.2.1 14 = .ok (.ifCond .ge 10, 3) := by decide +kernel
theorem zd_M_box_17 : decode I_M_box.2.1 17 = .ok (.aload_n 0, 1) := by decide +kernel
theorem zd_M_box_18 : decode I_M_box.2.1 18 = .ok (.bipush (-4), 2) := by decide +kernel
theorem zd_M_box_20 : decode I_M_box.2.1 20 = .ok (.invokevirtual 133, 3) := by decide +kernel
theorem zd_M_box_23 : decode I_M_box.2.1 23 = .ok (.ireturn, 1) := by decide +kernel
theorem zd_M_box_24 : decode I_M_box.2.1 24 = .ok (.iload_n 2, 1) := by decide +kernel
theorem zd_M_box_25 : decode I_M_box.2.1 25 = .ok (.sipush 9999, 3) := by decide +kernel
theorem zd_M_box_28 : decode I_M_box.2.1 28 = .ok (.if_icmp .le 10, 3) := by decide +kernel
theorem zd_M_box_31 : decode I_M_box.2.1 31 = .ok (.aload_n 0, 1) := by decide +kernel
theorem zd_M_box_32 : decode I_M_box.2.1 32 = .ok (.bipush (-6), 2) := by decide +kernel
theorem zd_M_box_34 : decode I_M_box.2.1 34 = .ok (.invokevirtual 133, 3) := by decide +kernel
theorem zd_M_box_37 : decode I_M_box.2.1 37 = .ok (.ireturn, 1) := by decide +kernel
theorem zd_M_box_38 : decode I_M_box.2.1 38 = .ok (.aload_n 0, 1) := by decide +kernel
theorem zd_M_box_39 : decode I_M_box.2.1 39 = .ok (.getfield 80, 3) := by decide +kernel
theorem zd_M_box_42 : decode I_M_box.2.1 42 = .ok (.iload_n 1, 1) := by decide +kernel
theorem zd_M_box_43 : decode I_M_box.2.1 43 = .ok (.iaload, 1) := by decide +kernel
theorem zd_M_box_44 : decode I_M_box.2.1 44 = .ok (.istore_n 3, 1) := by decide +kernel
theorem zd_M_box_45 : decode I_M_box.2.1 45 = .ok (.aload_n 0, 1) := by decide +kernel
theorem zd_M_box_46 : decode I_M_box.2.1 46 = .ok (.getfield 80, 3) := by decide +kernel
theorem zd_M_box_49 : decode I_M_box.2.1 49 = .ok (.iload_n 1, 1) := by decide +kernel
theorem zd_M_box_50 : decode I_M_box.2.1 50 = .ok (.iload_n 2, 1) := by decide +kernel
theorem zd_M_box_51 : decode I_M_box.2.1 51 = .ok (.iastore, 1) := by decide +kernel
theorem zd_M_box_52 : decode I_M_box.2.1 52 = .ok (.iload_n 3, 1) := by decide +kernel
theorem zd_M_box_53 : decode I_M_box.2.1 53 = .ok (.ireturn, 1) := by decide +kernel
theorem zd_M_isBox_0 : decode I_M_isBox.2.1 0 = .ok (.iload_n 0, 1) := by decide +kernel
theorem zd_M_isBox_1 : decode I_M_isBox.2.1 1 = .ok (.ifCond .lt 13, 3) := by decide +kernel
theorem zd_M_isBox_4 : decode I_M_isBox.2.1 4 = .ok (.iload_n 0, 1) := by decide +kernel
theorem zd_M_isBox_5 : decode I_M_isBox.2.1 5 = .ok (.bipush 12, 2) := by decide +kernel
theorem zd_M_isBox_7 : decode I_M_isBox.2.1 7 = .ok (.if_icmp .ge 7, 3) := by decide +kernel
theorem zd_M_isBox_10 : decode I_M_isBox.2.1 10 = .ok (.iconst 1, 1) := by decide +kernel
theorem zd_M_isBox_11 : decode I_M_isBox.2.1 11 = .ok (.goto 4, 3) := by decide +kernel
theorem zd_M_isBox_14 : decode I_M_isBox.2.1 14 = .ok (.iconst 0, 1) := by decide +kernel
theorem zd_M_isBox_15 : decode I_M_isBox.2.1 15 = .ok (.ireturn, 1) := by decide +kernel
theorem zd_M_look_0 : decode I_M_look.2.1 0 = .ok (.iload_n 1, 1) := by decide +kernel
theorem zd_M_look_1 : decode I_M_look.2.1 1 = .ok (.invokestatic 216, 3) := by decide +kernel
theorem zd_M_look_4 : decode I_M_look.2.1 4 = .ok (.ifCond .ne 9, 3) := by decide +kernel
theorem zd_M_look_7 : decode I_M_look.2.1 7 = .ok (.aload_n 0, 1) := by decide +kernel
theorem zd_M_look_8 : decode I_M_look.2.1 8 = .ok (.iconst (-1), 1) := by decide +kernel
theorem zd_M_look_9 : decode I_M_look.2.1 9 = .ok (.invokevirtual 133, 3) := by decide +kernel
theorem zd_M_look_12 : decode I_M_look.2.1 12 = .ok (.ireturn, 1) := by decide +kernel
theorem zd_M_look_13 : decode I_M_look.2.1 13 = .ok (.iload_n 2, 1) := by decide +kernel
theorem zd_M_look_14 : decode I_M_look.2.1 14 = .ok (.ifCond .ge 10, 3) := by decide +kernel
theorem zd_M_look_17 : decode I_M_look.2.1 17 = .ok (.aload_n 0, 1) := by decide +kernel
theorem zd_M_look_18 : decode I_M_look.2.1 18 = .ok (.bipush (-4), 2) := by decide +kernel
theorem zd_M_look_20 : decode I_M_look.2.1 20 = .ok (.invokevirtual 133, 3) := by decide +kernel
theorem zd_M_look_23 : decode I_M_look.2.1 23 = .ok (.ireturn, 1) := by decide +kernel
theorem zd_M_look_24 : decode I_M_look.2.1 24 = .ok (.iload_n 2, 1) := by decide +kernel
theorem zd_M_look_25 : decode I_M_look.2.1 25 = .ok (.bipush 9, 2) := by decide +kernel
theorem zd_M_look_27 : decode I_M_look.2.1 27 = .ok (.if_icmp .le 10, 3) := by decide +kernel
theorem zd_M_look_30 : decode I_M_look.2.1 30 = .ok (.aload_n 0, 1) := by decide +kernel
theorem zd_M_look_31 : decode I_M_look.2.1 31 = .ok (.bipush (-6), 2) := by decide +kernel
theorem zd_M_look_33 : decode I_M_look.2.1 33 = .ok (.invokevirtual 133, 3) := by decide +kernel
theorem zd_M_look_36 : decode I_M_look.2.1 36 = .ok (.ireturn, 1) := by decide +kernel
theorem zd_M_look_37 : decode I_M_look.2.1 37 = .ok (.aload_n 0, 1) := by decide +kernel
theorem zd_M_look_38 : decode I_M_look.2.1 38 = .ok (.getfield 80, 3) := by decide +kernel
theorem zd_M_look_41 : decode I_M_look.2.1 41 = .ok (.iload_n 1, 1) := by decide +kernel
theorem zd_M_look_42 : decode I_M_look.2.1 42 = .ok (.aload_n 0, 1) := by decide +kernel
theorem zd_M_look_43 : decode I_M_look.2.1 43 = .ok (.getfield 80, 3) := by decide +kernel
theorem zd_M_look_46 : decode I_M_look.2.1 46 = .ok (.iload_n 1, 1) := by decide +kernel
theorem zd_M_look_47 : decode I_M_look.2.1 47 = .ok (.iaload, 1) := by decide +kernel
theorem zd_M_look_48 : decode I_M_look.2.1 48 = .ok (.bipush 10, 2) := by decide +kernel
theorem zd_M_look_50 : decode I_M_look.2.1 50 = .ok (.iload_n 2, 1) := by decide +kernel
theorem zd_M_look_51 : decode I_M_look.2.1 51 = .ok (.isub, 1) := by decide +kernel
theorem zd_M_look_52 : decode I_M_look.2.1 52 = .ok (.imul, 1) := by decide +kernel
theorem zd_M_look_53 : decode I_M_look.2.1 53 = .ok (.bipush 10, 2) := by decide +kernel
theorem zd_M_look_55 : decode I_M_look.2.1 55 = .ok (.idiv, 1) := by decide +kernel
theorem zd_M_look_56 : decode I_M_look.2.1 56 = .ok (.iastore, 1) := by decide +kernel
theorem zd_M_look_57 : decode I_M_look.2.1 57 = .ok (.aload_n 0, 1) := by decide +kernel
theorem zd_M_look_58 : decode I_M_look.2.1 58 = .ok (.getfield 80, 3) := by decide +kernel
theorem zd_M_look_61 : decode I_M_look.2.1 61 = .ok (.iload_n 1, 1) := by decide +kernel
theorem zd_M_look_62 : decode I_M_look.2.1 62 = .ok (.iaload, 1) := by decide +kernel
theorem zd_M_look_63 : decode I_M_look.2.1 63 = .ok (.ireturn, 1) := by decide +kernel
theorem zd_M_looks_0 : decode I_M_looks.2.1 0 = .ok (.iload_n 1, 1) := by decide +kernel
theorem zd_M_looks_1 : decode I_M_looks.2.1 1 = .ok (.iconst 1, 1) := by decide +kernel
theorem zd_M_looks_2 : decode I_M_looks.2.1 2 = .ok (.if_icmp .lt 7, 3) := by decide +kernel
theorem zd_M_looks_5 : decode I_M_looks.2.1 5 = .ok (.iload_n 2, 1) := by decide +kernel
theorem zd_M_looks_6 : decode I_M_looks.2.1 6 = .ok (.ifCond .ge 10, 3) := by decide +kernel
theorem zd_M_looks_9 : decode I_M_looks.2.1 9 = .ok (.aload_n 0, 1) := by decide +kernel
theorem zd_M_looks_10 : decode I_M_looks.2.1 10 = .ok (.bipush (-4), 2) := by decide +kernel
theorem zd_M_looks_12 : decode I_M_looks.2.1 12 = .ok (.invokevirtual 133, 3) := by decide +kernel
theorem zd_M_looks_15 : decode I_M_looks.2.1 15 = .ok (.ireturn, 1) := by decide +kernel
theorem zd_M_looks_16 : decode I_M_looks.2.1 16 = .ok (.iload_n 1, 1) := by decide +kernel
theorem zd_M_looks_17 : decode I_M_looks.2.1 17 = .ok (.bipush 20, 2) := by decide +kernel
theorem zd_M_looks_19 : decode I_M_looks.2.1 19 = .ok (.if_icmp .gt 9, 3) := by decide +kernel
theorem zd_M_looks_22 : decode I_M_looks.2.1 22 = .ok (.iload_n 2, 1) := by decide +kernel
theorem zd_M_looks_23 : decode I_M_looks.2.1 23 = .ok (.bipush 9, 2) := by decide +kernel
theorem zd_M_looks_25 : decode I_M_looks.2.1 25 = .ok (.if_icmp .le 10, 3) := by decide +kernel
theorem zd_M_looks_28 : decode I_M_looks.2.1 28 = .ok (.aload_n 0, 1) := by decide +kernel
theorem zd_M_looks_29 : decode I_M_looks.2.1 29 = .ok (.bipush (-6), 2) := by decide +kernel
theorem zd_M_looks_31 : decode I_M_looks.2.1 31 = .ok (.invokevirtual 133, 3) := by decide +kernel
theorem zd_M_looks_34 : decode I_M_looks.2.1 34 = .ok (.ireturn, 1) := by decide +kernel
theorem zd_M_looks_35 : decode I_M_looks.2.1 35 = .ok (.aload_n 0, 1) := by decide +kernel
theorem zd_M_looks_36 : decode I_M_looks.2.1 36 = .ok (.iload_n 1, 1) := by decide +kernel
theorem zd_M_looks_37 : decode I_M_looks.2.1 37 = .ok (.iload_n 2, 1) := by decide +kernel
theorem zd_M_looks_38 : decode I_M_looks.2.1 38 = .ok (.invokevirtual 219, 3) := by decide +kernel
theorem zd_M_looks_41 : decode I_M_looks.2.1 41 = .ok (.ireturn, 1) := by decide +kernel
theorem zd_M_tries_0 : decode I_M_tries.2.1 0 = .ok (.iconst 0, 1) := by decide +kernel
theorem zd_M_tries_1 : decode I_M_tries.2.1 1 = .ok (.istore_n 3, 1) := by decide +kernel
theorem zd_M_tries_2 : decode I_M_tries.2.1 2 = .ok (.iload_n 3, 1) := by decide +kernel
theorem zd_M_tries_3 : decode I_M_tries.2.1 3 = .ok (.bipush 12, 2) := by decide +kernel
theorem zd_M_tries_5 : decode I_M_tries.2.1 5 = .ok (.if_icmp .ge 21, 3) := by decide +kernel
theorem zd_M_tries_8 : decode I_M_tries.2.1 8 = .ok (.aload_n 0, 1) := by decide +kernel
theorem zd_M_tries_9 : decode I_M_tries.2.1 9 = .ok (.getfield 83, 3) := by decide +kernel
theorem zd_M_tries_12 : decode I_M_tries.2.1 12 = .ok (.iload_n 3, 1) := by decide +kernel
theorem zd_M_tries_13 : decode I_M_tries.2.1 13 = .ok (.aload_n 0, 1) := by decide +kernel
theorem zd_M_tries_14 : decode I_M_tries.2.1 14 = .ok (.getfield 80, 3) := by decide +kernel
theorem zd_M_tries_17 : decode I_M_tries.2.1 17 = .ok (.iload_n 3, 1) := by decide +kernel
theorem zd_M_tries_18 : decode I_M_tries.2.1 18 = .ok (.iaload, 1) := by decide +kernel
theorem zd_M_tries_19 : decode I_M_tries.2.1 19 = .ok (.iastore, 1) := by decide +kernel
theorem zd_M_tries_20 : decode I_M_tries.2.1 20 = .ok (.iinc 3 1, 3) := by decide +kernel
theorem zd_M_tries_23 : decode I_M_tries.2.1 23 = .ok (.goto (-21), 3) := by decide +kernel
theorem zd_M_tries_26 : decode I_M_tries.2.1 26 = .ok (.iconst 0, 1) := by decide +kernel
theorem zd_M_tries_27 : decode I_M_tries.2.1 27 = .ok (.istore_n 3, 1) := by decide +kernel
theorem zd_M_tries_28 : decode I_M_tries.2.1 28 = .ok (.iconst 0, 1) := by decide +kernel
theorem zd_M_tries_29 : decode I_M_tries.2.1 29 = .ok (.istore 4, 2) := by decide +kernel
theorem zd_M_tries_31 : decode I_M_tries.2.1 31 = .ok (.iload 4, 2) := by decide +kernel
theorem zd_M_tries_33 : decode I_M_tries.2.1 33 = .ok (.iload_n 1, 1) := by decide +kernel
theorem zd_M_tries_34 : decode I_M_tries.2.1 34 = .ok (.if_icmp .ge 105, 3) := by decide +kernel
theorem zd_M_tries_37 : decode I_M_tries.2.1 37 = .ok (.iconst 0, 1) := by decide +kernel
theorem zd_M_tries_38 : decode I_M_tries.2.1 38 = .ok (.istore 5, 2) := by decide +kernel
theorem zd_M_tries_40 : decode I_M_tries.2.1 40 = .ok (.iconst 1, 1) := by decide +kernel
theorem zd_M_tries_41 : decode I_M_tries.2.1 41 = .ok (.istore 6, 2) := by decide +kernel
theorem zd_M_tries_43 : decode I_M_tries.2.1 43 = .ok (.iload 6, 2) := by decide +kernel
theorem zd_M_tries_45 : decode I_M_tries.2.1 45 = .ok (.bipush 12, 2) := by decide +kernel
theorem zd_M_tries_47 : decode I_M_tries.2.1 47 = .ok (.if_icmp .ge 40, 3) := by decide +kernel
theorem zd_M_tries_50 : decode I_M_tries.2.1 50 = .ok (.aload_n 0, 1) := by decide +kernel
theorem zd_M_tries_51 : decode I_M_tries.2.1 51 = .ok (.getfield 83, 3) := by decide +kernel
theorem zd_M_tries_54 : decode I_M_tries.2.1 54 = .ok (.iload 6, 2) := by decide +kernel
theorem zd_M_tries_56 : decode I_M_tries.2.1 56 = .ok (.iaload, 1) := by decide +kernel
theorem zd_M_tries_57 : decode I_M_tries.2.1 57 = .ok (.iload_n 2, 1) := by decide +kernel
theorem zd_M_tries_58 : decode I_M_tries.2.1 58 = .ok (.imul, 1) := by decide +kernel
theorem zd_M_tries_59 : decode I_M_tries.2.1 59 = .ok (.bipush 10, 2) := by decide +kernel
theorem zd_M_tries_61 : decode I_M_tries.2.1 61 = .ok (.idiv, 1) := by decide +kernel
theorem zd_M_tries_62 : decode I_M_tries.2.1 62 = .ok (.aload_n 0, 1) := by decide +kernel
theorem zd_M_tries_63 : decode I_M_tries.2.1 63 = .ok (.getfield 83, 3) := by decide +kernel
theorem zd_M_tries_66 : decode I_M_tries.2.1 66 = .ok (.iload 5, 2) := by decide +kernel
theorem zd_M_tries_68 : decode I_M_tries.2.1 68 = .ok (.iaload, 1) := by decide +kernel
theorem zd_M_tries_69 : decode I_M_tries.2.1 69 = .ok (.iload_n 2, 1) := by decide +kernel
theorem zd_M_tries_70 : decode I_M_tries.2.1 70 = .ok (.imul, 1) := by decide +kernel
theorem zd_M_tries_71 : decode I_M_tries.2.1 71 = .ok (.bipush 10, 2) := by decide +kernel
theorem zd_M_tries_73 : decode I_M_tries.2.1 73 = .ok (.idiv, 1) := by decide +kernel
theorem zd_M_tries_74 : decode I_M_tries.2.1 74 = .ok (.if_icmp .le 7, 3) := by decide +kernel
theorem zd_M_tries_77 : decode I_M_tries.2.1 77 = .ok (.iload 6, 2) := by decide +kernel
theorem zd_M_tries_79 : decode I_M_tries.2.1 79 = .ok (.istore 5, 2) := by decide +kernel
theorem zd_M_tries_81 : decode I_M_tries.2.1 81 = .ok (.iinc 6 1, 3) := by decide +kernel
theorem zd_M_tries_84 : decode I_M_tries.2.1 84 = .ok (.goto (-41), 3) := by decide +kernel
theorem zd_M_tries_87 : decode I_M_tries.2.1 87 = .ok (.iload_n 3, 1) := by decide +kernel
theorem zd_M_tries_88 : decode I_M_tries.2.1 88 = .ok (.aload_n 0, 1) := by decide +kernel
theorem zd_M_tries_89 : decode I_M_tries.2.1 89 = .ok (.getfield 83, 3) := by decide +kernel
theorem zd_M_tries_92 : decode I_M_tries.2.1 92 = .ok (.iload 5, 2) := by decide +kernel
theorem zd_M_tries_94 : decode I_M_tries.2.1 94 = .ok (.iaload, 1) := by decide +kernel
theorem zd_M_tries_95 : decode I_M_tries.2.1 95 = .ok (.iload_n 2, 1) := by decide +kernel
theorem zd_M_tries_96 : decode I_M_tries.2.1 96 = .ok (.imul, 1) := by decide +kernel
theorem zd_M_tries_97 : decode I_M_tries.2.1 97 = .ok (.bipush 10, 2) := by decide +kernel
theorem zd_M_tries_99 : decode I_M_tries.2.1 99 = .ok (.idiv, 1) := by decide +kernel
theorem zd_M_tries_100 : decode I_M_tries.2.1 100 = .ok (.iadd, 1) := by decide +kernel
theorem zd_M_tries_101 : decode I_M_tries.2.1 101 = .ok (.istore_n 3, 1) := by decide +kernel
theorem zd_M_tries_102 : decode I_M_tries.2.1 102 = .ok (.aload_n 0, 1) := by decide +kernel
theorem zd_M_tries_103 : decode I_M_tries.2.1 103 = .ok (.getfield 83, 3) := by decide +kernel
theorem zd_M_tries_106 : decode I_M_tries.2.1 106 = .ok (.iload 5, 2) := by decide +kernel
theorem zd_M_tries_108 : decode I_M_tries.2.1 108 = .ok (.aload_n 0, 1) := by decide +kernel
theorem zd_M_tries_109 : decode I_M_tries.2.1 109 = .ok (.getfield 83, 3) := by decide +kernel
theorem zd_M_tries_112 : decode I_M_tries.2.1 112 = .ok (.iload 5, 2) := by decide +kernel
theorem zd_M_tries_114 : decode I_M_tries.2.1 114 = .ok (.iaload, 1) := by decide +kernel
theorem zd_M_tries_115 : decode I_M_tries.2.1 115 = .ok (.bipush 10, 2) := by decide +kernel
theorem zd_M_tries_117 : decode I_M_tries.2.1 117 = .ok (.iload_n 2, 1) := by decide +kernel
theorem zd_M_tries_118 : decode I_M_tries.2.1 118 = .ok (.isub, 1) := by decide +kernel
theorem zd_M_tries_119 : decode I_M_tries.2.1 119 = .ok (.imul, 1) := by decide +kernel
theorem zd_M_tries_120 : decode I_M_tries.2.1 120 = .ok (.bipush 10, 2) := by decide +kernel
theorem zd_M_tries_122 : decode I_M_tries.2.1 122 = .ok (.idiv, 1) := by decide +kernel
theorem zd_M_tries_123 : decode I_M_tries.2.1 123 = .ok (.iastore, 1) := by decide +kernel
theorem zd_M_tries_124 : decode I_M_tries.2.1 124 = .ok (.aload_n 0, 1) := by decide +kernel
theorem zd_M_tries_125 : decode I_M_tries.2.1 125 = .ok (.getfield 86, 3) := by decide +kernel
theorem zd_M_tries_128 : decode I_M_tries.2.1 128 = .ok (.iload 4, 2) := by decide +kernel
theorem zd_M_tries_130 : decode I_M_tries.2.1 130 = .ok (.iload 5, 2) := by decide +kernel
theorem zd_M_tries_132 : decode I_M_tries.2.1 132 = .ok (.iastore, 1) := by decide +kernel
theorem zd_M_tries_133 : decode I_M_tries.2.1 133 = .ok (.iinc 4 1, 3) := by decide +kernel
theorem zd_M_tries_136 : decode I_M_tries.2.1 136 = .ok (.goto (-105), 3) := by decide +kernel
theorem zd_M_tries_139 : decode I_M_tries.2.1 139 = .ok (.iload_n 3, 1) := by decide +kernel
theorem zd_M_tries_140 : decode I_M_tries.2.1 140 = .ok (.ireturn, 1) := by decide +kernel
theorem zd_M_lookAt_0 : decode I_M_lookAt.2.1 0 = .ok (.iload_n 1, 1) := by decide +kernel
theorem zd_M_lookAt_1 : decode I_M_lookAt.2.1 1 = .ok (.iconst 1, 1) := by decide +kernel
theorem zd_M_lookAt_2 : decode I_M_lookAt.2.1 2 = .ok (.if_icmp .lt 7, 3) := by decide +kernel
theorem zd_M_lookAt_5 : decode I_M_lookAt.2.1 5 = .ok (.iload_n 2, 1) := by decide +kernel
theorem zd_M_lookAt_6 : decode I_M_lookAt.2.1 6 = .ok (.ifCond .ge 10, 3) := by decide +kernel
theorem zd_M_lookAt_9 : decode I_M_lookAt.2.1 9 = .ok (.aload_n 0, 1) := by decide +kernel
theorem zd_M_lookAt_10 : decode I_M_lookAt.2.1 10 = .ok (.bipush (-4), 2) := by decide +kernel
theorem zd_M_lookAt_12 : decode I_M_lookAt.2.1 12 = .ok (.invokevirtual 133, 3) := by decide +kernel
theorem zd_M_lookAt_15 : decode I_M_lookAt.2.1 15 = .ok (.ireturn, 1) := by decide +kernel
theorem zd_M_lookAt_16 : decode I_M_lookAt.2.1 16 = .ok (.iload_n 1, 1) := by decide +kernel
theorem zd_M_lookAt_17 : decode I_M_lookAt.2.1 17 = .ok (.bipush 20, 2) := by decide +kernel
theorem zd_M_lookAt_19 : decode I_M_lookAt.2.1 19 = .ok (.if_icmp .gt 9, 3) := by decide +kernel
theorem zd_M_lookAt_22 : decode I_M_lookAt.2.1 22 = .ok (.iload_n 2, 1) := by decide +kernel
theorem zd_M_lookAt_23 : decode I_M_lookAt.2.1 23 = .ok (.bipush 9, 2) := by decide +kernel
theorem zd_M_lookAt_25 : decode I_M_lookAt.2.1 25 = .ok (.if_icmp .le 10, 3) := by decide +kernel
theorem zd_M_lookAt_28 : decode I_M_lookAt.2.1 28 = .ok (.aload_n 0, 1) := by decide +kernel
theorem zd_M_lookAt_29 : decode I_M_lookAt.2.1 29 = .ok (.bipush (-6), 2) := by decide +kernel
theorem zd_M_lookAt_31 : decode I_M_lookAt.2.1 31 = .ok (.invokevirtual 133, 3) := by decide +kernel
theorem zd_M_lookAt_34 : decode I_M_lookAt.2.1 34 = .ok (.ireturn, 1) := by decide +kernel
theorem zd_M_lookAt_35 : decode I_M_lookAt.2.1 35 = .ok (.iload_n 3, 1) := by decide +kernel
theorem zd_M_lookAt_36 : decode I_M_lookAt.2.1 36 = .ok (.ifCond .lt 8, 3) := by decide +kernel
theorem zd_M_lookAt_39 : decode I_M_lookAt.2.1 39 = .ok (.iload_n 3, 1) := by decide +kernel
theorem zd_M_lookAt_40 : decode I_M_lookAt.2.1 40 = .ok (.iload_n 1, 1) := by decide +kernel
theorem zd_M_lookAt_41 : decode I_M_lookAt.2.1 41 = .ok (.if_icmp .lt 6, 3) := by decide +kernel
theorem zd_M_lookAt_44 : decode I_M_lookAt.2.1 44 = .ok (.bipush (-9), 2) := by decide +kernel
theorem zd_M_lookAt_46 : decode I_M_lookAt.2.1 46 = .ok (.ireturn, 1) := by decide +kernel
theorem zd_M_lookAt_47 : decode I_M_lookAt.2.1 47 = .ok (.aload_n 0, 1) := by decide +kernel
theorem zd_M_lookAt_48 : decode I_M_lookAt.2.1 48 = .ok (.iload_n 1, 1) := by decide +kernel
theorem zd_M_lookAt_49 : decode I_M_lookAt.2.1 49 = .ok (.iload_n 2, 1) := by decide +kernel
theorem zd_M_lookAt_50 : decode I_M_lookAt.2.1 50 = .ok (.invokevirtual 219, 3) := by decide +kernel
theorem zd_M_lookAt_53 : decode I_M_lookAt.2.1 53 = .ok (.pop, 1) := by decide +kernel
theorem zd_M_lookAt_54 : decode I_M_lookAt.2.1 54 = .ok (.aload_n 0, 1) := by decide +kernel
theorem zd_M_lookAt_55 : decode I_M_lookAt.2.1 55 = .ok (.getfield 86, 3) := by decide +kernel
theorem zd_M_lookAt_58 : decode I_M_lookAt.2.1 58 = .ok (.iload_n 3, 1) := by decide +kernel
theorem zd_M_lookAt_59 : decode I_M_lookAt.2.1 59 = .ok (.iaload, 1) := by decide +kernel
theorem zd_M_lookAt_60 : decode I_M_lookAt.2.1 60 = .ok (.ireturn, 1) := by decide +kernel
theorem zd_M_rest_0 : decode I_M_rest.2.1 0 = .ok (.aload_n 0, 1) := by decide +kernel
theorem zd_M_rest_1 : decode I_M_rest.2.1 1 = .ok (.iload_n 1, 1) := by decide +kernel
theorem zd_M_rest_2 : decode I_M_rest.2.1 2 = .ok (.invokevirtual 137, 3) := by decide +kernel
theorem zd_M_rest_5 : decode I_M_rest.2.1 5 = .ok (.ifCond .ne 9, 3) := by decide +kernel
theorem zd_M_rest_8 : decode I_M_rest.2.1 8 = .ok (.aload_n 0, 1) := by decide +kernel
theorem zd_M_rest_9 : decode I_M_rest.2.1 9 = .ok (.iconst (-1), 1) := by decide +kernel
theorem zd_M_rest_10 : decode I_M_rest.2.1 10 = .ok (.invokevirtual 133, 3) := by decide +kernel
theorem zd_M_rest_13 : decode I_M_rest.2.1 13 = .ok (.ireturn, 1) := by decide +kernel
theorem zd_M_rest_14 : decode I_M_rest.2.1 14 = .ok (.iload_n 2, 1) := by decide +kernel
theorem zd_M_rest_15 : decode I_M_rest.2.1 15 = .ok (.aload_n 0, 1) := by decide +kernel
theorem zd_M_rest_16 : decode I_M_rest.2.1 16 = .ok (.getfield 119, 3) := by decide +kernel
theorem zd_M_rest_19 : decode I_M_rest.2.1 19 = .ok (.if_icmp .ge 10, 3) := by decide +kernel
theorem zd_M_rest_22 : decode I_M_rest.2.1 22 = .ok (.aload_n 0, 1) := by decide +kernel
theorem zd_M_rest_23 : decode I_M_rest.2.1 23 = .ok (.bipush (-4), 2) := by decide +kernel
theorem zd_M_rest_25 : decode I_M_rest.2.1 25 = .ok (.invokevirtual 133, 3) := by decide +kernel
theorem zd_M_rest_28 : decode I_M_rest.2.1 28 = .ok (.ireturn, 1) := by decide +kernel
theorem zd_M_rest_29 : decode I_M_rest.2.1 29 = .ok (.iload_n 2, 1) := by decide +kernel
theorem zd_M_rest_30 : decode I_M_rest.2.1 30 = .ok (.ldc 170, 2) := by decide +kernel
theorem zd_M_rest_32 : decode I_M_rest.2.1 32 = .ok (.if_icmp .le 10, 3) := by decide +kernel
theorem zd_M_rest_35 : decode I_M_rest.2.1 35 = .ok (.aload_n 0, 1) := by decide +kernel
theorem zd_M_rest_36 : decode I_M_rest.2.1 36 = .ok (.bipush (-6), 2) := by decide +kernel
theorem zd_M_rest_38 : decode I_M_rest.2.1 38 = .ok (.invokevirtual 133, 3) := by decide +kernel
theorem zd_M_rest_41 : decode I_M_rest.2.1 41 = .ok (.ireturn, 1) := by decide +kernel
theorem zd_M_rest_42 : decode I_M_rest.2.1 42 = .ok (.aload_n 0, 1) := by decide +kernel
theorem zd_M_rest_43 : decode I_M_rest.2.1 43 = .ok (.getfield 32, 3) := by decide +kernel
theorem zd_M_rest_46 : decode I_M_rest.2.1 46 = .ok (.iload_n 1, 1) := by decide +kernel
theorem zd_M_rest_47 : decode I_M_rest.2.1 47 = .ok (.iaload, 1) := by decide +kernel
theorem zd_M_rest_48 : decode I_M_rest.2.1 48 = .ok (.istore_n 3, 1) := by decide +kernel
theorem zd_M_rest_49 : decode I_M_rest.2.1 49 = .ok (.aload_n 0, 1) := by decide +kernel
theorem zd_M_rest_50 : decode I_M_rest.2.1 50 = .ok (.getfield 32, 3) := by decide +kernel
theorem zd_M_rest_53 : decode I_M_rest.2.1 53 = .ok (.iload_n 1, 1) := by decide +kernel
theorem zd_M_rest_54 : decode I_M_rest.2.1 54 = .ok (.iload_n 2, 1) := by decide +kernel
theorem zd_M_rest_55 : decode I_M_rest.2.1 55 = .ok (.iastore, 1) := by decide +kernel
theorem zd_M_rest_56 : decode I_M_rest.2.1 56 = .ok (.iload_n 3, 1) := by decide +kernel
theorem zd_M_rest_57 : decode I_M_rest.2.1 57 = .ok (.ireturn, 1) := by decide +kernel
theorem zd_M_turn_0 : decode I_M_turn.2.1 0 = .ok (.iload_n 1, 1) := by decide +kernel
theorem zd_M_turn_1 : decode I_M_turn.2.1 1 = .ok (.invokestatic 129, 3) := by decide +kernel
theorem zd_M_turn_4 : decode I_M_turn.2.1 4 = .ok (.ifCond .ne 9, 3) := by decide +kernel
theorem zd_M_turn_7 : decode I_M_turn.2.1 7 = .ok (.aload_n 0, 1) := by decide +kernel
theorem zd_M_turn_8 : decode I_M_turn.2.1 8 = .ok (.iconst (-1), 1) := by decide +kernel
theorem zd_M_turn_9 : decode I_M_turn.2.1 9 = .ok (.invokevirtual 133, 3) := by decide +kernel
theorem zd_M_turn_12 : decode I_M_turn.2.1 12 = .ok (.ireturn, 1) := by decide +kernel
theorem zd_M_turn_13 : decode I_M_turn.2.1 13 = .ok (.iconst 0, 1) := by decide +kernel
theorem zd_M_turn_14 : decode I_M_turn.2.1 14 = .ok (.istore_n 3, 1) := by decide +kernel
theorem zd_M_turn_15 : decode I_M_turn.2.1 15 = .ok (.iload_n 3, 1) := by decide +kernel
theorem zd_M_turn_16 : decode I_M_turn.2.1 16 = .ok (.aload_n 0, 1) := by decide +kernel
theorem zd_M_turn_17 : decode I_M_turn.2.1 17 = .ok (.getfield 110, 3) := by decide +kernel
theorem zd_M_turn_20 : decode I_M_turn.2.1 20 = .ok (.if_icmp .ge 103, 3) := by decide +kernel
theorem zd_M_turn_23 : decode I_M_turn.2.1 23 = .ok (.aload_n 0, 1) := by decide +kernel
theorem zd_M_turn_24 : decode I_M_turn.2.1 24 = .ok (.getfield 23, 3) := by decide +kernel
theorem zd_M_turn_27 : decode I_M_turn.2.1 27 = .ok (.iload_n 3, 1) := by decide +kernel
theorem zd_M_turn_28 : decode I_M_turn.2.1 28 = .ok (.iaload, 1) := by decide +kernel
theorem zd_M_turn_29 : decode I_M_turn.2.1 29 = .ok (.iload_n 1, 1) := by decide +kernel
theorem zd_M_turn_30 : decode I_M_turn.2.1 30 = .ok (.if_icmp .eq 6, 3) := by decide +kernel
theorem zd_M_turn_33 : decode I_M_turn.2.1 33 = .ok (.goto 84, 3) := by decide +kernel
theorem zd_M_turn_36 : decode I_M_turn.2.1 36 = .ok (.iconst 0, 1) := by decide +kernel
theorem zd_M_turn_37 : decode I_M_turn.2.1 37 = .ok (.istore 4, 2) := by decide +kernel
theorem zd_M_turn_39 : decode I_M_turn.2.1 39 = .ok (.iconst 0, 1) := by decide +kernel
theorem zd_M_turn_40 : decode I_M_turn.2.1 40 = .ok (.istore 5, 2) := by decide +kernel
theorem zd_M_turn_42 : decode I_M_turn.2.1 42 = .ok (.iload 5, 2) := by decide +kernel
theorem zd_M_turn_44 : decode I_M_turn.2.1 44 = .ok (.aload_n 0, 1) := by decide +kernel
theorem zd_M_turn_45 : decode I_M_turn.2.1 45 = .ok (.getfield 110, 3) := by decide +kernel
theorem zd_M_turn_48 : decode I_M_turn.2.1 48 = .ok (.if_icmp .ge 61, 3) := by decide +kernel
theorem zd_M_turn_51 : decode I_M_turn.2.1 51 = .ok (.aload_n 0, 1) := by decide +kernel
theorem zd_M_turn_52 : decode I_M_turn.2.1 52 = .ok (.getfield 23, 3) := by decide +kernel
theorem zd_M_turn_55 : decode I_M_turn.2.1 55 = .ok (.iload 5, 2) := by decide +kernel
theorem zd_M_turn_57 : decode I_M_turn.2.1 57 = .ok (.iaload, 1) := by decide +kernel
theorem zd_M_turn_58 : decode I_M_turn.2.1 58 = .ok (.iload_n 1, 1) := by decide +kernel
theorem zd_M_turn_59 : decode I_M_turn.2.1 59 = .ok (.if_icmp .ne 44, 3) := by decide +kernel
theorem zd_M_turn_62 : decode I_M_turn.2.1 62 = .ok (.aload_n 0, 1) := by decide +kernel
theorem zd_M_turn_63 : decode I_M_turn.2.1 63 = .ok (.getfield 29, 3) := by decide +kernel
theorem zd_M_turn_66 : decode I_M_turn.2.1 66 = .ok (.iload 5, 2) := by decide +kernel
theorem zd_M_turn_68 : decode I_M_turn.2.1 68 = .ok (.iaload, 1) := by decide +kernel
theorem zd_M_turn_69 : decode I_M_turn.2.1 69 = .ok (.aload_n 0, 1) := by decide +kernel
theorem zd_M_turn_70 : decode I_M_turn.2.1 70 = .ok (.getfield 29, 3) := by decide +kernel
theorem zd_M_turn_73 : decode I_M_turn.2.1 73 = .ok (.iload_n 3, 1) := by decide +kernel
theorem zd_M_turn_74 : decode I_M_turn.2.1 74 = .ok (.iaload, 1) := by decide +kernel
theorem zd_M_turn_75 : decode I_M_turn.2.1 75 = .ok (.if_icmp .lt 25, 3) := by decide +kernel
theorem zd_M_turn_78 : decode I_M_turn.2.1 78 = .ok (.aload_n 0, 1) := by decide +kernel
theorem zd_M_turn_79 : decode I_M_turn.2.1 79 = .ok (.getfield 29, 3) := by decide +kernel
theorem zd_M_turn_82 : decode I_M_turn.2.1 82 = .ok (.iload 5, 2) := by decide +kernel
theorem zd_M_turn_84 : decode I_M_turn.2.1 84 = .ok (.iaload, 1) := by decide +kernel
theorem zd_M_turn_85 : decode I_M_turn.2.1 85 = .ok (.aload_n 0, 1) := by decide +kernel
theorem zd_M_turn_86 : decode I_M_turn.2.1 86 = .ok (.getfield 29, 3) := by decide +kernel
theorem zd_M_turn_89 : decode I_M_turn.2.1 89 = .ok (.iload_n 3, 1) := by decide +kernel
theorem zd_M_turn_90 : decode I_M_turn.2.1 90 = .ok (.iaload, 1) := by decide +kernel
theorem zd_M_turn_91 : decode I_M_turn.2.1 91 = .ok (.if_icmp .ne 12, 3) := by decide +kernel
theorem zd_M_turn_94 : decode I_M_turn.2.1 94 = .ok (.iload 5, 2) := by decide +kernel
theorem zd_M_turn_96 : decode I_M_turn.2.1 96 = .ok (.iload_n 3, 1) := by decide +kernel
theorem zd_M_turn_97 : decode I_M_turn.2.1 97 = .ok (.if_icmp .ge 6, 3) := by decide +kernel
theorem zd_M_turn_100 : decode I_M_turn.2.1 100 = .ok (.iinc 4 1, 3) := by decide +kernel
theorem zd_M_turn_103 : decode I_M_turn.2.1 103 = .ok (.iinc 5 1, 3) := by decide +kernel
theorem zd_M_turn_106 : decode I_M_turn.2.1 106 = .ok (.goto (-64), 3) := by decide +kernel
theorem zd_M_turn_109 : decode I_M_turn.2.1 109 = .ok (.iload 4, 2) := by decide +kernel
theorem zd_M_turn_111 : decode I_M_turn.2.1 111 = .ok (.iload_n 2, 1) := by decide +kernel
theorem zd_M_turn_112 : decode I_M_turn.2.1 112 = .ok (.if_icmp .ne 5, 3) := by decide +kernel
theorem zd_M_turn_115 : decode I_M_turn.2.1 115 = .ok (.iload_n 3, 1) := by decide +kernel
theorem zd_M_turn_116 : decode I_M_turn.2.1 116 = .ok (.ireturn, 1) := by decide +kernel
theorem zd_M_turn_117 : decode I_M_turn.2.1 117 = .ok (.iinc 3 1, 3) := by decide +kernel
theorem zd_M_turn_120 : decode I_M_turn.2.1 120 = .ok (.goto (-105), 3) := by decide +kernel
theorem zd_M_turn_123 : decode I_M_turn.2.1 123 = .ok (.bipush (-9), 2) := by decide +kernel
theorem zd_M_turn_125 : decode I_M_turn.2.1 125 = .ok (.ireturn, 1) := by decide +kernel
theorem zd_M_personOf_0 : decode I_M_personOf.2.1 0 = .ok (.aload_n 0, 1) := by decide +kernel
theorem zd_M_personOf_1 : decode I_M_personOf.2.1 1 = .ok (.iload_n 1, 1) := by decide +kernel
theorem zd_M_personOf_2 : decode I_M_personOf.2.1 2 = .ok (.invokevirtual 137, 3) := by decide +kernel
theorem zd_M_personOf_5 : decode I_M_personOf.2.1 5 = .ok (.ifCond .ne 9, 3) := by decide +kernel
theorem zd_M_personOf_8 : decode I_M_personOf.2.1 8 = .ok (.aload_n 0, 1) := by decide +kernel
theorem zd_M_personOf_9 : decode I_M_personOf.2.1 9 = .ok (.iconst (-1), 1) := by decide +kernel
theorem zd_M_personOf_10 : decode I_M_personOf.2.1 10 = .ok (.invokevirtual 133, 3) := by decide +kernel
theorem zd_M_personOf_13 : decode I_M_personOf.2.1 13 = .ok (.ireturn, 1) := by decide +kernel
theorem zd_M_personOf_14 : decode I_M_personOf.2.1 14 = .ok (.iload_n 2, 1) := by decide +kernel
theorem zd_M_personOf_15 : decode I_M_personOf.2.1 15 = .ok (.ifCond .lt 9, 3) := by decide +kernel
theorem zd_M_personOf_18 : decode I_M_personOf.2.1 18 = .ok (.iload_n 2, 1) := by decide +kernel
theorem zd_M_personOf_19 : decode I_M_personOf.2.1 19 = .ok (.bipush 19, 2) := by decide +kernel
theorem zd_M_personOf_21 : decode I_M_personOf.2.1 21 = .ok (.if_icmp .le 10, 3) := by decide +kernel
theorem zd_M_personOf_24 : decode I_M_personOf.2.1 24 = .ok (.aload_n 0, 1) := by decide +kernel
theorem zd_M_personOf_25 : decode I_M_personOf.2.1 25 = .ok (.bipush (-2), 2) := by decide +kernel
theorem zd_M_personOf_27 : decode I_M_personOf.2.1 27 = .ok (.invokevirtual 133, 3) := by decide +kernel
theorem zd_M_personOf_30 : decode I_M_personOf.2.1 30 = .ok (.ireturn, 1) := by decide +kernel
theorem zd_M_personOf_31 : decode I_M_personOf.2.1 31 = .ok (.iload_n 2, 1) := by decide +kernel
theorem zd_M_personOf_32 : decode I_M_personOf.2.1 32 = .ok (.tableswitch 60 0 3 #[32, 39, 46, 53], 32) := by decide +kernel
theorem zd_M_personOf_64 : decode I_M_personOf.2.1 64 = .ok (.aload_n 0, 1) := by decide +kernel
theorem zd_M_personOf_65 : decode I_M_personOf.2.1 65 = .ok (.getfield 23, 3) := by decide +kernel
theorem zd_M_personOf_68 : decode I_M_personOf.2.1 68 = .ok (.iload_n 1, 1) := by decide +kernel
theorem zd_M_personOf_69 : decode I_M_personOf.2.1 69 = .ok (.iaload, 1) := by decide +kernel
theorem zd_M_personOf_70 : decode I_M_personOf.2.1 70 = .ok (.ireturn, 1) := by decide +kernel
theorem zd_M_personOf_71 : decode I_M_personOf.2.1 71 = .ok (.aload_n 0, 1) := by decide +kernel
theorem zd_M_personOf_72 : decode I_M_personOf.2.1 72 = .ok (.getfield 26, 3) := by decide +kernel
theorem zd_M_personOf_75 : decode I_M_personOf.2.1 75 = .ok (.iload_n 1, 1) := by decide +kernel
theorem zd_M_personOf_76 : decode I_M_personOf.2.1 76 = .ok (.iaload, 1) := by decide +kernel
theorem zd_M_personOf_77 : decode I_M_personOf.2.1 77 = .ok (.ireturn, 1) := by decide +kernel
theorem zd_M_personOf_78 : decode I_M_personOf.2.1 78 = .ok (.aload_n 0, 1) := by decide +kernel
theorem zd_M_personOf_79 : decode I_M_personOf.2.1 79 = .ok (.getfield 29, 3) := by decide +kernel
theorem zd_M_personOf_82 : decode I_M_personOf.2.1 82 = .ok (.iload_n 1, 1) := by decide +kernel
theorem zd_M_personOf_83 : decode I_M_personOf.2.1 83 = .ok (.iaload, 1) := by decide +kernel
theorem zd_M_personOf_84 : decode I_M_personOf.2.1 84 = .ok (.ireturn, 1) := by decide +kernel
theorem zd_M_personOf_85 : decode I_M_personOf.2.1 85 = .ok (.aload_n 0, 1) := by decide +kernel
theorem zd_M_personOf_86 : decode I_M_personOf.2.1 86 = .ok (.getfield 32, 3) := by decide +kernel
theorem zd_M_personOf_89 : decode I_M_personOf.2.1 89 = .ok (.iload_n 1, 1) := by decide +kernel
theorem zd_M_personOf_90 : decode I_M_personOf.2.1 90 = .ok (.iaload, 1) := by decide +kernel
theorem zd_M_personOf_91 : decode I_M_personOf.2.1 91 = .ok (.ireturn, 1) := by decide +kernel
theorem zd_M_personOf_92 : decode I_M_personOf.2.1 92 = .ok (.iload_n 2, 1) := by decide +kernel
theorem zd_M_personOf_93 : decode I_M_personOf.2.1 93 = .ok (.bipush 12, 2) := by decide +kernel
theorem zd_M_personOf_95 : decode I_M_personOf.2.1 95 = .ok (.if_icmp .ge 19, 3) := by decide +kernel
theorem zd_M_personOf_98 : decode I_M_personOf.2.1 98 = .ok (.aload_n 0, 1) := by decide +kernel
theorem zd_M_personOf_99 : decode I_M_personOf.2.1 99 = .ok (.getfield 35, 3) := by decide +kernel
theorem zd_M_personOf_102 : decode I_M_personOf.2.1 102 = .ok (.bipush 8, 2) := by decide +kernel
theorem zd_M_personOf_104 : decode I_M_personOf.2.1 104 = .ok (.iload_n 1, 1) := by decide +kernel
theorem zd_M_personOf_105 : decode I_M_personOf.2.1 105 = .ok (.imul, 1) := by decide +kernel
theorem zd_M_personOf_106 : decode I_M_personOf.2.1 106 = .ok (.iload_n 2, 1) := by decide +kernel
theorem zd_M_personOf_107 : decode I_M_personOf.2.1 107 = .ok (.iadd, 1) := by decide +kernel
theorem zd_M_personOf_108 : decode I_M_personOf.2.1 108 = .ok (.iconst 4, 1) := by decide +kernel
theorem zd_M_personOf_109 : decode I_M_personOf.2.1 109 = .ok (.isub, 1) := by decide +kernel
theorem zd_M_personOf_110 : decode I_M_personOf.2.1 110 = .ok (.iaload, 1) := by decide +kernel
theorem zd_M_personOf_111 : decode I_M_personOf.2.1 111 = .ok (.goto 17, 3) := by decide +kernel
theorem zd_M_personOf_114 : decode I_M_personOf.2.1 114 = .ok (.aload_n 0, 1) := by decide +kernel
theorem zd_M_personOf_115 : decode I_M_personOf.2.1 115 = .ok (.getfield 38, 3) := by decide +kernel
theorem zd_M_personOf_118 : decode I_M_personOf.2.1 118 = .ok (.bipush 8, 2) := by decide +kernel
theorem zd_M_personOf_120 : decode I_M_personOf.2.1 120 = .ok (.iload_n 1, 1) := by decide +kernel
theorem zd_M_personOf_121 : decode I_M_personOf.2.1 121 = .ok (.imul, 1) := by decide +kernel
theorem zd_M_personOf_122 : decode I_M_personOf.2.1 122 = .ok (.iload_n 2, 1) := by decide +kernel
theorem zd_M_personOf_123 : decode I_M_personOf.2.1 123 = .ok (.iadd, 1) := by decide +kernel
theorem zd_M_personOf_124 : decode I_M_personOf.2.1 124 = .ok (.bipush 12, 2) := by decide +kernel
theorem zd_M_personOf_126 : decode I_M_personOf.2.1 126 = .ok (.isub, 1) := by decide +kernel
theorem zd_M_personOf_127 : decode I_M_personOf.2.1 127 = .ok (.iaload, 1) := by decide +kernel
theorem zd_M_personOf_128 : decode I_M_personOf.2.1 128 = .ok (.ireturn, 1) := by decide +kernel
theorem zd_M_count_0 : decode I_M_count.2.1 0 = .ok (.iload_n 1, 1) := by decide +kernel
theorem zd_M_count_1 : decode I_M_count.2.1 1 = .ok (.bipush 10, 2) := by decide +kernel
theorem zd_M_count_3 : decode I_M_count.2.1 3 = .ok (.if_icmp .le 19, 3) := by decide +kernel
theorem zd_M_count_6 : decode I_M_count.2.1 6 = .ok (.iload_n 1, 1) := by decide +kernel
theorem zd_M_count_7 : decode I_M_count.2.1 7 = .ok (.bipush 17, 2) := by decide +kernel
theorem zd_M_count_9 : decode I_M_count.2.1 9 = .ok (.if_icmp .ge 13, 3) := by decide +kernel
theorem zd_M_count_12 : decode I_M_count.2.1 12 = .ok (.aload_n 0, 1) := by decide +kernel
theorem zd_M_count_13 : decode I_M_count.2.1 13 = .ok (.getfield 89, 3) := by decide +kernel
theorem zd_M_count_16 : decode I_M_count.2.1 16 = .ok (.iload_n 1, 1) := by decide +kernel
theorem zd_M_count_17 : decode I_M_count.2.1 17 = .ok (.bipush 10, 2) := by decide +kernel
theorem zd_M_count_19 : decode I_M_count.2.1 19 = .ok (.isub, 1) := by decide +kernel
theorem zd_M_count_20 : decode I_M_count.2.1 20 = .ok (.iaload, 1) := by decide +kernel
theorem zd_M_count_21 : decode I_M_count.2.1 21 = .ok (.ireturn, 1) := by decide +kernel
theorem zd_M_count_22 : decode I_M_count.2.1 22 = .ok (.iconst 0, 1) := by decide +kernel
theorem zd_M_count_23 : decode I_M_count.2.1 23 = .ok (.istore_n 2, 1) := by decide +kernel
theorem zd_M_count_24 : decode I_M_count.2.1 24 = .ok (.iload_n 1, 1) := by decide +kernel
theorem zd_M_count_25 : decode I_M_count.2.1 25 = .ok (.tableswitch 133 0 7 #[47, 52, 57, 62, 67, 96, 101, 106], 47) := by decide +kernel
theorem zd_M_count_72 : decode I_M_count.2.1 72 = .ok (.aload_n 0, 1) := by decide +kernel
theorem zd_M_count_73 : decode I_M_count.2.1 73 = .ok (.getfield 119, 3) := by decide +kernel
theorem zd_M_count_76 : decode I_M_count.2.1 76 = .ok (.ireturn, 1) := by decide +kernel
theorem zd_M_count_77 : decode I_M_count.2.1 77 = .ok (.aload_n 0, 1) := by decide +kernel
theorem zd_M_count_78 : decode I_M_count.2.1 78 = .ok (.invokevirtual 140, 3) := by decide +kernel
theorem zd_M_count_81 : decode I_M_count.2.1 81 = .ok (.ireturn, 1) := by decide +kernel
theorem zd_M_count_82 : decode I_M_count.2.1 82 = .ok (.aload_n 0, 1) := by decide +kernel
theorem zd_M_count_83 : decode I_M_count.2.1 83 = .ok (.getfield 110, 3) := by decide +kernel
theorem zd_M_count_86 : decode I_M_count.2.1 86 = .ok (.ireturn, 1) := by decide +kernel
theorem zd_M_count_87 : decode I_M_count.2.1 87 = .ok (.aload_n 0, 1) := by decide +kernel
theorem zd_M_count_88 : decode I_M_count.2.1 88 = .ok (.getfield 113, 3) := by decide +kernel
theorem zd_M_count_91 : decode I_M_count.2.1 91 = .ok (.ireturn, 1) := by decide +kernel
theorem zd_M_count_92 : decode I_M_count.2.1 92 = .ok (.iconst 0, 1) := by decide +kernel
theorem zd_M_count_93 : decode I_M_count.2.1 93 = .ok (.istore_n 3, 1) := by decide +kernel
theorem zd_M_count_94 : decode I_M_count.2.1 94 = .ok (.iload_n 3, 1) := by decide +kernel
theorem zd_M_count_95 : decode I_M_count.2.1 95 = .ok (.aload_n 0, 1) := by decide +kernel
theorem zd_M_count_96 : decode I_M_count.2.1 96 = .ok (.getfield 113, 3) := by decide +kernel
theorem zd_M_count_99 : decode I_M_count.2.1 99 = .ok (.if_icmp .ge 20, 3) := by decide +kernel
theorem zd_M_count_102 : decode I_M_count.2.1 102 = .ok (.aload_n 0, 1) := by decide +kernel
theorem zd_M_count_103 : decode I_M_count.2.1 103 = .ok (.iload_n 3, 1) := by decide +kernel
theorem zd_M_count_104 : decode I_M_count.2.1 104 = .ok (.invokevirtual 174, 3) := by decide +kernel
theorem zd_M_count_107 : decode I_M_count.2.1 107 = .ok (.ifCond .eq 6, 3) := by decide +kernel
theorem zd_M_count_110 : decode I_M_count.2.1 110 = .ok (.iinc 2 1, 3) := by decide +kernel
theorem zd_M_count_113 : decode I_M_count.2.1 113 = .ok (.iinc 3 1, 3) := by decide +kernel
theorem zd_M_count_116 : decode I_M_count.2.1 116 = .ok (.goto (-22), 3) := by decide +kernel
theorem zd_M_count_119 : decode I_M_count.2.1 119 = .ok (.iload_n 2, 1) := by decide +kernel
theorem zd_M_count_120 : decode I_M_count.2.1 120 = .ok (.ireturn, 1) := by decide +kernel
theorem zd_M_count_121 : decode I_M_count.2.1 121 = .ok (.aload_n 0, 1) := by decide +kernel
theorem zd_M_count_122 : decode I_M_count.2.1 122 = .ok (.getfield 116, 3) := by decide +kernel
theorem zd_M_count_125 : decode I_M_count.2.1 125 = .ok (.ireturn, 1) := by decide +kernel
theorem zd_M_count_126 : decode I_M_count.2.1 126 = .ok (.aload_n 0, 1) := by decide +kernel
theorem zd_M_count_127 : decode I_M_count.2.1 127 = .ok (.getfield 201, 3) := by decide +kernel
theorem zd_M_count_130 : decode I_M_count.2.1 130 = .ok (.ireturn, 1) := by decide +kernel
theorem zd_M_count_131 : decode I_M_count.2.1 131 = .ok (.iconst 0, 1) := by decide +kernel
theorem zd_M_count_132 : decode I_M_count.2.1 132 = .ok (.istore_n 3, 1) := by decide +kernel
theorem zd_M_count_133 : decode I_M_count.2.1 133 = .ok (.iload_n 3, 1) := by decide +kernel
theorem zd_M_count_134 : decode I_M_count.2.1 134 = .ok (.bipush 6, 2) := by decide +kernel
theorem zd_M_count_136 : decode I_M_count.2.1 136 = .ok (.if_icmp .ge 20, 3) := by decide +kernel
theorem zd_M_count_139 : decode I_M_count.2.1 139 = .ok (.aload_n 0, 1) := by decide +kernel
theorem zd_M_count_140 : decode I_M_count.2.1 140 = .ok (.iload_n 3, 1) := by decide +kernel
theorem zd_M_count_141 : decode I_M_count.2.1 141 = .ok (.invokevirtual 204, 3) := by decide +kernel
theorem zd_M_count_144 : decode I_M_count.2.1 144 = .ok (.ifCond .le 6, 3) := by decide +kernel
theorem zd_M_count_147 : decode I_M_count.2.1 147 = .ok (.iinc 2 1, 3) := by decide +kernel
theorem zd_M_count_150 : decode I_M_count.2.1 150 = .ok (.iinc 3 1, 3) := by decide +kernel
theorem zd_M_count_153 : decode I_M_count.2.1 153 = .ok (.goto (-20), 3) := by decide +kernel
theorem zd_M_count_156 : decode I_M_count.2.1 156 = .ok (.iload_n 2, 1) := by decide +kernel
theorem zd_M_count_157 : decode I_M_count.2.1 157 = .ok (.ireturn, 1) := by decide +kernel
theorem zd_M_count_158 : decode I_M_count.2.1 158 = .ok (.bipush (-9), 2) := by decide +kernel
theorem zd_M_count_160 : decode I_M_count.2.1 160 = .ok (.ireturn, 1) := by decide +kernel
