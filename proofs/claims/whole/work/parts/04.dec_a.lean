theorem d_Ar_fill_0 : decode b_Ar_fill 0 = .ok (.iconst 0, 1) := by decide +kernel
theorem d_Ar_fill_1 : decode b_Ar_fill 1 = .ok (.istore_n 2, 1) := by decide +kernel
theorem d_Ar_fill_2 : decode b_Ar_fill 2 = .ok (.aload_n 0, 1) := by decide +kernel
theorem d_Ar_fill_3 : decode b_Ar_fill 3 = .ok (.arraylength, 1) := by decide +kernel
theorem d_Ar_fill_4 : decode b_Ar_fill 4 = .ok (.istore_n 3, 1) := by decide +kernel
theorem d_Ar_fill_5 : decode b_Ar_fill 5 = .ok (.iload_n 2, 1) := by decide +kernel
theorem d_Ar_fill_6 : decode b_Ar_fill 6 = .ok (.iload_n 3, 1) := by decide +kernel
theorem d_Ar_fill_7 : decode b_Ar_fill 7 = .ok (.if_icmp .ge 13, 3) := by decide +kernel
theorem d_Ar_fill_10 : decode b_Ar_fill 10 = .ok (.aload_n 0, 1) := by decide +kernel
theorem d_Ar_fill_11 : decode b_Ar_fill 11 = .ok (.iload_n 2, 1) := by decide +kernel
theorem d_Ar_fill_12 : decode b_Ar_fill 12 = .ok (.iload_n 1, 1) := by decide +kernel
theorem d_Ar_fill_13 : decode b_Ar_fill 13 = .ok (.iastore, 1) := by decide +kernel
theorem d_Ar_fill_14 : decode b_Ar_fill 14 = .ok (.iinc 2 1, 3) := by decide +kernel
theorem d_Ar_fill_17 : decode b_Ar_fill 17 = .ok (.goto (-12), 3) := by decide +kernel
theorem d_Ar_fill_20 : decode b_Ar_fill 20 = .ok (.return_, 1) := by decide +kernel
theorem d_Sc_init_0 : decode b_Sc_init 0 = .ok (.aload_n 0, 1) := by decide +kernel
theorem d_Sc_init_1 : decode b_Sc_init 1 = .ok (.invokespecial 1, 3) := by decide +kernel
theorem d_Sc_init_4 : decode b_Sc_init 4 = .ok (.aload_n 0, 1) := by decide +kernel
theorem d_Sc_init_5 : decode b_Sc_init 5 = .ok (.iconst 1, 1) := by decide +kernel
theorem d_Sc_init_6 : decode b_Sc_init 6 = .ok (.iload_n 1, 1) := by decide +kernel
theorem d_Sc_init_7 : decode b_Sc_init 7 = .ok (.iconst 2, 1) := by decide +kernel
theorem d_Sc_init_8 : decode b_Sc_init 8 = .ok (.bipush 16, 2) := by decide +kernel
theorem d_Sc_init_10 : decode b_Sc_init 10 = .ok (.invokestatic 7, 3) := by decide +kernel
theorem d_Sc_init_13 : decode b_Sc_init 13 = .ok (.ishl, 1) := by decide +kernel
theorem d_Sc_init_14 : decode b_Sc_init 14 = .ok (.iconst 1, 1) := by decide +kernel
theorem d_Sc_init_15 : decode b_Sc_init 15 = .ok (.isub, 1) := by decide +kernel
theorem d_Sc_init_16 : decode b_Sc_init 16 = .ok (.putfield 13, 3) := by decide +kernel
theorem d_Sc_init_19 : decode b_Sc_init 19 = .ok (.aload_n 0, 1) := by decide +kernel
theorem d_Sc_init_20 : decode b_Sc_init 20 = .ok (.iload_n 2, 1) := by decide +kernel
theorem d_Sc_init_21 : decode b_Sc_init 21 = .ok (.iconst 0, 1) := by decide +kernel
theorem d_Sc_init_22 : decode b_Sc_init 22 = .ok (.sipush 255, 3) := by decide +kernel
theorem d_Sc_init_25 : decode b_Sc_init 25 = .ok (.aload_n 0, 1) := by decide +kernel
theorem d_Sc_init_26 : decode b_Sc_init 26 = .ok (.getfield 13, 3) := by decide +kernel
theorem d_Sc_init_29 : decode b_Sc_init 29 = .ok (.iconst 2, 1) := by decide +kernel
theorem d_Sc_init_30 : decode b_Sc_init 30 = .ok (.idiv, 1) := by decide +kernel
theorem d_Sc_init_31 : decode b_Sc_init 31 = .ok (.invokestatic 19, 3) := by decide +kernel
theorem d_Sc_init_34 : decode b_Sc_init 34 = .ok (.invokestatic 7, 3) := by decide +kernel
theorem d_Sc_init_37 : decode b_Sc_init 37 = .ok (.putfield 25, 3) := by decide +kernel
theorem d_Sc_init_40 : decode b_Sc_init 40 = .ok (.aload_n 0, 1) := by decide +kernel
theorem d_Sc_init_41 : decode b_Sc_init 41 = .ok (.iconst 2, 1) := by decide +kernel
theorem d_Sc_init_42 : decode b_Sc_init 42 = .ok (.aload_n 0, 1) := by decide +kernel
theorem d_Sc_init_43 : decode b_Sc_init 43 = .ok (.getfield 25, 3) := by decide +kernel
theorem d_Sc_init_46 : decode b_Sc_init 46 = .ok (.imul, 1) := by decide +kernel
theorem d_Sc_init_47 : decode b_Sc_init 47 = .ok (.iconst 1, 1) := by decide +kernel
theorem d_Sc_init_48 : decode b_Sc_init 48 = .ok (.iadd, 1) := by decide +kernel
theorem d_Sc_init_49 : decode b_Sc_init 49 = .ok (.putfield 28, 3) := by decide +kernel
theorem d_Sc_init_52 : decode b_Sc_init 52 = .ok (.aload_n 0, 1) := by decide +kernel
theorem d_Sc_init_53 : decode b_Sc_init 53 = .ok (.aload_n 0, 1) := by decide +kernel
theorem d_Sc_init_54 : decode b_Sc_init 54 = .ok (.getfield 13, 3) := by decide +kernel
theorem d_Sc_init_57 : decode b_Sc_init 57 = .ok (.iconst 2, 1) := by decide +kernel
theorem d_Sc_init_58 : decode b_Sc_init 58 = .ok (.aload_n 0, 1) := by decide +kernel
theorem d_Sc_init_59 : decode b_Sc_init 59 = .ok (.getfield 25, 3) := by decide +kernel
theorem d_Sc_init_62 : decode b_Sc_init 62 = .ok (.imul, 1) := by decide +kernel
theorem d_Sc_init_63 : decode b_Sc_init 63 = .ok (.iadd, 1) := by decide +kernel
theorem d_Sc_init_64 : decode b_Sc_init 64 = .ok (.aload_n 0, 1) := by decide +kernel
theorem d_Sc_init_65 : decode b_Sc_init 65 = .ok (.getfield 28, 3) := by decide +kernel
theorem d_Sc_init_68 : decode b_Sc_init 68 = .ok (.invokestatic 31, 3) := by decide +kernel
theorem d_Sc_init_71 : decode b_Sc_init 71 = .ok (.iconst 1, 1) := by decide +kernel
theorem d_Sc_init_72 : decode b_Sc_init 72 = .ok (.iadd, 1) := by decide +kernel
theorem d_Sc_init_73 : decode b_Sc_init 73 = .ok (.putfield 34, 3) := by decide +kernel
theorem d_Sc_init_76 : decode b_Sc_init 76 = .ok (.aload_n 0, 1) := by decide +kernel
theorem d_Sc_init_77 : decode b_Sc_init 77 = .ok (.bipush 64, 2) := by decide +kernel
theorem d_Sc_init_79 : decode b_Sc_init 79 = .ok (.putfield 37, 3) := by decide +kernel
theorem d_Sc_init_82 : decode b_Sc_init 82 = .ok (.aload_n 0, 1) := by decide +kernel
theorem d_Sc_init_83 : decode b_Sc_init 83 = .ok (.invokevirtual 40, 3) := by decide +kernel
theorem d_Sc_init_86 : decode b_Sc_init 86 = .ok (.return_, 1) := by decide +kernel
theorem d_Sc_setFirstThresholds_0 : decode b_Sc_setFirstThresholds 0 = .ok (.aload_n 0, 1) := by decide +kernel
theorem d_Sc_setFirstThresholds_1 : decode b_Sc_setFirstThresholds 1 = .ok (.getfield 13, 3) := by decide +kernel
theorem d_Sc_setFirstThresholds_4 : decode b_Sc_setFirstThresholds 4 = .ok (.sipush 128, 3) := by decide +kernel
theorem d_Sc_setFirstThresholds_7 : decode b_Sc_setFirstThresholds 7 = .ok (.if_icmp .lt 68, 3) := by decide +kernel
theorem d_Sc_setFirstThresholds_10 : decode b_Sc_setFirstThresholds 10 = .ok (.aload_n 0, 1) := by decide +kernel
theorem d_Sc_setFirstThresholds_11 : decode b_Sc_setFirstThresholds 11 = .ok (.getfield 13, 3) := by decide +kernel
theorem d_Sc_setFirstThresholds_14 : decode b_Sc_setFirstThresholds 14 = .ok (.sipush 4095, 3) := by decide +kernel
theorem d_Sc_setFirstThresholds_17 : decode b_Sc_setFirstThresholds 17 = .ok (.invokestatic 19, 3) := by decide +kernel
theorem d_Sc_setFirstThresholds_20 : decode b_Sc_setFirstThresholds 20 = .ok (.sipush 128, 3) := by decide +kernel
theorem d_Sc_setFirstThresholds_23 : decode b_Sc_setFirstThresholds 23 = .ok (.iadd, 1) := by decide +kernel
theorem d_Sc_setFirstThresholds_24 : decode b_Sc_setFirstThresholds 24 = .ok (.sipush 256, 3) := by decide +kernel
theorem d_Sc_setFirstThresholds_27 : decode b_Sc_setFirstThresholds 27 = .ok (.idiv, 1) := by decide +kernel
theorem d_Sc_setFirstThresholds_28 : decode b_Sc_setFirstThresholds 28 = .ok (.istore 4, 2) := by decide +kernel
theorem d_Sc_setFirstThresholds_30 : decode b_Sc_setFirstThresholds 30 = .ok (.iload 4, 2) := by decide +kernel
theorem d_Sc_setFirstThresholds_32 : decode b_Sc_setFirstThresholds 32 = .ok (.iconst 2, 1) := by decide +kernel
theorem d_Sc_setFirstThresholds_33 : decode b_Sc_setFirstThresholds 33 = .ok (.iadd, 1) := by decide +kernel
theorem d_Sc_setFirstThresholds_34 : decode b_Sc_setFirstThresholds 34 = .ok (.iconst 3, 1) := by decide +kernel
theorem d_Sc_setFirstThresholds_35 : decode b_Sc_setFirstThresholds 35 = .ok (.aload_n 0, 1) := by decide +kernel
theorem d_Sc_setFirstThresholds_36 : decode b_Sc_setFirstThresholds 36 = .ok (.getfield 25, 3) := by decide +kernel
theorem d_Sc_setFirstThresholds_39 : decode b_Sc_setFirstThresholds 39 = .ok (.imul, 1) := by decide +kernel
theorem d_Sc_setFirstThresholds_40 : decode b_Sc_setFirstThresholds 40 = .ok (.iadd, 1) := by decide +kernel
theorem d_Sc_setFirstThresholds_41 : decode b_Sc_setFirstThresholds 41 = .ok (.istore_n 1, 1) := by decide +kernel
theorem d_Sc_setFirstThresholds_42 : decode b_Sc_setFirstThresholds 42 = .ok (.iconst 4, 1) := by decide +kernel
theorem d_Sc_setFirstThresholds_43 : decode b_Sc_setFirstThresholds 43 = .ok (.iload 4, 2) := by decide +kernel
theorem d_Sc_setFirstThresholds_45 : decode b_Sc_setFirstThresholds 45 = .ok (.imul, 1) := by decide +kernel
theorem d_Sc_setFirstThresholds_46 : decode b_Sc_setFirstThresholds 46 = .ok (.iconst 3, 1) := by decide +kernel
theorem d_Sc_setFirstThresholds_47 : decode b_Sc_setFirstThresholds 47 = .ok (.iadd, 1) := by decide +kernel
theorem d_Sc_setFirstThresholds_48 : decode b_Sc_setFirstThresholds 48 = .ok (.iconst 5, 1) := by decide +kernel
theorem d_Sc_setFirstThresholds_49 : decode b_Sc_setFirstThresholds 49 = .ok (.aload_n 0, 1) := by decide +kernel
theorem d_Sc_setFirstThresholds_50 : decode b_Sc_setFirstThresholds 50 = .ok (.getfield 25, 3) := by decide +kernel
theorem d_Sc_setFirstThresholds_53 : decode b_Sc_setFirstThresholds 53 = .ok (.imul, 1) := by decide +kernel
theorem d_Sc_setFirstThresholds_54 : decode b_Sc_setFirstThresholds 54 = .ok (.iadd, 1) := by decide +kernel
theorem d_Sc_setFirstThresholds_55 : decode b_Sc_setFirstThresholds 55 = .ok (.istore_n 2, 1) := by decide +kernel
theorem d_Sc_setFirstThresholds_56 : decode b_Sc_setFirstThresholds 56 = .ok (.bipush 17, 2) := by decide +kernel
theorem d_Sc_setFirstThresholds_58 : decode b_Sc_setFirstThresholds 58 = .ok (.iload 4, 2) := by decide +kernel
theorem d_Sc_setFirstThresholds_60 : decode b_Sc_setFirstThresholds 60 = .ok (.imul, 1) := by decide +kernel
theorem d_Sc_setFirstThresholds_61 : decode b_Sc_setFirstThresholds 61 = .ok (.iconst 4, 1) := by decide +kernel
theorem d_Sc_setFirstThresholds_62 : decode b_Sc_setFirstThresholds 62 = .ok (.iadd, 1) := by decide +kernel
theorem d_Sc_setFirstThresholds_63 : decode b_Sc_setFirstThresholds 63 = .ok (.bipush 7, 2) := by decide +kernel
theorem d_Sc_setFirstThresholds_65 : decode b_Sc_setFirstThresholds 65 = .ok (.aload_n 0, 1) := by decide +kernel
theorem d_Sc_setFirstThresholds_66 : decode b_Sc_setFirstThresholds 66 = .ok (.getfield 25, 3) := by decide +kernel
theorem d_Sc_setFirstThresholds_69 : decode b_Sc_setFirstThresholds 69 = .ok (.imul, 1) := by decide +kernel
theorem d_Sc_setFirstThresholds_70 : decode b_Sc_setFirstThresholds 70 = .ok (.iadd, 1) := by decide +kernel
theorem d_Sc_setFirstThresholds_71 : decode b_Sc_setFirstThresholds 71 = .ok (.istore_n 3, 1) := by decide +kernel
theorem d_Sc_setFirstThresholds_72 : decode b_Sc_setFirstThresholds 72 = .ok (.goto 74, 3) := by decide +kernel
theorem d_Sc_setFirstThresholds_75 : decode b_Sc_setFirstThresholds 75 = .ok (.sipush 256, 3) := by decide +kernel
theorem d_Sc_setFirstThresholds_78 : decode b_Sc_setFirstThresholds 78 = .ok (.aload_n 0, 1) := by decide +kernel
theorem d_Sc_setFirstThresholds_79 : decode b_Sc_setFirstThresholds 79 = .ok (.getfield 13, 3) := by decide +kernel
theorem d_Sc_setFirstThresholds_82 : decode b_Sc_setFirstThresholds 82 = .ok (.iconst 1, 1) := by decide +kernel
theorem d_Sc_setFirstThresholds_83 : decode b_Sc_setFirstThresholds 83 = .ok (.iadd, 1) := by decide +kernel
theorem d_Sc_setFirstThresholds_84 : decode b_Sc_setFirstThresholds 84 = .ok (.invokestatic 31, 3) := by decide +kernel
theorem d_Sc_setFirstThresholds_87 : decode b_Sc_setFirstThresholds 87 = .ok (.istore 4, 2) := by decide +kernel
theorem d_Sc_setFirstThresholds_89 : decode b_Sc_setFirstThresholds 89 = .ok (.iconst 2, 1) := by decide +kernel
theorem d_Sc_setFirstThresholds_90 : decode b_Sc_setFirstThresholds 90 = .ok (.iconst 3, 1) := by decide +kernel
theorem d_Sc_setFirstThresholds_91 : decode b_Sc_setFirstThresholds 91 = .ok (.iload 4, 2) := by decide +kernel
theorem d_Sc_setFirstThresholds_93 : decode b_Sc_setFirstThresholds 93 = .ok (.invokestatic 31, 3) := by decide +kernel
theorem d_Sc_setFirstThresholds_96 : decode b_Sc_setFirstThresholds 96 = .ok (.iconst 3, 1) := by decide +kernel
theorem d_Sc_setFirstThresholds_97 : decode b_Sc_setFirstThresholds 97 = .ok (.aload_n 0, 1) := by decide +kernel
theorem d_Sc_setFirstThresholds_98 : decode b_Sc_setFirstThresholds 98 = .ok (.getfield 25, 3) := by decide +kernel
theorem d_Sc_setFirstThresholds_101 : decode b_Sc_setFirstThresholds 101 = .ok (.imul, 1) := by decide +kernel
theorem d_Sc_setFirstThresholds_102 : decode b_Sc_setFirstThresholds 102 = .ok (.iadd, 1) := by decide +kernel
theorem d_Sc_setFirstThresholds_103 : decode b_Sc_setFirstThresholds 103 = .ok (.invokestatic 43, 3) := by decide +kernel
theorem d_Sc_setFirstThresholds_106 : decode b_Sc_setFirstThresholds 106 = .ok (.istore_n 1, 1) := by decide +kernel
theorem d_Sc_setFirstThresholds_107 : decode b_Sc_setFirstThresholds 107 = .ok (.iconst 3, 1) := by decide +kernel
theorem d_Sc_setFirstThresholds_108 : decode b_Sc_setFirstThresholds 108 = .ok (.bipush 7, 2) := by decide +kernel
theorem d_Sc_setFirstThresholds_110 : decode b_Sc_setFirstThresholds 110 = .ok (.iload 4, 2) := by decide +kernel
theorem d_Sc_setFirstThresholds_112 : decode b_Sc_setFirstThresholds 112 = .ok (.invokestatic 31, 3) := by decide +kernel
theorem d_Sc_setFirstThresholds_115 : decode b_Sc_setFirstThresholds 115 = .ok (.iconst 5, 1) := by decide +kernel
theorem d_Sc_setFirstThresholds_116 : decode b_Sc_setFirstThresholds 116 = .ok (.aload_n 0, 1) := by decide +kernel
theorem d_Sc_setFirstThresholds_117 : decode b_Sc_setFirstThresholds 117 = .ok (.getfield 25, 3) := by decide +kernel
theorem d_Sc_setFirstThresholds_120 : decode b_Sc_setFirstThresholds 120 = .ok (.imul, 1) := by decide +kernel
theorem d_Sc_setFirstThresholds_121 : decode b_Sc_setFirstThresholds 121 = .ok (.iadd, 1) := by decide +kernel
theorem d_Sc_setFirstThresholds_122 : decode b_Sc_setFirstThresholds 122 = .ok (.invokestatic 43, 3) := by decide +kernel
theorem d_Sc_setFirstThresholds_125 : decode b_Sc_setFirstThresholds 125 = .ok (.istore_n 2, 1) := by decide +kernel
theorem d_Sc_setFirstThresholds_126 : decode b_Sc_setFirstThresholds 126 = .ok (.iconst 4, 1) := by decide +kernel
theorem d_Sc_setFirstThresholds_127 : decode b_Sc_setFirstThresholds 127 = .ok (.bipush 21, 2) := by decide +kernel
theorem d_Sc_setFirstThresholds_129 : decode b_Sc_setFirstThresholds 129 = .ok (.iload 4, 2) := by decide +kernel
theorem d_Sc_setFirstThresholds_131 : decode b_Sc_setFirstThresholds 131 = .ok (.invokestatic 31, 3) := by decide +kernel
theorem d_Sc_setFirstThresholds_134 : decode b_Sc_setFirstThresholds 134 = .ok (.bipush 7, 2) := by decide +kernel
theorem d_Sc_setFirstThresholds_136 : decode b_Sc_setFirstThresholds 136 = .ok (.aload_n 0, 1) := by decide +kernel
theorem d_Sc_setFirstThresholds_137 : decode b_Sc_setFirstThresholds 137 = .ok (.getfield 25, 3) := by decide +kernel
theorem d_Sc_setFirstThresholds_140 : decode b_Sc_setFirstThresholds 140 = .ok (.imul, 1) := by decide +kernel
theorem d_Sc_setFirstThresholds_141 : decode b_Sc_setFirstThresholds 141 = .ok (.iadd, 1) := by decide +kernel
theorem d_Sc_setFirstThresholds_142 : decode b_Sc_setFirstThresholds 142 = .ok (.invokestatic 43, 3) := by decide +kernel
theorem d_Sc_setFirstThresholds_145 : decode b_Sc_setFirstThresholds 145 = .ok (.istore_n 3, 1) := by decide +kernel
theorem d_Sc_setFirstThresholds_146 : decode b_Sc_setFirstThresholds 146 = .ok (.aload_n 0, 1) := by decide +kernel
theorem d_Sc_setFirstThresholds_147 : decode b_Sc_setFirstThresholds 147 = .ok (.aload_n 0, 1) := by decide +kernel
theorem d_Sc_setFirstThresholds_148 : decode b_Sc_setFirstThresholds 148 = .ok (.iload_n 1, 1) := by decide +kernel
theorem d_Sc_setFirstThresholds_149 : decode b_Sc_setFirstThresholds 149 = .ok (.aload_n 0, 1) := by decide +kernel
theorem d_Sc_setFirstThresholds_150 : decode b_Sc_setFirstThresholds 150 = .ok (.getfield 25, 3) := by decide +kernel
theorem d_Sc_setFirstThresholds_153 : decode b_Sc_setFirstThresholds 153 = .ok (.iconst 1, 1) := by decide +kernel
theorem d_Sc_setFirstThresholds_154 : decode b_Sc_setFirstThresholds 154 = .ok (.iadd, 1) := by decide +kernel
theorem d_Sc_setFirstThresholds_155 : decode b_Sc_setFirstThresholds 155 = .ok (.invokevirtual 45, 3) := by decide +kernel
theorem d_Sc_setFirstThresholds_158 : decode b_Sc_setFirstThresholds 158 = .ok (.putfield 48, 3) := by decide +kernel
theorem d_Sc_setFirstThresholds_161 : decode b_Sc_setFirstThresholds 161 = .ok (.aload_n 0, 1) := by decide +kernel
theorem d_Sc_setFirstThresholds_162 : decode b_Sc_setFirstThresholds 162 = .ok (.aload_n 0, 1) := by decide +kernel
theorem d_Sc_setFirstThresholds_163 : decode b_Sc_setFirstThresholds 163 = .ok (.iload_n 2, 1) := by decide +kernel
theorem d_Sc_setFirstThresholds_164 : decode b_Sc_setFirstThresholds 164 = .ok (.aload_n 0, 1) := by decide +kernel
theorem d_Sc_setFirstThresholds_165 : decode b_Sc_setFirstThresholds 165 = .ok (.getfield 48, 3) := by decide +kernel
theorem d_Sc_setFirstThresholds_168 : decode b_Sc_setFirstThresholds 168 = .ok (.invokevirtual 45, 3) := by decide +kernel
theorem d_Sc_setFirstThresholds_171 : decode b_Sc_setFirstThresholds 171 = .ok (.putfield 51, 3) := by decide +kernel
theorem d_Sc_setFirstThresholds_174 : decode b_Sc_setFirstThresholds 174 = .ok (.aload_n 0, 1) := by decide +kernel
theorem d_Sc_setFirstThresholds_175 : decode b_Sc_setFirstThresholds 175 = .ok (.aload_n 0, 1) := by decide +kernel
theorem d_Sc_setFirstThresholds_176 : decode b_Sc_setFirstThresholds 176 = .ok (.iload_n 3, 1) := by decide +kernel
theorem d_Sc_setFirstThresholds_177 : decode b_Sc_setFirstThresholds 177 = .ok (.aload_n 0, 1) := by decide +kernel
theorem d_Sc_setFirstThresholds_178 : decode b_Sc_setFirstThresholds 178 = .ok (.getfield 51, 3) := by decide +kernel
theorem d_Sc_setFirstThresholds_181 : decode b_Sc_setFirstThresholds 181 = .ok (.invokevirtual 45, 3) := by decide +kernel
theorem d_Sc_setFirstThresholds_184 : decode b_Sc_setFirstThresholds 184 = .ok (.putfield 54, 3) := by decide +kernel
theorem d_Sc_setFirstThresholds_187 : decode b_Sc_setFirstThresholds 187 = .ok (.return_, 1) := by decide +kernel
theorem d_Sc_thresholdOr_0 : decode b_Sc_thresholdOr 0 = .ok (.iload_n 1, 1) := by decide +kernel
theorem d_Sc_thresholdOr_1 : decode b_Sc_thresholdOr 1 = .ok (.iload_n 2, 1) := by decide +kernel
theorem d_Sc_thresholdOr_2 : decode b_Sc_thresholdOr 2 = .ok (.if_icmp .lt 11, 3) := by decide +kernel
theorem d_Sc_thresholdOr_5 : decode b_Sc_thresholdOr 5 = .ok (.iload_n 1, 1) := by decide +kernel
theorem d_Sc_thresholdOr_6 : decode b_Sc_thresholdOr 6 = .ok (.aload_n 0, 1) := by decide +kernel
theorem d_Sc_thresholdOr_7 : decode b_Sc_thresholdOr 7 = .ok (.getfield 13, 3) := by decide +kernel
theorem d_Sc_thresholdOr_10 : decode b_Sc_thresholdOr 10 = .ok (.if_icmp .le 7, 3) := by decide +kernel
theorem d_Sc_thresholdOr_13 : decode b_Sc_thresholdOr 13 = .ok (.iload_n 2, 1) := by decide +kernel
theorem d_Sc_thresholdOr_14 : decode b_Sc_thresholdOr 14 = .ok (.goto 4, 3) := by decide +kernel
theorem d_Sc_thresholdOr_17 : decode b_Sc_thresholdOr 17 = .ok (.iload_n 1, 1) := by decide +kernel
theorem d_Sc_thresholdOr_18 : decode b_Sc_thresholdOr 18 = .ok (.ireturn, 1) := by decide +kernel
theorem d_Sc_isFlat_0 : decode b_Sc_isFlat 0 = .ok (.iload_n 1, 1) := by decide +kernel
theorem d_Sc_isFlat_1 : decode b_Sc_isFlat 1 = .ok (.invokestatic 57, 3) := by decide +kernel
theorem d_Sc_isFlat_4 : decode b_Sc_isFlat 4 = .ok (.aload_n 0, 1) := by decide +kernel
theorem d_Sc_isFlat_5 : decode b_Sc_isFlat 5 = .ok (.getfield 25, 3) := by decide +kernel
theorem d_Sc_isFlat_8 : decode b_Sc_isFlat 8 = .ok (.if_icmp .gt 7, 3) := by decide +kernel
theorem d_Sc_isFlat_11 : decode b_Sc_isFlat 11 = .ok (.iconst 1, 1) := by decide +kernel
theorem d_Sc_isFlat_12 : decode b_Sc_isFlat 12 = .ok (.goto 4, 3) := by decide +kernel
theorem d_Sc_isFlat_15 : decode b_Sc_isFlat 15 = .ok (.iconst 0, 1) := by decide +kernel
theorem d_Sc_isFlat_16 : decode b_Sc_isFlat 16 = .ok (.ireturn, 1) := by decide +kernel
theorem d_Sc_steepness_0 : decode b_Sc_steepness 0 = .ok (.iload_n 1, 1) := by decide +kernel
theorem d_Sc_steepness_1 : decode b_Sc_steepness 1 = .ok (.invokestatic 57, 3) := by decide +kernel
theorem d_Sc_steepness_4 : decode b_Sc_steepness 4 = .ok (.istore_n 2, 1) := by decide +kernel
theorem d_Sc_steepness_5 : decode b_Sc_steepness 5 = .ok (.iload_n 2, 1) := by decide +kernel
theorem d_Sc_steepness_6 : decode b_Sc_steepness 6 = .ok (.aload_n 0, 1) := by decide +kernel
theorem d_Sc_steepness_7 : decode b_Sc_steepness 7 = .ok (.getfield 54, 3) := by decide +kernel
theorem d_Sc_steepness_10 : decode b_Sc_steepness 10 = .ok (.if_icmp .lt 7, 3) := by decide +kernel
theorem d_Sc_steepness_13 : decode b_Sc_steepness 13 = .ok (.iconst 4, 1) := by decide +kernel
theorem d_Sc_steepness_14 : decode b_Sc_steepness 14 = .ok (.goto 40, 3) := by decide +kernel
theorem d_Sc_steepness_17 : decode b_Sc_steepness 17 = .ok (.iload_n 2, 1) := by decide +kernel
theorem d_Sc_steepness_18 : decode b_Sc_steepness 18 = .ok (.aload_n 0, 1) := by decide +kernel
theorem d_Sc_steepness_19 : decode b_Sc_steepness 19 = .ok (.getfield 51, 3) := by decide +kernel
theorem d_Sc_steepness_22 : decode b_Sc_steepness 22 = .ok (.if_icmp .lt 7, 3) := by decide +kernel
theorem d_Sc_steepness_25 : decode b_Sc_steepness 25 = .ok (.iconst 3, 1) := by decide +kernel
theorem d_Sc_steepness_26 : decode b_Sc_steepness 26 = .ok (.goto 28, 3) := by decide +kernel
theorem d_Sc_steepness_29 : decode b_Sc_steepness 29 = .ok (.iload_n 2, 1) := by decide +kernel
theorem d_Sc_steepness_30 : decode b_Sc_steepness 30 = .ok (.aload_n 0, 1) := by decide +kernel
theorem d_Sc_steepness_31 : decode b_Sc_steepness 31 = .ok (.getfield 48, 3) := by decide +kernel
theorem d_Sc_steepness_34 : decode b_Sc_steepness 34 = .ok (.if_icmp .lt 7, 3) := by decide +kernel
theorem d_Sc_steepness_37 : decode b_Sc_steepness 37 = .ok (.iconst 2, 1) := by decide +kernel
theorem d_Sc_steepness_38 : decode b_Sc_steepness 38 = .ok (.goto 16, 3) := by decide +kernel
theorem d_Sc_steepness_41 : decode b_Sc_steepness 41 = .ok (.iload_n 2, 1) := by decide +kernel
theorem d_Sc_steepness_42 : decode b_Sc_steepness 42 = .ok (.aload_n 0, 1) := by decide +kernel
theorem d_Sc_steepness_43 : decode b_Sc_steepness 43 = .ok (.getfield 25, 3) := by decide +kernel
theorem d_Sc_steepness_46 : decode b_Sc_steepness 46 = .ok (.if_icmp .le 7, 3) := by decide +kernel
theorem d_Sc_steepness_49 : decode b_Sc_steepness 49 = .ok (.iconst 1, 1) := by decide +kernel
theorem d_Sc_steepness_50 : decode b_Sc_steepness 50 = .ok (.goto 4, 3) := by decide +kernel
theorem d_Sc_steepness_53 : decode b_Sc_steepness 53 = .ok (.iconst 0, 1) := by decide +kernel
theorem d_Sc_steepness_54 : decode b_Sc_steepness 54 = .ok (.istore_n 3, 1) := by decide +kernel
theorem d_Sc_steepness_55 : decode b_Sc_steepness 55 = .ok (.iload_n 1, 1) := by decide +kernel
theorem d_Sc_steepness_56 : decode b_Sc_steepness 56 = .ok (.ifCond .ge 8, 3) := by decide +kernel
theorem d_Sc_steepness_59 : decode b_Sc_steepness 59 = .ok (.iload_n 3, 1) := by decide +kernel
theorem d_Sc_steepness_60 : decode b_Sc_steepness 60 = .ok (.ineg, 1) := by decide +kernel
theorem d_Sc_steepness_61 : decode b_Sc_steepness 61 = .ok (.goto 4, 3) := by decide +kernel
theorem d_Sc_steepness_64 : decode b_Sc_steepness 64 = .ok (.iload_n 3, 1) := by decide +kernel
theorem d_Sc_steepness_65 : decode b_Sc_steepness 65 = .ok (.ireturn, 1) := by decide +kernel
theorem d_Sc_inSteps_0 : decode b_Sc_inSteps 0 = .ok (.iload_n 1, 1) := by decide +kernel
theorem d_Sc_inSteps_1 : decode b_Sc_inSteps 1 = .ok (.ifCond .ge 20, 3) := by decide +kernel
theorem d_Sc_inSteps_4 : decode b_Sc_inSteps 4 = .ok (.aload_n 0, 1) := by decide +kernel
theorem d_Sc_inSteps_5 : decode b_Sc_inSteps 5 = .ok (.getfield 25, 3) := by decide +kernel
theorem d_Sc_inSteps_8 : decode b_Sc_inSteps 8 = .ok (.iload_n 1, 1) := by decide +kernel
theorem d_Sc_inSteps_9 : decode b_Sc_inSteps 9 = .ok (.isub, 1) := by decide +kernel
theorem d_Sc_inSteps_10 : decode b_Sc_inSteps 10 = .ok (.aload_n 0, 1) := by decide +kernel
theorem d_Sc_inSteps_11 : decode b_Sc_inSteps 11 = .ok (.getfield 28, 3) := by decide +kernel
theorem d_Sc_inSteps_14 : decode b_Sc_inSteps 14 = .ok (.invokestatic 31, 3) := by decide +kernel
theorem d_Sc_inSteps_17 : decode b_Sc_inSteps 17 = .ok (.ineg, 1) := by decide +kernel
theorem d_Sc_inSteps_18 : decode b_Sc_inSteps 18 = .ok (.goto 16, 3) := by decide +kernel
theorem d_Sc_inSteps_21 : decode b_Sc_inSteps 21 = .ok (.iload_n 1, 1) := by decide +kernel
theorem d_Sc_inSteps_22 : decode b_Sc_inSteps 22 = .ok (.aload_n 0, 1) := by decide +kernel
theorem d_Sc_inSteps_23 : decode b_Sc_inSteps 23 = .ok (.getfield 25, 3) := by decide +kernel
theorem d_Sc_inSteps_26 : decode b_Sc_inSteps 26 = .ok (.iadd, 1) := by decide +kernel
theorem d_Sc_inSteps_27 : decode b_Sc_inSteps 27 = .ok (.aload_n 0, 1) := by decide +kernel
theorem d_Sc_inSteps_28 : decode b_Sc_inSteps 28 = .ok (.getfield 28, 3) := by decide +kernel
theorem d_Sc_inSteps_31 : decode b_Sc_inSteps 31 = .ok (.invokestatic 31, 3) := by decide +kernel
theorem d_Sc_inSteps_34 : decode b_Sc_inSteps 34 = .ok (.ireturn, 1) := by decide +kernel
theorem d_Sc_inRange_0 : decode b_Sc_inRange 0 = .ok (.iload_n 1, 1) := by decide +kernel
theorem d_Sc_inRange_1 : decode b_Sc_inRange 1 = .ok (.ifCond .ge 12, 3) := by decide +kernel
theorem d_Sc_inRange_4 : decode b_Sc_inRange 4 = .ok (.iload_n 1, 1) := by decide +kernel
theorem d_Sc_inRange_5 : decode b_Sc_inRange 5 = .ok (.aload_n 0, 1) := by decide +kernel
theorem d_Sc_inRange_6 : decode b_Sc_inRange 6 = .ok (.getfield 34, 3) := by decide +kernel
theorem d_Sc_inRange_9 : decode b_Sc_inRange 9 = .ok (.iadd, 1) := by decide +kernel
theorem d_Sc_inRange_10 : decode b_Sc_inRange 10 = .ok (.goto 4, 3) := by decide +kernel
theorem d_Sc_inRange_13 : decode b_Sc_inRange 13 = .ok (.iload_n 1, 1) := by decide +kernel
theorem d_Sc_inRange_14 : decode b_Sc_inRange 14 = .ok (.istore_n 2, 1) := by decide +kernel
theorem d_Sc_inRange_15 : decode b_Sc_inRange 15 = .ok (.iload_n 2, 1) := by decide +kernel
theorem d_Sc_inRange_16 : decode b_Sc_inRange 16 = .ok (.aload_n 0, 1) := by decide +kernel
theorem d_Sc_inRange_17 : decode b_Sc_inRange 17 = .ok (.getfield 34, 3) := by decide +kernel
theorem d_Sc_inRange_20 : decode b_Sc_inRange 20 = .ok (.iconst 1, 1) := by decide +kernel
theorem d_Sc_inRange_21 : decode b_Sc_inRange 21 = .ok (.iadd, 1) := by decide +kernel
theorem d_Sc_inRange_22 : decode b_Sc_inRange 22 = .ok (.iconst 2, 1) := by decide +kernel
theorem d_Sc_inRange_23 : decode b_Sc_inRange 23 = .ok (.idiv, 1) := by decide +kernel
theorem d_Sc_inRange_24 : decode b_Sc_inRange 24 = .ok (.if_icmp .lt 12, 3) := by decide +kernel
theorem d_Sc_inRange_27 : decode b_Sc_inRange 27 = .ok (.iload_n 2, 1) := by decide +kernel
theorem d_Sc_inRange_28 : decode b_Sc_inRange 28 = .ok (.aload_n 0, 1) := by decide +kernel
theorem d_Sc_inRange_29 : decode b_Sc_inRange 29 = .ok (.getfield 34, 3) := by decide +kernel
theorem d_Sc_inRange_32 : decode b_Sc_inRange 32 = .ok (.isub, 1) := by decide +kernel
theorem d_Sc_inRange_33 : decode b_Sc_inRange 33 = .ok (.goto 4, 3) := by decide +kernel
theorem d_Sc_inRange_36 : decode b_Sc_inRange 36 = .ok (.iload_n 2, 1) := by decide +kernel
theorem d_Sc_inRange_37 : decode b_Sc_inRange 37 = .ok (.ireturn, 1) := by decide +kernel
theorem d_Sc_turnedOver_0 : decode b_Sc_turnedOver 0 = .ok (.iload_n 1, 1) := by decide +kernel
theorem d_Sc_turnedOver_1 : decode b_Sc_turnedOver 1 = .ok (.aload_n 0, 1) := by decide +kernel
theorem d_Sc_turnedOver_2 : decode b_Sc_turnedOver 2 = .ok (.getfield 13, 3) := by decide +kernel
theorem d_Sc_turnedOver_5 : decode b_Sc_turnedOver 5 = .ok (.aload_n 0, 1) := by decide +kernel
theorem d_Sc_turnedOver_6 : decode b_Sc_turnedOver 6 = .ok (.getfield 25, 3) := by decide +kernel
theorem d_Sc_turnedOver_9 : decode b_Sc_turnedOver 9 = .ok (.iadd, 1) := by decide +kernel
theorem d_Sc_turnedOver_10 : decode b_Sc_turnedOver 10 = .ok (.if_icmp .le 15, 3) := by decide +kernel
theorem d_Sc_turnedOver_13 : decode b_Sc_turnedOver 13 = .ok (.iload_n 1, 1) := by decide +kernel
theorem d_Sc_turnedOver_14 : decode b_Sc_turnedOver 14 = .ok (.aload_n 0, 1) := by decide +kernel
theorem d_Sc_turnedOver_15 : decode b_Sc_turnedOver 15 = .ok (.getfield 34, 3) := by decide +kernel
theorem d_Sc_turnedOver_18 : decode b_Sc_turnedOver 18 = .ok (.aload_n 0, 1) := by decide +kernel
theorem d_Sc_turnedOver_19 : decode b_Sc_turnedOver 19 = .ok (.getfield 28, 3) := by decide +kernel
theorem d_Sc_turnedOver_22 : decode b_Sc_turnedOver 22 = .ok (.imul, 1) := by decide +kernel
theorem d_Sc_turnedOver_23 : decode b_Sc_turnedOver 23 = .ok (.isub, 1) := by decide +kernel
theorem d_Sc_turnedOver_24 : decode b_Sc_turnedOver 24 = .ok (.ireturn, 1) := by decide +kernel
theorem d_Sc_turnedOver_25 : decode b_Sc_turnedOver 25 = .ok (.iload_n 1, 1) := by decide +kernel
theorem d_Sc_turnedOver_26 : decode b_Sc_turnedOver 26 = .ok (.aload_n 0, 1) := by decide +kernel
theorem d_Sc_turnedOver_27 : decode b_Sc_turnedOver 27 = .ok (.getfield 25, 3) := by decide +kernel
theorem d_Sc_turnedOver_30 : decode b_Sc_turnedOver 30 = .ok (.ineg, 1) := by decide +kernel
theorem d_Sc_turnedOver_31 : decode b_Sc_turnedOver 31 = .ok (.if_icmp .ge 17, 3) := by decide +kernel
theorem d_Sc_turnedOver_34 : decode b_Sc_turnedOver 34 = .ok (.iload_n 1, 1) := by decide +kernel
theorem d_Sc_turnedOver_35 : decode b_Sc_turnedOver 35 = .ok (.aload_n 0, 1) := by decide +kernel
theorem d_Sc_turnedOver_36 : decode b_Sc_turnedOver 36 = .ok (.getfield 34, 3) := by decide +kernel
theorem d_Sc_turnedOver_39 : decode b_Sc_turnedOver 39 = .ok (.aload_n 0, 1) := by decide +kernel
theorem d_Sc_turnedOver_40 : decode b_Sc_turnedOver 40 = .ok (.getfield 28, 3) := by decide +kernel
theorem d_Sc_turnedOver_43 : decode b_Sc_turnedOver 43 = .ok (.imul, 1) := by decide +kernel
theorem d_Sc_turnedOver_44 : decode b_Sc_turnedOver 44 = .ok (.iadd, 1) := by decide +kernel
theorem d_Sc_turnedOver_45 : decode b_Sc_turnedOver 45 = .ok (.goto 4, 3) := by decide +kernel
theorem d_Sc_turnedOver_48 : decode b_Sc_turnedOver 48 = .ok (.iload_n 1, 1) := by decide +kernel
theorem d_Sc_turnedOver_49 : decode b_Sc_turnedOver 49 = .ok (.ireturn, 1) := by decide +kernel
theorem d_Sc_asSample_0 : decode b_Sc_asSample 0 = .ok (.iload_n 1, 1) := by decide +kernel
theorem d_Sc_asSample_1 : decode b_Sc_asSample 1 = .ok (.iconst 0, 1) := by decide +kernel
theorem d_Sc_asSample_2 : decode b_Sc_asSample 2 = .ok (.aload_n 0, 1) := by decide +kernel
theorem d_Sc_asSample_3 : decode b_Sc_asSample 3 = .ok (.getfield 13, 3) := by decide +kernel
theorem d_Sc_asSample_6 : decode b_Sc_asSample 6 = .ok (.invokestatic 7, 3) := by decide +kernel
theorem d_Sc_asSample_9 : decode b_Sc_asSample 9 = .ok (.ireturn, 1) := by decide +kernel
theorem d_Ou_init_0 : decode b_Ou_init 0 = .ok (.aload_n 0, 1) := by decide +kernel
theorem d_Ou_init_1 : decode b_Ou_init 1 = .ok (.invokespecial 3, 3) := by decide +kernel
theorem d_Ou_init_4 : decode b_Ou_init 4 = .ok (.return_, 1) := by decide +kernel
theorem d_Ou_expectRun_0 : decode b_Ou_expectRun 0 = .ok (.aload_n 0, 1) := by decide +kernel
theorem d_Ou_expectRun_1 : decode b_Ou_expectRun 1 = .ok (.iconst 0, 1) := by decide +kernel
theorem d_Ou_expectRun_2 : decode b_Ou_expectRun 2 = .ok (.putfield 9, 3) := by decide +kernel
theorem d_Ou_expectRun_5 : decode b_Ou_expectRun 5 = .ok (.aload_n 0, 1) := by decide +kernel
theorem d_Ou_expectRun_6 : decode b_Ou_expectRun 6 = .ok (.iconst 1, 1) := by decide +kernel
theorem d_Ou_expectRun_7 : decode b_Ou_expectRun 7 = .ok (.putfield 15, 3) := by decide +kernel
theorem d_Ou_expectRun_10 : decode b_Ou_expectRun 10 = .ok (.aload_n 0, 1) := by decide +kernel
theorem d_Ou_expectRun_11 : decode b_Ou_expectRun 11 = .ok (.aload_n 0, 1) := by decide +kernel
theorem d_Ou_expectRun_12 : decode b_Ou_expectRun 12 = .ok (.getfield 18, 3) := by decide +kernel
theorem d_Ou_expectRun_15 : decode b_Ou_expectRun 15 = .ok (.putfield 21, 3) := by decide +kernel
theorem d_Ou_expectRun_18 : decode b_Ou_expectRun 18 = .ok (.return_, 1) := by decide +kernel
theorem d_Ou_expectEnd_0 : decode b_Ou_expectEnd 0 = .ok (.aload_n 1, 1) := by decide +kernel
theorem d_Ou_expectEnd_1 : decode b_Ou_expectEnd 1 = .ok (.aload_n 0, 1) := by decide +kernel
theorem d_Ou_expectEnd_2 : decode b_Ou_expectEnd 2 = .ok (.getfield 18, 3) := by decide +kernel
theorem d_Ou_expectEnd_5 : decode b_Ou_expectEnd 5 = .ok (.aload_n 0, 1) := by decide +kernel
theorem d_Ou_expectEnd_6 : decode b_Ou_expectEnd 6 = .ok (.getfield 24, 3) := by decide +kernel
theorem d_Ou_expectEnd_9 : decode b_Ou_expectEnd 9 = .ok (.isub, 1) := by decide +kernel
theorem d_Ou_expectEnd_10 : decode b_Ou_expectEnd 10 = .ok (.invokevirtual 27, 3) := by decide +kernel
theorem d_Ou_expectEnd_13 : decode b_Ou_expectEnd 13 = .ok (.istore_n 2, 1) := by decide +kernel
theorem d_Ou_expectEnd_14 : decode b_Ou_expectEnd 14 = .ok (.aload_n 0, 1) := by decide +kernel
theorem d_Ou_expectEnd_15 : decode b_Ou_expectEnd 15 = .ok (.iload_n 2, 1) := by decide +kernel
theorem d_Ou_expectEnd_16 : decode b_Ou_expectEnd 16 = .ok (.ifCond .eq 9, 3) := by decide +kernel
theorem d_Ou_expectEnd_19 : decode b_Ou_expectEnd 19 = .ok (.sipush 366, 3) := by decide +kernel
theorem d_Ou_expectEnd_22 : decode b_Ou_expectEnd 22 = .ok (.goto 6, 3) := by decide +kernel
theorem d_Ou_expectEnd_25 : decode b_Ou_expectEnd 25 = .ok (.sipush 365, 3) := by decide +kernel
theorem d_Ou_expectEnd_28 : decode b_Ou_expectEnd 28 = .ok (.putfield 9, 3) := by decide +kernel
theorem d_Ou_expectEnd_31 : decode b_Ou_expectEnd 31 = .ok (.aload_n 0, 1) := by decide +kernel
theorem d_Ou_expectEnd_32 : decode b_Ou_expectEnd 32 = .ok (.iload_n 2, 1) := by decide +kernel
theorem d_Ou_expectEnd_33 : decode b_Ou_expectEnd 33 = .ok (.ifCond .ne 18, 3) := by decide +kernel
theorem d_Ou_expectEnd_36 : decode b_Ou_expectEnd 36 = .ok (.aload_n 0, 1) := by decide +kernel
theorem d_Ou_expectEnd_37 : decode b_Ou_expectEnd 37 = .ok (.getfield 18, 3) := by decide +kernel
theorem d_Ou_expectEnd_40 : decode b_Ou_expectEnd 40 = .ok (.aload_n 0, 1) := by decide +kernel
theorem d_Ou_expectEnd_41 : decode b_Ou_expectEnd 41 = .ok (.getfield 24, 3) := by decide +kernel
theorem d_Ou_expectEnd_44 : decode b_Ou_expectEnd 44 = .ok (.if_icmp .le 7, 3) := by decide +kernel
theorem d_Ou_expectEnd_47 : decode b_Ou_expectEnd 47 = .ok (.iconst (-1), 1) := by decide +kernel
theorem d_Ou_expectEnd_48 : decode b_Ou_expectEnd 48 = .ok (.goto 4, 3) := by decide +kernel
theorem d_Ou_expectEnd_51 : decode b_Ou_expectEnd 51 = .ok (.iconst 1, 1) := by decide +kernel
theorem d_Ou_expectEnd_52 : decode b_Ou_expectEnd 52 = .ok (.putfield 15, 3) := by decide +kernel
theorem d_Ou_expectEnd_55 : decode b_Ou_expectEnd 55 = .ok (.aload_n 0, 1) := by decide +kernel
theorem d_Ou_expectEnd_56 : decode b_Ou_expectEnd 56 = .ok (.iload_n 2, 1) := by decide +kernel
theorem d_Ou_expectEnd_57 : decode b_Ou_expectEnd 57 = .ok (.ifCond .eq 10, 3) := by decide +kernel
theorem d_Ou_expectEnd_60 : decode b_Ou_expectEnd 60 = .ok (.aload_n 0, 1) := by decide +kernel
theorem d_Ou_expectEnd_61 : decode b_Ou_expectEnd 61 = .ok (.getfield 18, 3) := by decide +kernel
theorem d_Ou_expectEnd_64 : decode b_Ou_expectEnd 64 = .ok (.goto 7, 3) := by decide +kernel
theorem d_Ou_expectEnd_67 : decode b_Ou_expectEnd 67 = .ok (.aload_n 0, 1) := by decide +kernel
theorem d_Ou_expectEnd_68 : decode b_Ou_expectEnd 68 = .ok (.getfield 24, 3) := by decide +kernel
theorem d_Ou_expectEnd_71 : decode b_Ou_expectEnd 71 = .ok (.putfield 21, 3) := by decide +kernel
theorem d_Ou_expectEnd_74 : decode b_Ou_expectEnd 74 = .ok (.return_, 1) := by decide +kernel
theorem d_Ou_expectByGradients_0 : decode b_Ou_expectByGradients 0 = .ok (.bipush 81, 2) := by decide +kernel
theorem d_Ou_expectByGradients_2 : decode b_Ou_expectByGradients 2 = .ok (.aload_n 1, 1) := by decide +kernel
theorem d_Ou_expectByGradients_3 : decode b_Ou_expectByGradients 3 = .ok (.aload_n 0, 1) := by decide +kernel
theorem d_Ou_expectByGradients_4 : decode b_Ou_expectByGradients 4 = .ok (.getfield 33, 3) := by decide +kernel
theorem d_Ou_expectByGradients_7 : decode b_Ou_expectByGradients 7 = .ok (.aload_n 0, 1) := by decide +kernel
theorem d_Ou_expectByGradients_8 : decode b_Ou_expectByGradients 8 = .ok (.getfield 24, 3) := by decide +kernel
theorem d_Ou_expectByGradients_11 : decode b_Ou_expectByGradients 11 = .ok (.isub, 1) := by decide +kernel
theorem d_Ou_expectByGradients_12 : decode b_Ou_expectByGradients 12 = .ok (.invokevirtual 36, 3) := by decide +kernel
theorem d_Ou_expectByGradients_15 : decode b_Ou_expectByGradients 15 = .ok (.imul, 1) := by decide +kernel
theorem d_Ou_expectByGradients_16 : decode b_Ou_expectByGradients 16 = .ok (.bipush 9, 2) := by decide +kernel
theorem d_Ou_expectByGradients_18 : decode b_Ou_expectByGradients 18 = .ok (.aload_n 1, 1) := by decide +kernel
theorem d_Ou_expectByGradients_19 : decode b_Ou_expectByGradients 19 = .ok (.aload_n 0, 1) := by decide +kernel
theorem d_Ou_expectByGradients_20 : decode b_Ou_expectByGradients 20 = .ok (.getfield 24, 3) := by decide +kernel
theorem d_Ou_expectByGradients_23 : decode b_Ou_expectByGradients 23 = .ok (.aload_n 0, 1) := by decide +kernel
theorem d_Ou_expectByGradients_24 : decode b_Ou_expectByGradients 24 = .ok (.getfield 40, 3) := by decide +kernel
theorem d_Ou_expectByGradients_27 : decode b_Ou_expectByGradients 27 = .ok (.isub, 1) := by decide +kernel
theorem d_Ou_expectByGradients_28 : decode b_Ou_expectByGradients 28 = .ok (.invokevirtual 36, 3) := by decide +kernel
theorem d_Ou_expectByGradients_31 : decode b_Ou_expectByGradients 31 = .ok (.imul, 1) := by decide +kernel
theorem d_Ou_expectByGradients_32 : decode b_Ou_expectByGradients 32 = .ok (.iadd, 1) := by decide +kernel
theorem d_Ou_expectByGradients_33 : decode b_Ou_expectByGradients 33 = .ok (.aload_n 1, 1) := by decide +kernel
theorem d_Ou_expectByGradients_34 : decode b_Ou_expectByGradients 34 = .ok (.aload_n 0, 1) := by decide +kernel
theorem d_Ou_expectByGradients_35 : decode b_Ou_expectByGradients 35 = .ok (.getfield 40, 3) := by decide +kernel
theorem d_Ou_expectByGradients_38 : decode b_Ou_expectByGradients 38 = .ok (.aload_n 0, 1) := by decide +kernel
theorem d_Ou_expectByGradients_39 : decode b_Ou_expectByGradients 39 = .ok (.getfield 18, 3) := by decide +kernel
theorem d_Ou_expectByGradients_42 : decode b_Ou_expectByGradients 42 = .ok (.isub, 1) := by decide +kernel
theorem d_Ou_expectByGradients_43 : decode b_Ou_expectByGradients 43 = .ok (.invokevirtual 36, 3) := by decide +kernel
theorem d_Ou_expectByGradients_46 : decode b_Ou_expectByGradients 46 = .ok (.iadd, 1) := by decide +kernel
theorem d_Ou_expectByGradients_47 : decode b_Ou_expectByGradients 47 = .ok (.istore_n 3, 1) := by decide +kernel
theorem d_Ou_expectByGradients_48 : decode b_Ou_expectByGradients 48 = .ok (.aload_n 0, 1) := by decide +kernel
theorem d_Ou_expectByGradients_49 : decode b_Ou_expectByGradients 49 = .ok (.iload_n 3, 1) := by decide +kernel
theorem d_Ou_expectByGradients_50 : decode b_Ou_expectByGradients 50 = .ok (.ifCond .ge 7, 3) := by decide +kernel
theorem d_Ou_expectByGradients_53 : decode b_Ou_expectByGradients 53 = .ok (.iconst (-1), 1) := by decide +kernel
theorem d_Ou_expectByGradients_54 : decode b_Ou_expectByGradients 54 = .ok (.goto 4, 3) := by decide +kernel
theorem d_Ou_expectByGradients_57 : decode b_Ou_expectByGradients 57 = .ok (.iconst 1, 1) := by decide +kernel
theorem d_Ou_expectByGradients_58 : decode b_Ou_expectByGradients 58 = .ok (.putfield 15, 3) := by decide +kernel
theorem d_Ou_expectByGradients_61 : decode b_Ou_expectByGradients 61 = .ok (.aload_n 0, 1) := by decide +kernel
theorem d_Ou_expectByGradients_62 : decode b_Ou_expectByGradients 62 = .ok (.aload_n 0, 1) := by decide +kernel
theorem d_Ou_expectByGradients_63 : decode b_Ou_expectByGradients 63 = .ok (.getfield 15, 3) := by decide +kernel
theorem d_Ou_expectByGradients_66 : decode b_Ou_expectByGradients 66 = .ok (.iload_n 3, 1) := by decide +kernel
theorem d_Ou_expectByGradients_67 : decode b_Ou_expectByGradients 67 = .ok (.imul, 1) := by decide +kernel
theorem d_Ou_expectByGradients_68 : decode b_Ou_expectByGradients 68 = .ok (.putfield 9, 3) := by decide +kernel
theorem d_Ou_expectByGradients_71 : decode b_Ou_expectByGradients 71 = .ok (.aload_n 0, 1) := by decide +kernel
theorem d_Ou_expectByGradients_72 : decode b_Ou_expectByGradients 72 = .ok (.aload_n 1, 1) := by decide +kernel
theorem d_Ou_expectByGradients_73 : decode b_Ou_expectByGradients 73 = .ok (.aload_n 0, 1) := by decide +kernel
theorem d_Ou_expectByGradients_74 : decode b_Ou_expectByGradients 74 = .ok (.invokevirtual 43, 3) := by decide +kernel
theorem d_Ou_expectByGradients_77 : decode b_Ou_expectByGradients 77 = .ok (.aload_n 0, 1) := by decide +kernel
theorem d_Ou_expectByGradients_78 : decode b_Ou_expectByGradients 78 = .ok (.getfield 15, 3) := by decide +kernel
theorem d_Ou_expectByGradients_81 : decode b_Ou_expectByGradients 81 = .ok (.aload_n 2, 1) := by decide +kernel
theorem d_Ou_expectByGradients_82 : decode b_Ou_expectByGradients 82 = .ok (.aload_n 0, 1) := by decide +kernel
theorem d_Ou_expectByGradients_83 : decode b_Ou_expectByGradients 83 = .ok (.getfield 9, 3) := by decide +kernel
theorem d_Ou_expectByGradients_86 : decode b_Ou_expectByGradients 86 = .ok (.invokevirtual 47, 3) := by decide +kernel
theorem d_Ou_expectByGradients_89 : decode b_Ou_expectByGradients 89 = .ok (.imul, 1) := by decide +kernel
theorem d_Ou_expectByGradients_90 : decode b_Ou_expectByGradients 90 = .ok (.iadd, 1) := by decide +kernel
theorem d_Ou_expectByGradients_91 : decode b_Ou_expectByGradients 91 = .ok (.invokevirtual 52, 3) := by decide +kernel
theorem d_Ou_expectByGradients_94 : decode b_Ou_expectByGradients 94 = .ok (.putfield 21, 3) := by decide +kernel
theorem d_Ou_expectByGradients_97 : decode b_Ou_expectByGradients 97 = .ok (.return_, 1) := by decide +kernel
theorem d_Ou_median_0 : decode b_Ou_median 0 = .ok (.aload_n 0, 1) := by decide +kernel
theorem d_Ou_median_1 : decode b_Ou_median 1 = .ok (.getfield 40, 3) := by decide +kernel
theorem d_Ou_median_4 : decode b_Ou_median 4 = .ok (.aload_n 0, 1) := by decide +kernel
theorem d_Ou_median_5 : decode b_Ou_median 5 = .ok (.getfield 18, 3) := by decide +kernel
theorem d_Ou_median_8 : decode b_Ou_median 8 = .ok (.aload_n 0, 1) := by decide +kernel
theorem d_Ou_median_9 : decode b_Ou_median 9 = .ok (.getfield 24, 3) := by decide +kernel
theorem d_Ou_median_12 : decode b_Ou_median 12 = .ok (.invokestatic 55, 3) := by decide +kernel
theorem d_Ou_median_15 : decode b_Ou_median 15 = .ok (.if_icmp .lt 15, 3) := by decide +kernel
theorem d_Ou_median_18 : decode b_Ou_median 18 = .ok (.aload_n 0, 1) := by decide +kernel
theorem d_Ou_median_19 : decode b_Ou_median 19 = .ok (.getfield 18, 3) := by decide +kernel
theorem d_Ou_median_22 : decode b_Ou_median 22 = .ok (.aload_n 0, 1) := by decide +kernel
theorem d_Ou_median_23 : decode b_Ou_median 23 = .ok (.getfield 24, 3) := by decide +kernel
theorem d_Ou_median_26 : decode b_Ou_median 26 = .ok (.invokestatic 61, 3) := by decide +kernel
theorem d_Ou_median_29 : decode b_Ou_median 29 = .ok (.ireturn, 1) := by decide +kernel
theorem d_Ou_median_30 : decode b_Ou_median 30 = .ok (.aload_n 0, 1) := by decide +kernel
theorem d_Ou_median_31 : decode b_Ou_median 31 = .ok (.getfield 40, 3) := by decide +kernel
theorem d_Ou_median_34 : decode b_Ou_median 34 = .ok (.aload_n 0, 1) := by decide +kernel
theorem d_Ou_median_35 : decode b_Ou_median 35 = .ok (.getfield 18, 3) := by decide +kernel
theorem d_Ou_median_38 : decode b_Ou_median 38 = .ok (.aload_n 0, 1) := by decide +kernel
theorem d_Ou_median_39 : decode b_Ou_median 39 = .ok (.getfield 24, 3) := by decide +kernel
theorem d_Ou_median_42 : decode b_Ou_median 42 = .ok (.invokestatic 61, 3) := by decide +kernel
theorem d_Ou_median_45 : decode b_Ou_median 45 = .ok (.if_icmp .gt 15, 3) := by decide +kernel
theorem d_Ou_median_48 : decode b_Ou_median 48 = .ok (.aload_n 0, 1) := by decide +kernel
theorem d_Ou_median_49 : decode b_Ou_median 49 = .ok (.getfield 18, 3) := by decide +kernel
theorem d_Ou_median_52 : decode b_Ou_median 52 = .ok (.aload_n 0, 1) := by decide +kernel
theorem d_Ou_median_53 : decode b_Ou_median 53 = .ok (.getfield 24, 3) := by decide +kernel
theorem d_Ou_median_56 : decode b_Ou_median 56 = .ok (.invokestatic 55, 3) := by decide +kernel
theorem d_Ou_median_59 : decode b_Ou_median 59 = .ok (.ireturn, 1) := by decide +kernel
theorem d_Ou_median_60 : decode b_Ou_median 60 = .ok (.aload_n 0, 1) := by decide +kernel
theorem d_Ou_median_61 : decode b_Ou_median 61 = .ok (.getfield 18, 3) := by decide +kernel
theorem d_Ou_median_64 : decode b_Ou_median 64 = .ok (.aload_n 0, 1) := by decide +kernel
theorem d_Ou_median_65 : decode b_Ou_median 65 = .ok (.getfield 24, 3) := by decide +kernel
theorem d_Ou_median_68 : decode b_Ou_median 68 = .ok (.iadd, 1) := by decide +kernel
theorem d_Ou_median_69 : decode b_Ou_median 69 = .ok (.aload_n 0, 1) := by decide +kernel
theorem d_Ou_median_70 : decode b_Ou_median 70 = .ok (.getfield 40, 3) := by decide +kernel
theorem d_Ou_median_73 : decode b_Ou_median 73 = .ok (.isub, 1) := by decide +kernel
theorem d_Ou_median_74 : decode b_Ou_median 74 = .ok (.ireturn, 1) := by decide +kernel
theorem d_Ou_moved_0 : decode b_Ou_moved 0 = .ok (.aload_n 0, 1) := by decide +kernel
theorem d_Ou_moved_1 : decode b_Ou_moved 1 = .ok (.getfield 21, 3) := by decide +kernel
theorem d_Ou_moved_4 : decode b_Ou_moved 4 = .ok (.aload_n 0, 1) := by decide +kernel
theorem d_Ou_moved_5 : decode b_Ou_moved 5 = .ok (.getfield 15, 3) := by decide +kernel
theorem d_Ou_moved_8 : decode b_Ou_moved 8 = .ok (.iload_n 1, 1) := by decide +kernel
theorem d_Ou_moved_9 : decode b_Ou_moved 9 = .ok (.imul, 1) := by decide +kernel
theorem d_Ou_moved_10 : decode b_Ou_moved 10 = .ok (.aload_n 2, 1) := by decide +kernel
theorem d_Ou_moved_11 : decode b_Ou_moved 11 = .ok (.getfield 64, 3) := by decide +kernel
theorem d_Ou_moved_14 : decode b_Ou_moved 14 = .ok (.imul, 1) := by decide +kernel
theorem d_Ou_moved_15 : decode b_Ou_moved 15 = .ok (.iadd, 1) := by decide +kernel
theorem d_Ou_moved_16 : decode b_Ou_moved 16 = .ok (.ireturn, 1) := by decide +kernel
theorem d_Si_init_0 : decode b_Si_init 0 = .ok (.aload_n 0, 1) := by decide +kernel
theorem d_Si_init_1 : decode b_Si_init 1 = .ok (.invokespecial 1, 3) := by decide +kernel
theorem d_Si_init_4 : decode b_Si_init 4 = .ok (.aload_n 0, 1) := by decide +kernel
theorem d_Si_init_5 : decode b_Si_init 5 = .ok (.iload_n 1, 1) := by decide +kernel
theorem d_Si_init_6 : decode b_Si_init 6 = .ok (.putfield 7, 3) := by decide +kernel
theorem d_Si_init_9 : decode b_Si_init 9 = .ok (.aload_n 0, 1) := by decide +kernel
theorem d_Si_init_10 : decode b_Si_init 10 = .ok (.aload_n 2, 1) := by decide +kernel
theorem d_Si_init_11 : decode b_Si_init 11 = .ok (.putfield 13, 3) := by decide +kernel
theorem d_Si_init_14 : decode b_Si_init 14 = .ok (.aload_n 0, 1) := by decide +kernel
theorem d_Si_init_15 : decode b_Si_init 15 = .ok (.new 17, 3) := by decide +kernel
theorem d_Si_init_18 : decode b_Si_init 18 = .ok (.dup, 1) := by decide +kernel
theorem d_Si_init_19 : decode b_Si_init 19 = .ok (.aload_n 2, 1) := by decide +kernel
theorem d_Si_init_20 : decode b_Si_init 20 = .ok (.invokespecial 19, 3) := by decide +kernel
theorem d_Si_init_23 : decode b_Si_init 23 = .ok (.putfield 22, 3) := by decide +kernel
theorem d_Si_init_26 : decode b_Si_init 26 = .ok (.aload_n 0, 1) := by decide +kernel
theorem d_Si_init_27 : decode b_Si_init 27 = .ok (.iconst 1, 1) := by decide +kernel
theorem d_Si_init_28 : decode b_Si_init 28 = .ok (.iload_n 1, 1) := by decide +kernel
theorem d_Si_init_29 : decode b_Si_init 29 = .ok (.sipush 512, 3) := by decide +kernel
theorem d_Si_init_32 : decode b_Si_init 32 = .ok (.invokestatic 26, 3) := by decide +kernel
theorem d_Si_init_35 : decode b_Si_init 35 = .ok (.invokestatic 32, 3) := by decide +kernel
theorem d_Si_init_38 : decode b_Si_init 38 = .ok (.newarray .int, 2) := by decide +kernel
theorem d_Si_init_40 : decode b_Si_init 40 = .ok (.putfield 35, 3) := by decide +kernel
theorem d_Si_init_43 : decode b_Si_init 43 = .ok (.aload_n 0, 1) := by decide +kernel
theorem d_Si_init_44 : decode b_Si_init 44 = .ok (.iconst 0, 1) := by decide +kernel
theorem d_Si_init_45 : decode b_Si_init 45 = .ok (.putfield 39, 3) := by decide +kernel
theorem d_Si_init_48 : decode b_Si_init 48 = .ok (.aload_n 0, 1) := by decide +kernel
theorem d_Si_init_49 : decode b_Si_init 49 = .ok (.iconst 0, 1) := by decide +kernel
theorem d_Si_init_50 : decode b_Si_init 50 = .ok (.putfield 42, 3) := by decide +kernel
theorem d_Si_init_53 : decode b_Si_init 53 = .ok (.aload_n 0, 1) := by decide +kernel
theorem d_Si_init_54 : decode b_Si_init 54 = .ok (.iconst 0, 1) := by decide +kernel
theorem d_Si_init_55 : decode b_Si_init 55 = .ok (.putfield 45, 3) := by decide +kernel
theorem d_Si_init_58 : decode b_Si_init 58 = .ok (.aload_n 0, 1) := by decide +kernel
theorem d_Si_init_59 : decode b_Si_init 59 = .ok (.iconst 0, 1) := by decide +kernel
theorem d_Si_init_60 : decode b_Si_init 60 = .ok (.putfield 49, 3) := by decide +kernel
theorem d_Si_init_63 : decode b_Si_init 63 = .ok (.aload_n 0, 1) := by decide +kernel
theorem d_Si_init_64 : decode b_Si_init 64 = .ok (.iconst 0, 1) := by decide +kernel
theorem d_Si_init_65 : decode b_Si_init 65 = .ok (.putfield 52, 3) := by decide +kernel
theorem d_Si_init_68 : decode b_Si_init 68 = .ok (.return_, 1) := by decide +kernel
theorem d_Si_awaits_0 : decode b_Si_awaits 0 = .ok (.aload_n 0, 1) := by decide +kernel
theorem d_Si_awaits_1 : decode b_Si_awaits 1 = .ok (.getfield 39, 3) := by decide +kernel
theorem d_Si_awaits_4 : decode b_Si_awaits 4 = .ok (.aload_n 0, 1) := by decide +kernel
theorem d_Si_awaits_5 : decode b_Si_awaits 5 = .ok (.getfield 7, 3) := by decide +kernel
theorem d_Si_awaits_8 : decode b_Si_awaits 8 = .ok (.if_icmp .ge 15, 3) := by decide +kernel
theorem d_Si_awaits_11 : decode b_Si_awaits 11 = .ok (.iload_n 1, 1) := by decide +kernel
theorem d_Si_awaits_12 : decode b_Si_awaits 12 = .ok (.aload_n 0, 1) := by decide +kernel
theorem d_Si_awaits_13 : decode b_Si_awaits 13 = .ok (.getfield 39, 3) := by decide +kernel
theorem d_Si_awaits_16 : decode b_Si_awaits 16 = .ok (.if_icmp .ne 7, 3) := by decide +kernel
theorem d_Si_awaits_19 : decode b_Si_awaits 19 = .ok (.iconst 1, 1) := by decide +kernel
theorem d_Si_awaits_20 : decode b_Si_awaits 20 = .ok (.goto 4, 3) := by decide +kernel
theorem d_Si_awaits_23 : decode b_Si_awaits 23 = .ok (.iconst 0, 1) := by decide +kernel
theorem d_Si_awaits_24 : decode b_Si_awaits 24 = .ok (.ireturn, 1) := by decide +kernel
theorem d_Si_lookAhead_0 : decode b_Si_lookAhead 0 = .ok (.aload_n 1, 1) := by decide +kernel
theorem d_Si_lookAhead_1 : decode b_Si_lookAhead 1 = .ok (.aload_n 0, 1) := by decide +kernel
theorem d_Si_lookAhead_2 : decode b_Si_lookAhead 2 = .ok (.aload_n 0, 1) := by decide +kernel
theorem d_Si_lookAhead_3 : decode b_Si_lookAhead 3 = .ok (.getfield 39, 3) := by decide +kernel
theorem d_Si_lookAhead_6 : decode b_Si_lookAhead 6 = .ok (.invokevirtual 55, 3) := by decide +kernel
theorem d_Si_lookAhead_9 : decode b_Si_lookAhead 9 = .ok (.putfield 59, 3) := by decide +kernel
theorem d_Si_lookAhead_12 : decode b_Si_lookAhead 12 = .ok (.aload_n 1, 1) := by decide +kernel
theorem d_Si_lookAhead_13 : decode b_Si_lookAhead 13 = .ok (.aload_n 0, 1) := by decide +kernel
theorem d_Si_lookAhead_14 : decode b_Si_lookAhead 14 = .ok (.getfield 39, 3) := by decide +kernel
theorem d_Si_lookAhead_17 : decode b_Si_lookAhead 17 = .ok (.ifCond .le 16, 3) := by decide +kernel
theorem d_Si_lookAhead_20 : decode b_Si_lookAhead 20 = .ok (.aload_n 0, 1) := by decide +kernel
theorem d_Si_lookAhead_21 : decode b_Si_lookAhead 21 = .ok (.aload_n 0, 1) := by decide +kernel
theorem d_Si_lookAhead_22 : decode b_Si_lookAhead 22 = .ok (.getfield 39, 3) := by decide +kernel
theorem d_Si_lookAhead_25 : decode b_Si_lookAhead 25 = .ok (.iconst 1, 1) := by decide +kernel
theorem d_Si_lookAhead_26 : decode b_Si_lookAhead 26 = .ok (.isub, 1) := by decide +kernel
theorem d_Si_lookAhead_27 : decode b_Si_lookAhead 27 = .ok (.invokevirtual 55, 3) := by decide +kernel
theorem d_Si_lookAhead_30 : decode b_Si_lookAhead 30 = .ok (.goto 7, 3) := by decide +kernel
theorem d_Si_lookAhead_33 : decode b_Si_lookAhead 33 = .ok (.aload_n 1, 1) := by decide +kernel
theorem d_Si_lookAhead_34 : decode b_Si_lookAhead 34 = .ok (.getfield 59, 3) := by decide +kernel
theorem d_Si_lookAhead_37 : decode b_Si_lookAhead 37 = .ok (.putfield 64, 3) := by decide +kernel
theorem d_Si_lookAhead_40 : decode b_Si_lookAhead 40 = .ok (.aload_n 1, 1) := by decide +kernel
theorem d_Si_lookAhead_41 : decode b_Si_lookAhead 41 = .ok (.aload_n 0, 1) := by decide +kernel
theorem d_Si_lookAhead_42 : decode b_Si_lookAhead 42 = .ok (.getfield 49, 3) := by decide +kernel
theorem d_Si_lookAhead_45 : decode b_Si_lookAhead 45 = .ok (.putfield 67, 3) := by decide +kernel
theorem d_Si_lookAhead_48 : decode b_Si_lookAhead 48 = .ok (.aload_n 1, 1) := by decide +kernel
theorem d_Si_lookAhead_49 : decode b_Si_lookAhead 49 = .ok (.aload_n 0, 1) := by decide +kernel
theorem d_Si_lookAhead_50 : decode b_Si_lookAhead 50 = .ok (.getfield 39, 3) := by decide +kernel
theorem d_Si_lookAhead_53 : decode b_Si_lookAhead 53 = .ok (.iconst 1, 1) := by decide +kernel
theorem d_Si_lookAhead_54 : decode b_Si_lookAhead 54 = .ok (.iadd, 1) := by decide +kernel
theorem d_Si_lookAhead_55 : decode b_Si_lookAhead 55 = .ok (.aload_n 0, 1) := by decide +kernel
theorem d_Si_lookAhead_56 : decode b_Si_lookAhead 56 = .ok (.getfield 7, 3) := by decide +kernel
theorem d_Si_lookAhead_59 : decode b_Si_lookAhead 59 = .ok (.if_icmp .ge 16, 3) := by decide +kernel
theorem d_Si_lookAhead_62 : decode b_Si_lookAhead 62 = .ok (.aload_n 0, 1) := by decide +kernel
theorem d_Si_lookAhead_63 : decode b_Si_lookAhead 63 = .ok (.aload_n 0, 1) := by decide +kernel
theorem d_Si_lookAhead_64 : decode b_Si_lookAhead 64 = .ok (.getfield 39, 3) := by decide +kernel
theorem d_Si_lookAhead_67 : decode b_Si_lookAhead 67 = .ok (.iconst 1, 1) := by decide +kernel
theorem d_Si_lookAhead_68 : decode b_Si_lookAhead 68 = .ok (.iadd, 1) := by decide +kernel
theorem d_Si_lookAhead_69 : decode b_Si_lookAhead 69 = .ok (.invokevirtual 55, 3) := by decide +kernel
theorem d_Si_lookAhead_72 : decode b_Si_lookAhead 72 = .ok (.goto 7, 3) := by decide +kernel
theorem d_Si_lookAhead_75 : decode b_Si_lookAhead 75 = .ok (.aload_n 1, 1) := by decide +kernel
theorem d_Si_lookAhead_76 : decode b_Si_lookAhead 76 = .ok (.getfield 59, 3) := by decide +kernel
theorem d_Si_lookAhead_79 : decode b_Si_lookAhead 79 = .ok (.putfield 70, 3) := by decide +kernel
theorem d_Si_lookAhead_82 : decode b_Si_lookAhead 82 = .ok (.aload_n 1, 1) := by decide +kernel
theorem d_Si_lookAhead_83 : decode b_Si_lookAhead 83 = .ok (.aload_n 0, 1) := by decide +kernel
theorem d_Si_lookAhead_84 : decode b_Si_lookAhead 84 = .ok (.getfield 45, 3) := by decide +kernel
theorem d_Si_lookAhead_87 : decode b_Si_lookAhead 87 = .ok (.ifCond .ne 11, 3) := by decide +kernel
theorem d_Si_lookAhead_90 : decode b_Si_lookAhead 90 = .ok (.aload_n 0, 1) := by decide +kernel
theorem d_Si_lookAhead_91 : decode b_Si_lookAhead 91 = .ok (.aload_n 1, 1) := by decide +kernel
theorem d_Si_lookAhead_92 : decode b_Si_lookAhead 92 = .ok (.invokevirtual 73, 3) := by decide +kernel
theorem d_Si_lookAhead_95 : decode b_Si_lookAhead 95 = .ok (.ifCond .eq 7, 3) := by decide +kernel
theorem d_Si_lookAhead_98 : decode b_Si_lookAhead 98 = .ok (.iconst 1, 1) := by decide +kernel
theorem d_Si_lookAhead_99 : decode b_Si_lookAhead 99 = .ok (.goto 4, 3) := by decide +kernel
theorem d_Si_lookAhead_102 : decode b_Si_lookAhead 102 = .ok (.iconst 0, 1) := by decide +kernel
theorem d_Si_lookAhead_103 : decode b_Si_lookAhead 103 = .ok (.putfield 77, 3) := by decide +kernel
theorem d_Si_lookAhead_106 : decode b_Si_lookAhead 106 = .ok (.aload_n 1, 1) := by decide +kernel
theorem d_Si_lookAhead_107 : decode b_Si_lookAhead 107 = .ok (.getfield 77, 3) := by decide +kernel
theorem d_Si_lookAhead_110 : decode b_Si_lookAhead 110 = .ok (.ifCond .eq 10, 3) := by decide +kernel
theorem d_Si_lookAhead_113 : decode b_Si_lookAhead 113 = .ok (.aload_n 1, 1) := by decide +kernel
theorem d_Si_lookAhead_114 : decode b_Si_lookAhead 114 = .ok (.invokevirtual 80, 3) := by decide +kernel
theorem d_Si_lookAhead_117 : decode b_Si_lookAhead 117 = .ok (.goto 15, 3) := by decide +kernel
theorem d_Si_lookAhead_120 : decode b_Si_lookAhead 120 = .ok (.aload_n 1, 1) := by decide +kernel
theorem d_Si_lookAhead_121 : decode b_Si_lookAhead 121 = .ok (.aload_n 0, 1) := by decide +kernel
theorem d_Si_lookAhead_122 : decode b_Si_lookAhead 122 = .ok (.getfield 13, 3) := by decide +kernel
theorem d_Si_lookAhead_125 : decode b_Si_lookAhead 125 = .ok (.aload_n 0, 1) := by decide +kernel
theorem d_Si_lookAhead_126 : decode b_Si_lookAhead 126 = .ok (.getfield 22, 3) := by decide +kernel
theorem d_Si_lookAhead_129 : decode b_Si_lookAhead 129 = .ok (.invokevirtual 83, 3) := by decide +kernel
theorem d_Si_lookAhead_132 : decode b_Si_lookAhead 132 = .ok (.return_, 1) := by decide +kernel
theorem d_Si_isFlatAround_0 : decode b_Si_isFlatAround 0 = .ok (.aload_n 0, 1) := by decide +kernel
theorem d_Si_isFlatAround_1 : decode b_Si_isFlatAround 1 = .ok (.getfield 13, 3) := by decide +kernel
theorem d_Si_isFlatAround_4 : decode b_Si_isFlatAround 4 = .ok (.aload_n 1, 1) := by decide +kernel
theorem d_Si_isFlatAround_5 : decode b_Si_isFlatAround 5 = .ok (.getfield 70, 3) := by decide +kernel
theorem d_Si_isFlatAround_8 : decode b_Si_isFlatAround 8 = .ok (.aload_n 1, 1) := by decide +kernel
theorem d_Si_isFlatAround_9 : decode b_Si_isFlatAround 9 = .ok (.getfield 59, 3) := by decide +kernel
theorem d_Si_isFlatAround_12 : decode b_Si_isFlatAround 12 = .ok (.isub, 1) := by decide +kernel
theorem d_Si_isFlatAround_13 : decode b_Si_isFlatAround 13 = .ok (.invokevirtual 87, 3) := by decide +kernel
theorem d_Si_isFlatAround_16 : decode b_Si_isFlatAround 16 = .ok (.ifCond .eq 45, 3) := by decide +kernel
theorem d_Si_isFlatAround_19 : decode b_Si_isFlatAround 19 = .ok (.aload_n 0, 1) := by decide +kernel
theorem d_Si_isFlatAround_20 : decode b_Si_isFlatAround 20 = .ok (.getfield 13, 3) := by decide +kernel
theorem d_Si_isFlatAround_23 : decode b_Si_isFlatAround 23 = .ok (.aload_n 1, 1) := by decide +kernel
theorem d_Si_isFlatAround_24 : decode b_Si_isFlatAround 24 = .ok (.getfield 59, 3) := by decide +kernel
theorem d_Si_isFlatAround_27 : decode b_Si_isFlatAround 27 = .ok (.aload_n 1, 1) := by decide +kernel
theorem d_Si_isFlatAround_28 : decode b_Si_isFlatAround 28 = .ok (.getfield 67, 3) := by decide +kernel
theorem d_Si_isFlatAround_31 : decode b_Si_isFlatAround 31 = .ok (.isub, 1) := by decide +kernel
theorem d_Si_isFlatAround_32 : decode b_Si_isFlatAround 32 = .ok (.invokevirtual 87, 3) := by decide +kernel
theorem d_Si_isFlatAround_35 : decode b_Si_isFlatAround 35 = .ok (.ifCond .eq 26, 3) := by decide +kernel
theorem d_Si_isFlatAround_38 : decode b_Si_isFlatAround 38 = .ok (.aload_n 0, 1) := by decide +kernel
theorem d_Si_isFlatAround_39 : decode b_Si_isFlatAround 39 = .ok (.getfield 13, 3) := by decide +kernel
theorem d_Si_isFlatAround_42 : decode b_Si_isFlatAround 42 = .ok (.aload_n 1, 1) := by decide +kernel
theorem d_Si_isFlatAround_43 : decode b_Si_isFlatAround 43 = .ok (.getfield 67, 3) := by decide +kernel
theorem d_Si_isFlatAround_46 : decode b_Si_isFlatAround 46 = .ok (.aload_n 1, 1) := by decide +kernel
theorem d_Si_isFlatAround_47 : decode b_Si_isFlatAround 47 = .ok (.getfield 64, 3) := by decide +kernel
theorem d_Si_isFlatAround_50 : decode b_Si_isFlatAround 50 = .ok (.isub, 1) := by decide +kernel
theorem d_Si_isFlatAround_51 : decode b_Si_isFlatAround 51 = .ok (.invokevirtual 87, 3) := by decide +kernel
theorem d_Si_isFlatAround_54 : decode b_Si_isFlatAround 54 = .ok (.ifCond .eq 7, 3) := by decide +kernel
theorem d_Si_isFlatAround_57 : decode b_Si_isFlatAround 57 = .ok (.iconst 1, 1) := by decide +kernel
theorem d_Si_isFlatAround_58 : decode b_Si_isFlatAround 58 = .ok (.goto 4, 3) := by decide +kernel
theorem d_Si_isFlatAround_61 : decode b_Si_isFlatAround 61 = .ok (.iconst 0, 1) := by decide +kernel
theorem d_Si_isFlatAround_62 : decode b_Si_isFlatAround 62 = .ok (.ireturn, 1) := by decide +kernel
theorem d_Si_keep_0 : decode b_Si_keep 0 = .ok (.aload_n 0, 1) := by decide +kernel
theorem d_Si_keep_1 : decode b_Si_keep 1 = .ok (.aload_n 0, 1) := by decide +kernel
theorem d_Si_keep_2 : decode b_Si_keep 2 = .ok (.aload_n 0, 1) := by decide +kernel
theorem d_Si_keep_3 : decode b_Si_keep 3 = .ok (.getfield 39, 3) := by decide +kernel
theorem d_Si_keep_6 : decode b_Si_keep 6 = .ok (.invokevirtual 55, 3) := by decide +kernel
theorem d_Si_keep_9 : decode b_Si_keep 9 = .ok (.putfield 49, 3) := by decide +kernel
theorem d_Si_keep_12 : decode b_Si_keep 12 = .ok (.aload_n 0, 1) := by decide +kernel
theorem d_Si_keep_13 : decode b_Si_keep 13 = .ok (.getfield 39, 3) := by decide +kernel
theorem d_Si_keep_16 : decode b_Si_keep 16 = .ok (.ifCond .ne 11, 3) := by decide +kernel
theorem d_Si_keep_19 : decode b_Si_keep 19 = .ok (.aload_n 0, 1) := by decide +kernel
theorem d_Si_keep_20 : decode b_Si_keep 20 = .ok (.aload_n 0, 1) := by decide +kernel
theorem d_Si_keep_21 : decode b_Si_keep 21 = .ok (.getfield 49, 3) := by decide +kernel
theorem d_Si_keep_24 : decode b_Si_keep 24 = .ok (.putfield 52, 3) := by decide +kernel
theorem d_Si_keep_27 : decode b_Si_keep 27 = .ok (.aload_n 0, 1) := by decide +kernel
theorem d_Si_keep_28 : decode b_Si_keep 28 = .ok (.getfield 39, 3) := by decide +kernel
theorem d_Si_keep_31 : decode b_Si_keep 31 = .ok (.ifCond .lt 25, 3) := by decide +kernel
theorem d_Si_keep_34 : decode b_Si_keep 34 = .ok (.aload_n 0, 1) := by decide +kernel
theorem d_Si_keep_35 : decode b_Si_keep 35 = .ok (.getfield 39, 3) := by decide +kernel
theorem d_Si_keep_38 : decode b_Si_keep 38 = .ok (.aload_n 0, 1) := by decide +kernel
theorem d_Si_keep_39 : decode b_Si_keep 39 = .ok (.getfield 35, 3) := by decide +kernel
theorem d_Si_keep_42 : decode b_Si_keep 42 = .ok (.arraylength, 1) := by decide +kernel
theorem d_Si_keep_43 : decode b_Si_keep 43 = .ok (.if_icmp .ge 13, 3) := by decide +kernel
theorem d_Si_keep_46 : decode b_Si_keep 46 = .ok (.aload_n 0, 1) := by decide +kernel
theorem d_Si_keep_47 : decode b_Si_keep 47 = .ok (.getfield 35, 3) := by decide +kernel
theorem d_Si_keep_50 : decode b_Si_keep 50 = .ok (.aload_n 0, 1) := by decide +kernel
theorem d_Si_keep_51 : decode b_Si_keep 51 = .ok (.getfield 39, 3) := by decide +kernel
theorem d_Si_keep_54 : decode b_Si_keep 54 = .ok (.iload_n 1, 1) := by decide +kernel
theorem d_Si_keep_55 : decode b_Si_keep 55 = .ok (.iastore, 1) := by decide +kernel
theorem d_Si_keep_56 : decode b_Si_keep 56 = .ok (.aload_n 0, 1) := by decide +kernel
theorem d_Si_keep_57 : decode b_Si_keep 57 = .ok (.dup, 1) := by decide +kernel
theorem d_Si_keep_58 : decode b_Si_keep 58 = .ok (.getfield 39, 3) := by decide +kernel
theorem d_Si_keep_61 : decode b_Si_keep 61 = .ok (.iconst 1, 1) := by decide +kernel
theorem d_Si_keep_62 : decode b_Si_keep 62 = .ok (.iadd, 1) := by decide +kernel
theorem d_Si_keep_63 : decode b_Si_keep 63 = .ok (.putfield 39, 3) := by decide +kernel
theorem d_Si_keep_66 : decode b_Si_keep 66 = .ok (.aload_n 0, 1) := by decide +kernel
theorem d_Si_keep_67 : decode b_Si_keep 67 = .ok (.iload_n 2, 1) := by decide +kernel
theorem d_Si_keep_68 : decode b_Si_keep 68 = .ok (.putfield 45, 3) := by decide +kernel
theorem d_Si_keep_71 : decode b_Si_keep 71 = .ok (.return_, 1) := by decide +kernel
theorem d_Si_goToNextRow_0 : decode b_Si_goToNextRow 0 = .ok (.aload_n 0, 1) := by decide +kernel
theorem d_Si_goToNextRow_1 : decode b_Si_goToNextRow 1 = .ok (.getfield 39, 3) := by decide +kernel
theorem d_Si_goToNextRow_4 : decode b_Si_goToNextRow 4 = .ok (.aload_n 0, 1) := by decide +kernel
theorem d_Si_goToNextRow_5 : decode b_Si_goToNextRow 5 = .ok (.getfield 7, 3) := by decide +kernel
theorem d_Si_goToNextRow_8 : decode b_Si_goToNextRow 8 = .ok (.if_icmp .ge 5, 3) := by decide +kernel
theorem d_Si_goToNextRow_11 : decode b_Si_goToNextRow 11 = .ok (.iconst 0, 1) := by decide +kernel
theorem d_Si_goToNextRow_12 : decode b_Si_goToNextRow 12 = .ok (.ireturn, 1) := by decide +kernel
theorem d_Si_goToNextRow_13 : decode b_Si_goToNextRow 13 = .ok (.aload_n 0, 1) := by decide +kernel
theorem d_Si_goToNextRow_14 : decode b_Si_goToNextRow 14 = .ok (.iconst 0, 1) := by decide +kernel
theorem d_Si_goToNextRow_15 : decode b_Si_goToNextRow 15 = .ok (.putfield 39, 3) := by decide +kernel
theorem d_Si_goToNextRow_18 : decode b_Si_goToNextRow 18 = .ok (.aload_n 0, 1) := by decide +kernel
theorem d_Si_goToNextRow_19 : decode b_Si_goToNextRow 19 = .ok (.dup, 1) := by decide +kernel
theorem d_Si_goToNextRow_20 : decode b_Si_goToNextRow 20 = .ok (.getfield 42, 3) := by decide +kernel
theorem d_Si_goToNextRow_23 : decode b_Si_goToNextRow 23 = .ok (.iconst 1, 1) := by decide +kernel
theorem d_Si_goToNextRow_24 : decode b_Si_goToNextRow 24 = .ok (.iadd, 1) := by decide +kernel
theorem d_Si_goToNextRow_25 : decode b_Si_goToNextRow 25 = .ok (.putfield 42, 3) := by decide +kernel
theorem d_Si_goToNextRow_28 : decode b_Si_goToNextRow 28 = .ok (.aload_n 0, 1) := by decide +kernel
theorem d_Si_goToNextRow_29 : decode b_Si_goToNextRow 29 = .ok (.iconst 0, 1) := by decide +kernel
theorem d_Si_goToNextRow_30 : decode b_Si_goToNextRow 30 = .ok (.putfield 45, 3) := by decide +kernel
theorem d_Si_goToNextRow_33 : decode b_Si_goToNextRow 33 = .ok (.aload_n 0, 1) := by decide +kernel
theorem d_Si_goToNextRow_34 : decode b_Si_goToNextRow 34 = .ok (.aload_n 0, 1) := by decide +kernel
theorem d_Si_goToNextRow_35 : decode b_Si_goToNextRow 35 = .ok (.getfield 52, 3) := by decide +kernel
theorem d_Si_goToNextRow_38 : decode b_Si_goToNextRow 38 = .ok (.putfield 49, 3) := by decide +kernel
theorem d_Si_goToNextRow_41 : decode b_Si_goToNextRow 41 = .ok (.iconst 1, 1) := by decide +kernel
theorem d_Si_goToNextRow_42 : decode b_Si_goToNextRow 42 = .ok (.ireturn, 1) := by decide +kernel
theorem d_Si_rowAt_0 : decode b_Si_rowAt 0 = .ok (.iload_n 1, 1) := by decide +kernel
theorem d_Si_rowAt_1 : decode b_Si_rowAt 1 = .ok (.ifCond .lt 21, 3) := by decide +kernel
theorem d_Si_rowAt_4 : decode b_Si_rowAt 4 = .ok (.iload_n 1, 1) := by decide +kernel
theorem d_Si_rowAt_5 : decode b_Si_rowAt 5 = .ok (.aload_n 0, 1) := by decide +kernel
theorem d_Si_rowAt_6 : decode b_Si_rowAt 6 = .ok (.getfield 35, 3) := by decide +kernel
theorem d_Si_rowAt_9 : decode b_Si_rowAt 9 = .ok (.arraylength, 1) := by decide +kernel
theorem d_Si_rowAt_10 : decode b_Si_rowAt 10 = .ok (.if_icmp .ge 12, 3) := by decide +kernel
theorem d_Si_rowAt_13 : decode b_Si_rowAt 13 = .ok (.aload_n 0, 1) := by decide +kernel
theorem d_Si_rowAt_14 : decode b_Si_rowAt 14 = .ok (.getfield 35, 3) := by decide +kernel
theorem d_Si_rowAt_17 : decode b_Si_rowAt 17 = .ok (.iload_n 1, 1) := by decide +kernel
theorem d_Si_rowAt_18 : decode b_Si_rowAt 18 = .ok (.iaload, 1) := by decide +kernel
theorem d_Si_rowAt_19 : decode b_Si_rowAt 19 = .ok (.goto 4, 3) := by decide +kernel
theorem d_Si_rowAt_22 : decode b_Si_rowAt 22 = .ok (.iconst 0, 1) := by decide +kernel
theorem d_Si_rowAt_23 : decode b_Si_rowAt 23 = .ok (.ireturn, 1) := by decide +kernel
