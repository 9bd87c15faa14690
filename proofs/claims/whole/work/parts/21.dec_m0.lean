theorem d_Mo_init_0 : decode b_Mo_init 0 = .ok (.aload_n 0, 1) := by decide +kernel
theorem d_Mo_init_1 : decode b_Mo_init 1 = .ok (.invokespecial 1, 3) := by decide +kernel
theorem d_Mo_init_4 : decode b_Mo_init 4 = .ok (.aload_n 0, 1) := by decide +kernel
theorem d_Mo_init_5 : decode b_Mo_init 5 = .ok (.bipush 64, 2) := by decide +kernel
theorem d_Mo_init_7 : decode b_Mo_init 7 = .ok (.putfield 7, 3) := by decide +kernel
theorem d_Mo_init_10 : decode b_Mo_init 10 = .ok (.aload_n 0, 1) := by decide +kernel
theorem d_Mo_init_11 : decode b_Mo_init 11 = .ok (.ldc 13, 2) := by decide +kernel
theorem d_Mo_init_13 : decode b_Mo_init 13 = .ok (.newarray .int, 2) := by decide +kernel
theorem d_Mo_init_15 : decode b_Mo_init 15 = .ok (.putfield 14, 3) := by decide +kernel
theorem d_Mo_init_18 : decode b_Mo_init 18 = .ok (.aload_n 0, 1) := by decide +kernel
theorem d_Mo_init_19 : decode b_Mo_init 19 = .ok (.ldc 13, 2) := by decide +kernel
theorem d_Mo_init_21 : decode b_Mo_init 21 = .ok (.newarray .int, 2) := by decide +kernel
theorem d_Mo_init_23 : decode b_Mo_init 23 = .ok (.putfield 18, 3) := by decide +kernel
theorem d_Mo_init_26 : decode b_Mo_init 26 = .ok (.aload_n 0, 1) := by decide +kernel
theorem d_Mo_init_27 : decode b_Mo_init 27 = .ok (.iconst 2, 1) := by decide +kernel
theorem d_Mo_init_28 : decode b_Mo_init 28 = .ok (.newarray .int, 2) := by decide +kernel
theorem d_Mo_init_30 : decode b_Mo_init 30 = .ok (.putfield 21, 3) := by decide +kernel
theorem d_Mo_init_33 : decode b_Mo_init 33 = .ok (.aload_n 0, 1) := by decide +kernel
theorem d_Mo_init_34 : decode b_Mo_init 34 = .ok (.iconst 2, 1) := by decide +kernel
theorem d_Mo_init_35 : decode b_Mo_init 35 = .ok (.newarray .int, 2) := by decide +kernel
theorem d_Mo_init_37 : decode b_Mo_init 37 = .ok (.putfield 24, 3) := by decide +kernel
theorem d_Mo_init_40 : decode b_Mo_init 40 = .ok (.aload_n 0, 1) := by decide +kernel
theorem d_Mo_init_41 : decode b_Mo_init 41 = .ok (.iconst 2, 1) := by decide +kernel
theorem d_Mo_init_42 : decode b_Mo_init 42 = .ok (.newarray .int, 2) := by decide +kernel
theorem d_Mo_init_44 : decode b_Mo_init 44 = .ok (.putfield 27, 3) := by decide +kernel
theorem d_Mo_init_47 : decode b_Mo_init 47 = .ok (.aload_n 0, 1) := by decide +kernel
theorem d_Mo_init_48 : decode b_Mo_init 48 = .ok (.iconst 2, 1) := by decide +kernel
theorem d_Mo_init_49 : decode b_Mo_init 49 = .ok (.newarray .boolean, 2) := by decide +kernel
theorem d_Mo_init_51 : decode b_Mo_init 51 = .ok (.putfield 30, 3) := by decide +kernel
theorem d_Mo_init_54 : decode b_Mo_init 54 = .ok (.aload_n 0, 1) := by decide +kernel
theorem d_Mo_init_55 : decode b_Mo_init 55 = .ok (.sipush 734, 3) := by decide +kernel
theorem d_Mo_init_58 : decode b_Mo_init 58 = .ok (.newarray .int, 2) := by decide +kernel
theorem d_Mo_init_60 : decode b_Mo_init 60 = .ok (.putfield 34, 3) := by decide +kernel
theorem d_Mo_init_63 : decode b_Mo_init 63 = .ok (.aload_n 0, 1) := by decide +kernel
theorem d_Mo_init_64 : decode b_Mo_init 64 = .ok (.sipush 734, 3) := by decide +kernel
theorem d_Mo_init_67 : decode b_Mo_init 67 = .ok (.newarray .int, 2) := by decide +kernel
theorem d_Mo_init_69 : decode b_Mo_init 69 = .ok (.putfield 37, 3) := by decide +kernel
theorem d_Mo_init_72 : decode b_Mo_init 72 = .ok (.aload_n 0, 1) := by decide +kernel
theorem d_Mo_init_73 : decode b_Mo_init 73 = .ok (.sipush 734, 3) := by decide +kernel
theorem d_Mo_init_76 : decode b_Mo_init 76 = .ok (.newarray .int, 2) := by decide +kernel
theorem d_Mo_init_78 : decode b_Mo_init 78 = .ok (.putfield 40, 3) := by decide +kernel
theorem d_Mo_init_81 : decode b_Mo_init 81 = .ok (.aload_n 0, 1) := by decide +kernel
theorem d_Mo_init_82 : decode b_Mo_init 82 = .ok (.sipush 734, 3) := by decide +kernel
theorem d_Mo_init_85 : decode b_Mo_init 85 = .ok (.newarray .int, 2) := by decide +kernel
theorem d_Mo_init_87 : decode b_Mo_init 87 = .ok (.putfield 43, 3) := by decide +kernel
theorem d_Mo_init_90 : decode b_Mo_init 90 = .ok (.aload_n 0, 1) := by decide +kernel
theorem d_Mo_init_91 : decode b_Mo_init 91 = .ok (.iconst 5, 1) := by decide +kernel
theorem d_Mo_init_92 : decode b_Mo_init 92 = .ok (.newarray .int, 2) := by decide +kernel
theorem d_Mo_init_94 : decode b_Mo_init 94 = .ok (.putfield 46, 3) := by decide +kernel
theorem d_Mo_init_97 : decode b_Mo_init 97 = .ok (.aload_n 0, 1) := by decide +kernel
theorem d_Mo_init_98 : decode b_Mo_init 98 = .ok (.iload_n 1, 1) := by decide +kernel
theorem d_Mo_init_99 : decode b_Mo_init 99 = .ok (.iconst 1, 1) := by decide +kernel
theorem d_Mo_init_100 : decode b_Mo_init 100 = .ok (.ldc 49, 2) := by decide +kernel
theorem d_Mo_init_102 : decode b_Mo_init 102 = .ok (.invokestatic 50, 3) := by decide +kernel
theorem d_Mo_init_105 : decode b_Mo_init 105 = .ok (.putfield 54, 3) := by decide +kernel
theorem d_Mo_init_108 : decode b_Mo_init 108 = .ok (.aload_n 0, 1) := by decide +kernel
theorem d_Mo_init_109 : decode b_Mo_init 109 = .ok (.iconst 1, 1) := by decide +kernel
theorem d_Mo_init_110 : decode b_Mo_init 110 = .ok (.iload_n 2, 1) := by decide +kernel
theorem d_Mo_init_111 : decode b_Mo_init 111 = .ok (.iconst 2, 1) := by decide +kernel
theorem d_Mo_init_112 : decode b_Mo_init 112 = .ok (.bipush 16, 2) := by decide +kernel
theorem d_Mo_init_114 : decode b_Mo_init 114 = .ok (.invokestatic 50, 3) := by decide +kernel
theorem d_Mo_init_117 : decode b_Mo_init 117 = .ok (.ishl, 1) := by decide +kernel
theorem d_Mo_init_118 : decode b_Mo_init 118 = .ok (.iconst 1, 1) := by decide +kernel
theorem d_Mo_init_119 : decode b_Mo_init 119 = .ok (.isub, 1) := by decide +kernel
theorem d_Mo_init_120 : decode b_Mo_init 120 = .ok (.putfield 57, 3) := by decide +kernel
theorem d_Mo_init_123 : decode b_Mo_init 123 = .ok (.aload_n 0, 1) := by decide +kernel
theorem d_Mo_init_124 : decode b_Mo_init 124 = .ok (.iload_n 3, 1) := by decide +kernel
theorem d_Mo_init_125 : decode b_Mo_init 125 = .ok (.iconst 0, 1) := by decide +kernel
theorem d_Mo_init_126 : decode b_Mo_init 126 = .ok (.aload_n 0, 1) := by decide +kernel
theorem d_Mo_init_127 : decode b_Mo_init 127 = .ok (.getfield 57, 3) := by decide +kernel
theorem d_Mo_init_130 : decode b_Mo_init 130 = .ok (.iconst 2, 1) := by decide +kernel
theorem d_Mo_init_131 : decode b_Mo_init 131 = .ok (.idiv, 1) := by decide +kernel
theorem d_Mo_init_132 : decode b_Mo_init 132 = .ok (.sipush 255, 3) := by decide +kernel
theorem d_Mo_init_135 : decode b_Mo_init 135 = .ok (.if_icmp .ge 12, 3) := by decide +kernel
theorem d_Mo_init_138 : decode b_Mo_init 138 = .ok (.aload_n 0, 1) := by decide +kernel
theorem d_Mo_init_139 : decode b_Mo_init 139 = .ok (.getfield 57, 3) := by decide +kernel
theorem d_Mo_init_142 : decode b_Mo_init 142 = .ok (.iconst 2, 1) := by decide +kernel
theorem d_Mo_init_143 : decode b_Mo_init 143 = .ok (.idiv, 1) := by decide +kernel
theorem d_Mo_init_144 : decode b_Mo_init 144 = .ok (.goto 6, 3) := by decide +kernel
theorem d_Mo_init_147 : decode b_Mo_init 147 = .ok (.sipush 255, 3) := by decide +kernel
theorem d_Mo_init_150 : decode b_Mo_init 150 = .ok (.invokestatic 50, 3) := by decide +kernel
theorem d_Mo_init_153 : decode b_Mo_init 153 = .ok (.putfield 60, 3) := by decide +kernel
theorem d_Mo_init_156 : decode b_Mo_init 156 = .ok (.aload_n 0, 1) := by decide +kernel
theorem d_Mo_init_157 : decode b_Mo_init 157 = .ok (.iconst 2, 1) := by decide +kernel
theorem d_Mo_init_158 : decode b_Mo_init 158 = .ok (.aload_n 0, 1) := by decide +kernel
theorem d_Mo_init_159 : decode b_Mo_init 159 = .ok (.getfield 60, 3) := by decide +kernel
theorem d_Mo_init_162 : decode b_Mo_init 162 = .ok (.imul, 1) := by decide +kernel
theorem d_Mo_init_163 : decode b_Mo_init 163 = .ok (.iconst 1, 1) := by decide +kernel
theorem d_Mo_init_164 : decode b_Mo_init 164 = .ok (.iadd, 1) := by decide +kernel
theorem d_Mo_init_165 : decode b_Mo_init 165 = .ok (.putfield 63, 3) := by decide +kernel
theorem d_Mo_init_168 : decode b_Mo_init 168 = .ok (.aload_n 0, 1) := by decide +kernel
theorem d_Mo_init_169 : decode b_Mo_init 169 = .ok (.aload_n 0, 1) := by decide +kernel
theorem d_Mo_init_170 : decode b_Mo_init 170 = .ok (.getfield 57, 3) := by decide +kernel
theorem d_Mo_init_173 : decode b_Mo_init 173 = .ok (.iconst 2, 1) := by decide +kernel
theorem d_Mo_init_174 : decode b_Mo_init 174 = .ok (.aload_n 0, 1) := by decide +kernel
theorem d_Mo_init_175 : decode b_Mo_init 175 = .ok (.getfield 60, 3) := by decide +kernel
theorem d_Mo_init_178 : decode b_Mo_init 178 = .ok (.imul, 1) := by decide +kernel
theorem d_Mo_init_179 : decode b_Mo_init 179 = .ok (.iadd, 1) := by decide +kernel
theorem d_Mo_init_180 : decode b_Mo_init 180 = .ok (.aload_n 0, 1) := by decide +kernel
theorem d_Mo_init_181 : decode b_Mo_init 181 = .ok (.getfield 63, 3) := by decide +kernel
theorem d_Mo_init_184 : decode b_Mo_init 184 = .ok (.idiv, 1) := by decide +kernel
theorem d_Mo_init_185 : decode b_Mo_init 185 = .ok (.iconst 1, 1) := by decide +kernel
theorem d_Mo_init_186 : decode b_Mo_init 186 = .ok (.iadd, 1) := by decide +kernel
theorem d_Mo_init_187 : decode b_Mo_init 187 = .ok (.putfield 66, 3) := by decide +kernel
theorem d_Mo_init_190 : decode b_Mo_init 190 = .ok (.iconst 0, 1) := by decide +kernel
theorem d_Mo_init_191 : decode b_Mo_init 191 = .ok (.istore 4, 2) := by decide +kernel
theorem d_Mo_init_193 : decode b_Mo_init 193 = .ok (.iload 4, 2) := by decide +kernel
theorem d_Mo_init_195 : decode b_Mo_init 195 = .ok (.sipush 734, 3) := by decide +kernel
theorem d_Mo_init_198 : decode b_Mo_init 198 = .ok (.if_icmp .ge 52, 3) := by decide +kernel
theorem d_Mo_init_201 : decode b_Mo_init 201 = .ok (.aload_n 0, 1) := by decide +kernel
theorem d_Mo_init_202 : decode b_Mo_init 202 = .ok (.getfield 34, 3) := by decide +kernel
theorem d_Mo_init_205 : decode b_Mo_init 205 = .ok (.iload 4, 2) := by decide +kernel
theorem d_Mo_init_207 : decode b_Mo_init 207 = .ok (.aload_n 0, 1) := by decide +kernel
theorem d_Mo_init_208 : decode b_Mo_init 208 = .ok (.getfield 66, 3) := by decide +kernel
theorem d_Mo_init_211 : decode b_Mo_init 211 = .ok (.bipush 32, 2) := by decide +kernel
theorem d_Mo_init_213 : decode b_Mo_init 213 = .ok (.iadd, 1) := by decide +kernel
theorem d_Mo_init_214 : decode b_Mo_init 214 = .ok (.bipush 64, 2) := by decide +kernel
theorem d_Mo_init_216 : decode b_Mo_init 216 = .ok (.idiv, 1) := by decide +kernel
theorem d_Mo_init_217 : decode b_Mo_init 217 = .ok (.iconst 2, 1) := by decide +kernel
theorem d_Mo_init_218 : decode b_Mo_init 218 = .ok (.if_icmp .le 16, 3) := by decide +kernel
theorem d_Mo_init_221 : decode b_Mo_init 221 = .ok (.aload_n 0, 1) := by decide +kernel
theorem d_Mo_init_222 : decode b_Mo_init 222 = .ok (.getfield 66, 3) := by decide +kernel
theorem d_Mo_init_225 : decode b_Mo_init 225 = .ok (.bipush 32, 2) := by decide +kernel
theorem d_Mo_init_227 : decode b_Mo_init 227 = .ok (.iadd, 1) := by decide +kernel
theorem d_Mo_init_228 : decode b_Mo_init 228 = .ok (.bipush 64, 2) := by decide +kernel
theorem d_Mo_init_230 : decode b_Mo_init 230 = .ok (.idiv, 1) := by decide +kernel
theorem d_Mo_init_231 : decode b_Mo_init 231 = .ok (.goto 4, 3) := by decide +kernel
theorem d_Mo_init_234 : decode b_Mo_init 234 = .ok (.iconst 2, 1) := by decide +kernel
theorem d_Mo_init_235 : decode b_Mo_init 235 = .ok (.iastore, 1) := by decide +kernel
theorem d_Mo_init_236 : decode b_Mo_init 236 = .ok (.aload_n 0, 1) := by decide +kernel
theorem d_Mo_init_237 : decode b_Mo_init 237 = .ok (.getfield 37, 3) := by decide +kernel
theorem d_Mo_init_240 : decode b_Mo_init 240 = .ok (.iload 4, 2) := by decide +kernel
theorem d_Mo_init_242 : decode b_Mo_init 242 = .ok (.iconst 1, 1) := by decide +kernel
theorem d_Mo_init_243 : decode b_Mo_init 243 = .ok (.iastore, 1) := by decide +kernel
theorem d_Mo_init_244 : decode b_Mo_init 244 = .ok (.iinc 4 1, 3) := by decide +kernel
theorem d_Mo_init_247 : decode b_Mo_init 247 = .ok (.goto (-54), 3) := by decide +kernel
theorem d_Mo_init_250 : decode b_Mo_init 250 = .ok (.aload_n 0, 1) := by decide +kernel
theorem d_Mo_init_251 : decode b_Mo_init 251 = .ok (.invokevirtual 69, 3) := by decide +kernel
theorem d_Mo_init_254 : decode b_Mo_init 254 = .ok (.return_, 1) := by decide +kernel
theorem d_Mo_thrown_0 : decode b_Mo_thrown 0 = .ok (.aload_n 0, 1) := by decide +kernel
theorem d_Mo_thrown_1 : decode b_Mo_thrown 1 = .ok (.getfield 72, 3) := by decide +kernel
theorem d_Mo_thrown_4 : decode b_Mo_thrown 4 = .ok (.ireturn, 1) := by decide +kernel
theorem d_Mo_brought_0 : decode b_Mo_brought 0 = .ok (.iload_n 0, 1) := by decide +kernel
theorem d_Mo_brought_1 : decode b_Mo_brought 1 = .ok (.iload_n 1, 1) := by decide +kernel
theorem d_Mo_brought_2 : decode b_Mo_brought 2 = .ok (.if_icmp .ge 7, 3) := by decide +kernel
theorem d_Mo_brought_5 : decode b_Mo_brought 5 = .ok (.iload_n 1, 1) := by decide +kernel
theorem d_Mo_brought_6 : decode b_Mo_brought 6 = .ok (.goto 13, 3) := by decide +kernel
theorem d_Mo_brought_9 : decode b_Mo_brought 9 = .ok (.iload_n 0, 1) := by decide +kernel
theorem d_Mo_brought_10 : decode b_Mo_brought 10 = .ok (.iload_n 2, 1) := by decide +kernel
theorem d_Mo_brought_11 : decode b_Mo_brought 11 = .ok (.if_icmp .le 7, 3) := by decide +kernel
theorem d_Mo_brought_14 : decode b_Mo_brought 14 = .ok (.iload_n 2, 1) := by decide +kernel
theorem d_Mo_brought_15 : decode b_Mo_brought 15 = .ok (.goto 4, 3) := by decide +kernel
theorem d_Mo_brought_18 : decode b_Mo_brought 18 = .ok (.iload_n 0, 1) := by decide +kernel
theorem d_Mo_brought_19 : decode b_Mo_brought 19 = .ok (.ireturn, 1) := by decide +kernel
theorem d_Mo_size_0 : decode b_Mo_size 0 = .ok (.iload_n 0, 1) := by decide +kernel
theorem d_Mo_size_1 : decode b_Mo_size 1 = .ok (.ifCond .ge 8, 3) := by decide +kernel
theorem d_Mo_size_4 : decode b_Mo_size 4 = .ok (.iload_n 0, 1) := by decide +kernel
theorem d_Mo_size_5 : decode b_Mo_size 5 = .ok (.ineg, 1) := by decide +kernel
theorem d_Mo_size_6 : decode b_Mo_size 6 = .ok (.goto 4, 3) := by decide +kernel
theorem d_Mo_size_9 : decode b_Mo_size 9 = .ok (.iload_n 0, 1) := by decide +kernel
theorem d_Mo_size_10 : decode b_Mo_size 10 = .ok (.ireturn, 1) := by decide +kernel
theorem d_Mo_greater_0 : decode b_Mo_greater 0 = .ok (.iload_n 0, 1) := by decide +kernel
theorem d_Mo_greater_1 : decode b_Mo_greater 1 = .ok (.iload_n 1, 1) := by decide +kernel
theorem d_Mo_greater_2 : decode b_Mo_greater 2 = .ok (.if_icmp .le 7, 3) := by decide +kernel
theorem d_Mo_greater_5 : decode b_Mo_greater 5 = .ok (.iload_n 0, 1) := by decide +kernel
theorem d_Mo_greater_6 : decode b_Mo_greater 6 = .ok (.goto 4, 3) := by decide +kernel
theorem d_Mo_greater_9 : decode b_Mo_greater 9 = .ok (.iload_n 1, 1) := by decide +kernel
theorem d_Mo_greater_10 : decode b_Mo_greater 10 = .ok (.ireturn, 1) := by decide +kernel
theorem d_Mo_layThresholds_0 : decode b_Mo_layThresholds 0 = .ok (.aload_n 0, 1) := by decide +kernel
theorem d_Mo_layThresholds_1 : decode b_Mo_layThresholds 1 = .ok (.getfield 57, 3) := by decide +kernel
theorem d_Mo_layThresholds_4 : decode b_Mo_layThresholds 4 = .ok (.sipush 128, 3) := by decide +kernel
theorem d_Mo_layThresholds_7 : decode b_Mo_layThresholds 7 = .ok (.if_icmp .lt 83, 3) := by decide +kernel
theorem d_Mo_layThresholds_10 : decode b_Mo_layThresholds 10 = .ok (.aload_n 0, 1) := by decide +kernel
theorem d_Mo_layThresholds_11 : decode b_Mo_layThresholds 11 = .ok (.getfield 57, 3) := by decide +kernel
theorem d_Mo_layThresholds_14 : decode b_Mo_layThresholds 14 = .ok (.sipush 4095, 3) := by decide +kernel
theorem d_Mo_layThresholds_17 : decode b_Mo_layThresholds 17 = .ok (.if_icmp .ge 10, 3) := by decide +kernel
theorem d_Mo_layThresholds_20 : decode b_Mo_layThresholds 20 = .ok (.aload_n 0, 1) := by decide +kernel
theorem d_Mo_layThresholds_21 : decode b_Mo_layThresholds 21 = .ok (.getfield 57, 3) := by decide +kernel
theorem d_Mo_layThresholds_24 : decode b_Mo_layThresholds 24 = .ok (.goto 6, 3) := by decide +kernel
theorem d_Mo_layThresholds_27 : decode b_Mo_layThresholds 27 = .ok (.sipush 4095, 3) := by decide +kernel
theorem d_Mo_layThresholds_30 : decode b_Mo_layThresholds 30 = .ok (.sipush 128, 3) := by decide +kernel
theorem d_Mo_layThresholds_33 : decode b_Mo_layThresholds 33 = .ok (.iadd, 1) := by decide +kernel
theorem d_Mo_layThresholds_34 : decode b_Mo_layThresholds 34 = .ok (.sipush 256, 3) := by decide +kernel
theorem d_Mo_layThresholds_37 : decode b_Mo_layThresholds 37 = .ok (.idiv, 1) := by decide +kernel
theorem d_Mo_layThresholds_38 : decode b_Mo_layThresholds 38 = .ok (.istore_n 1, 1) := by decide +kernel
theorem d_Mo_layThresholds_39 : decode b_Mo_layThresholds 39 = .ok (.aload_n 0, 1) := by decide +kernel
theorem d_Mo_layThresholds_40 : decode b_Mo_layThresholds 40 = .ok (.iload_n 1, 1) := by decide +kernel
theorem d_Mo_layThresholds_41 : decode b_Mo_layThresholds 41 = .ok (.iconst 2, 1) := by decide +kernel
theorem d_Mo_layThresholds_42 : decode b_Mo_layThresholds 42 = .ok (.iadd, 1) := by decide +kernel
theorem d_Mo_layThresholds_43 : decode b_Mo_layThresholds 43 = .ok (.iconst 3, 1) := by decide +kernel
theorem d_Mo_layThresholds_44 : decode b_Mo_layThresholds 44 = .ok (.aload_n 0, 1) := by decide +kernel
theorem d_Mo_layThresholds_45 : decode b_Mo_layThresholds 45 = .ok (.getfield 60, 3) := by decide +kernel
theorem d_Mo_layThresholds_48 : decode b_Mo_layThresholds 48 = .ok (.imul, 1) := by decide +kernel
theorem d_Mo_layThresholds_49 : decode b_Mo_layThresholds 49 = .ok (.iadd, 1) := by decide +kernel
theorem d_Mo_layThresholds_50 : decode b_Mo_layThresholds 50 = .ok (.putfield 75, 3) := by decide +kernel
theorem d_Mo_layThresholds_53 : decode b_Mo_layThresholds 53 = .ok (.aload_n 0, 1) := by decide +kernel
theorem d_Mo_layThresholds_54 : decode b_Mo_layThresholds 54 = .ok (.iconst 4, 1) := by decide +kernel
theorem d_Mo_layThresholds_55 : decode b_Mo_layThresholds 55 = .ok (.iload_n 1, 1) := by decide +kernel
theorem d_Mo_layThresholds_56 : decode b_Mo_layThresholds 56 = .ok (.imul, 1) := by decide +kernel
theorem d_Mo_layThresholds_57 : decode b_Mo_layThresholds 57 = .ok (.iconst 3, 1) := by decide +kernel
theorem d_Mo_layThresholds_58 : decode b_Mo_layThresholds 58 = .ok (.iadd, 1) := by decide +kernel
theorem d_Mo_layThresholds_59 : decode b_Mo_layThresholds 59 = .ok (.iconst 5, 1) := by decide +kernel
theorem d_Mo_layThresholds_60 : decode b_Mo_layThresholds 60 = .ok (.aload_n 0, 1) := by decide +kernel
theorem d_Mo_layThresholds_61 : decode b_Mo_layThresholds 61 = .ok (.getfield 60, 3) := by decide +kernel
theorem d_Mo_layThresholds_64 : decode b_Mo_layThresholds 64 = .ok (.imul, 1) := by decide +kernel
theorem d_Mo_layThresholds_65 : decode b_Mo_layThresholds 65 = .ok (.iadd, 1) := by decide +kernel
theorem d_Mo_layThresholds_66 : decode b_Mo_layThresholds 66 = .ok (.putfield 78, 3) := by decide +kernel
theorem d_Mo_layThresholds_69 : decode b_Mo_layThresholds 69 = .ok (.aload_n 0, 1) := by decide +kernel
theorem d_Mo_layThresholds_70 : decode b_Mo_layThresholds 70 = .ok (.bipush 17, 2) := by decide +kernel
theorem d_Mo_layThresholds_72 : decode b_Mo_layThresholds 72 = .ok (.iload_n 1, 1) := by decide +kernel
theorem d_Mo_layThresholds_73 : decode b_Mo_layThresholds 73 = .ok (.imul, 1) := by decide +kernel
theorem d_Mo_layThresholds_74 : decode b_Mo_layThresholds 74 = .ok (.iconst 4, 1) := by decide +kernel
theorem d_Mo_layThresholds_75 : decode b_Mo_layThresholds 75 = .ok (.iadd, 1) := by decide +kernel
theorem d_Mo_layThresholds_76 : decode b_Mo_layThresholds 76 = .ok (.bipush 7, 2) := by decide +kernel
theorem d_Mo_layThresholds_78 : decode b_Mo_layThresholds 78 = .ok (.aload_n 0, 1) := by decide +kernel
theorem d_Mo_layThresholds_79 : decode b_Mo_layThresholds 79 = .ok (.getfield 60, 3) := by decide +kernel
theorem d_Mo_layThresholds_82 : decode b_Mo_layThresholds 82 = .ok (.imul, 1) := by decide +kernel
theorem d_Mo_layThresholds_83 : decode b_Mo_layThresholds 83 = .ok (.iadd, 1) := by decide +kernel
theorem d_Mo_layThresholds_84 : decode b_Mo_layThresholds 84 = .ok (.putfield 81, 3) := by decide +kernel
theorem d_Mo_layThresholds_87 : decode b_Mo_layThresholds 87 = .ok (.goto 71, 3) := by decide +kernel
theorem d_Mo_layThresholds_90 : decode b_Mo_layThresholds 90 = .ok (.sipush 256, 3) := by decide +kernel
theorem d_Mo_layThresholds_93 : decode b_Mo_layThresholds 93 = .ok (.aload_n 0, 1) := by decide +kernel
theorem d_Mo_layThresholds_94 : decode b_Mo_layThresholds 94 = .ok (.getfield 57, 3) := by decide +kernel
theorem d_Mo_layThresholds_97 : decode b_Mo_layThresholds 97 = .ok (.iconst 1, 1) := by decide +kernel
theorem d_Mo_layThresholds_98 : decode b_Mo_layThresholds 98 = .ok (.iadd, 1) := by decide +kernel
theorem d_Mo_layThresholds_99 : decode b_Mo_layThresholds 99 = .ok (.idiv, 1) := by decide +kernel
theorem d_Mo_layThresholds_100 : decode b_Mo_layThresholds 100 = .ok (.istore_n 1, 1) := by decide +kernel
theorem d_Mo_layThresholds_101 : decode b_Mo_layThresholds 101 = .ok (.aload_n 0, 1) := by decide +kernel
theorem d_Mo_layThresholds_102 : decode b_Mo_layThresholds 102 = .ok (.iconst 2, 1) := by decide +kernel
theorem d_Mo_layThresholds_103 : decode b_Mo_layThresholds 103 = .ok (.iconst 3, 1) := by decide +kernel
theorem d_Mo_layThresholds_104 : decode b_Mo_layThresholds 104 = .ok (.iload_n 1, 1) := by decide +kernel
theorem d_Mo_layThresholds_105 : decode b_Mo_layThresholds 105 = .ok (.idiv, 1) := by decide +kernel
theorem d_Mo_layThresholds_106 : decode b_Mo_layThresholds 106 = .ok (.iconst 3, 1) := by decide +kernel
theorem d_Mo_layThresholds_107 : decode b_Mo_layThresholds 107 = .ok (.aload_n 0, 1) := by decide +kernel
theorem d_Mo_layThresholds_108 : decode b_Mo_layThresholds 108 = .ok (.getfield 60, 3) := by decide +kernel
theorem d_Mo_layThresholds_111 : decode b_Mo_layThresholds 111 = .ok (.imul, 1) := by decide +kernel
theorem d_Mo_layThresholds_112 : decode b_Mo_layThresholds 112 = .ok (.iadd, 1) := by decide +kernel
theorem d_Mo_layThresholds_113 : decode b_Mo_layThresholds 113 = .ok (.invokestatic 84, 3) := by decide +kernel
theorem d_Mo_layThresholds_116 : decode b_Mo_layThresholds 116 = .ok (.putfield 75, 3) := by decide +kernel
theorem d_Mo_layThresholds_119 : decode b_Mo_layThresholds 119 = .ok (.aload_n 0, 1) := by decide +kernel
theorem d_Mo_layThresholds_120 : decode b_Mo_layThresholds 120 = .ok (.iconst 3, 1) := by decide +kernel
theorem d_Mo_layThresholds_121 : decode b_Mo_layThresholds 121 = .ok (.bipush 7, 2) := by decide +kernel
theorem d_Mo_layThresholds_123 : decode b_Mo_layThresholds 123 = .ok (.iload_n 1, 1) := by decide +kernel
theorem d_Mo_layThresholds_124 : decode b_Mo_layThresholds 124 = .ok (.idiv, 1) := by decide +kernel
theorem d_Mo_layThresholds_125 : decode b_Mo_layThresholds 125 = .ok (.iconst 5, 1) := by decide +kernel
theorem d_Mo_layThresholds_126 : decode b_Mo_layThresholds 126 = .ok (.aload_n 0, 1) := by decide +kernel
theorem d_Mo_layThresholds_127 : decode b_Mo_layThresholds 127 = .ok (.getfield 60, 3) := by decide +kernel
theorem d_Mo_layThresholds_130 : decode b_Mo_layThresholds 130 = .ok (.imul, 1) := by decide +kernel
theorem d_Mo_layThresholds_131 : decode b_Mo_layThresholds 131 = .ok (.iadd, 1) := by decide +kernel
theorem d_Mo_layThresholds_132 : decode b_Mo_layThresholds 132 = .ok (.invokestatic 84, 3) := by decide +kernel
theorem d_Mo_layThresholds_135 : decode b_Mo_layThresholds 135 = .ok (.putfield 78, 3) := by decide +kernel
theorem d_Mo_layThresholds_138 : decode b_Mo_layThresholds 138 = .ok (.aload_n 0, 1) := by decide +kernel
theorem d_Mo_layThresholds_139 : decode b_Mo_layThresholds 139 = .ok (.iconst 4, 1) := by decide +kernel
theorem d_Mo_layThresholds_140 : decode b_Mo_layThresholds 140 = .ok (.bipush 21, 2) := by decide +kernel
theorem d_Mo_layThresholds_142 : decode b_Mo_layThresholds 142 = .ok (.iload_n 1, 1) := by decide +kernel
theorem d_Mo_layThresholds_143 : decode b_Mo_layThresholds 143 = .ok (.idiv, 1) := by decide +kernel
theorem d_Mo_layThresholds_144 : decode b_Mo_layThresholds 144 = .ok (.bipush 7, 2) := by decide +kernel
theorem d_Mo_layThresholds_146 : decode b_Mo_layThresholds 146 = .ok (.aload_n 0, 1) := by decide +kernel
theorem d_Mo_layThresholds_147 : decode b_Mo_layThresholds 147 = .ok (.getfield 60, 3) := by decide +kernel
theorem d_Mo_layThresholds_150 : decode b_Mo_layThresholds 150 = .ok (.imul, 1) := by decide +kernel
theorem d_Mo_layThresholds_151 : decode b_Mo_layThresholds 151 = .ok (.iadd, 1) := by decide +kernel
theorem d_Mo_layThresholds_152 : decode b_Mo_layThresholds 152 = .ok (.invokestatic 84, 3) := by decide +kernel
theorem d_Mo_layThresholds_155 : decode b_Mo_layThresholds 155 = .ok (.putfield 81, 3) := by decide +kernel
theorem d_Mo_layThresholds_158 : decode b_Mo_layThresholds 158 = .ok (.aload_n 0, 1) := by decide +kernel
theorem d_Mo_layThresholds_159 : decode b_Mo_layThresholds 159 = .ok (.aload_n 0, 1) := by decide +kernel
theorem d_Mo_layThresholds_160 : decode b_Mo_layThresholds 160 = .ok (.getfield 75, 3) := by decide +kernel
theorem d_Mo_layThresholds_163 : decode b_Mo_layThresholds 163 = .ok (.aload_n 0, 1) := by decide +kernel
theorem d_Mo_layThresholds_164 : decode b_Mo_layThresholds 164 = .ok (.getfield 60, 3) := by decide +kernel
theorem d_Mo_layThresholds_167 : decode b_Mo_layThresholds 167 = .ok (.if_icmp .le 14, 3) := by decide +kernel
theorem d_Mo_layThresholds_170 : decode b_Mo_layThresholds 170 = .ok (.aload_n 0, 1) := by decide +kernel
theorem d_Mo_layThresholds_171 : decode b_Mo_layThresholds 171 = .ok (.getfield 75, 3) := by decide +kernel
theorem d_Mo_layThresholds_174 : decode b_Mo_layThresholds 174 = .ok (.aload_n 0, 1) := by decide +kernel
theorem d_Mo_layThresholds_175 : decode b_Mo_layThresholds 175 = .ok (.getfield 57, 3) := by decide +kernel
theorem d_Mo_layThresholds_178 : decode b_Mo_layThresholds 178 = .ok (.if_icmp .le 12, 3) := by decide +kernel
theorem d_Mo_layThresholds_181 : decode b_Mo_layThresholds 181 = .ok (.aload_n 0, 1) := by decide +kernel
theorem d_Mo_layThresholds_182 : decode b_Mo_layThresholds 182 = .ok (.getfield 60, 3) := by decide +kernel
theorem d_Mo_layThresholds_185 : decode b_Mo_layThresholds 185 = .ok (.iconst 1, 1) := by decide +kernel
theorem d_Mo_layThresholds_186 : decode b_Mo_layThresholds 186 = .ok (.iadd, 1) := by decide +kernel
theorem d_Mo_layThresholds_187 : decode b_Mo_layThresholds 187 = .ok (.goto 7, 3) := by decide +kernel
theorem d_Mo_layThresholds_190 : decode b_Mo_layThresholds 190 = .ok (.aload_n 0, 1) := by decide +kernel
theorem d_Mo_layThresholds_191 : decode b_Mo_layThresholds 191 = .ok (.getfield 75, 3) := by decide +kernel
theorem d_Mo_layThresholds_194 : decode b_Mo_layThresholds 194 = .ok (.putfield 75, 3) := by decide +kernel
theorem d_Mo_layThresholds_197 : decode b_Mo_layThresholds 197 = .ok (.aload_n 0, 1) := by decide +kernel
theorem d_Mo_layThresholds_198 : decode b_Mo_layThresholds 198 = .ok (.aload_n 0, 1) := by decide +kernel
theorem d_Mo_layThresholds_199 : decode b_Mo_layThresholds 199 = .ok (.getfield 78, 3) := by decide +kernel
theorem d_Mo_layThresholds_202 : decode b_Mo_layThresholds 202 = .ok (.aload_n 0, 1) := by decide +kernel
theorem d_Mo_layThresholds_203 : decode b_Mo_layThresholds 203 = .ok (.getfield 75, 3) := by decide +kernel
theorem d_Mo_layThresholds_206 : decode b_Mo_layThresholds 206 = .ok (.if_icmp .lt 14, 3) := by decide +kernel
theorem d_Mo_layThresholds_209 : decode b_Mo_layThresholds 209 = .ok (.aload_n 0, 1) := by decide +kernel
theorem d_Mo_layThresholds_210 : decode b_Mo_layThresholds 210 = .ok (.getfield 78, 3) := by decide +kernel
theorem d_Mo_layThresholds_213 : decode b_Mo_layThresholds 213 = .ok (.aload_n 0, 1) := by decide +kernel
theorem d_Mo_layThresholds_214 : decode b_Mo_layThresholds 214 = .ok (.getfield 57, 3) := by decide +kernel
theorem d_Mo_layThresholds_217 : decode b_Mo_layThresholds 217 = .ok (.if_icmp .le 10, 3) := by decide +kernel
theorem d_Mo_layThresholds_220 : decode b_Mo_layThresholds 220 = .ok (.aload_n 0, 1) := by decide +kernel
theorem d_Mo_layThresholds_221 : decode b_Mo_layThresholds 221 = .ok (.getfield 75, 3) := by decide +kernel
theorem d_Mo_layThresholds_224 : decode b_Mo_layThresholds 224 = .ok (.goto 7, 3) := by decide +kernel
theorem d_Mo_layThresholds_227 : decode b_Mo_layThresholds 227 = .ok (.aload_n 0, 1) := by decide +kernel
theorem d_Mo_layThresholds_228 : decode b_Mo_layThresholds 228 = .ok (.getfield 78, 3) := by decide +kernel
theorem d_Mo_layThresholds_231 : decode b_Mo_layThresholds 231 = .ok (.putfield 78, 3) := by decide +kernel
theorem d_Mo_layThresholds_234 : decode b_Mo_layThresholds 234 = .ok (.aload_n 0, 1) := by decide +kernel
theorem d_Mo_layThresholds_235 : decode b_Mo_layThresholds 235 = .ok (.aload_n 0, 1) := by decide +kernel
theorem d_Mo_layThresholds_236 : decode b_Mo_layThresholds 236 = .ok (.getfield 81, 3) := by decide +kernel
theorem d_Mo_layThresholds_239 : decode b_Mo_layThresholds 239 = .ok (.aload_n 0, 1) := by decide +kernel
theorem d_Mo_layThresholds_240 : decode b_Mo_layThresholds 240 = .ok (.getfield 78, 3) := by decide +kernel
theorem d_Mo_layThresholds_243 : decode b_Mo_layThresholds 243 = .ok (.if_icmp .lt 14, 3) := by decide +kernel
theorem d_Mo_layThresholds_246 : decode b_Mo_layThresholds 246 = .ok (.aload_n 0, 1) := by decide +kernel
theorem d_Mo_layThresholds_247 : decode b_Mo_layThresholds 247 = .ok (.getfield 81, 3) := by decide +kernel
theorem d_Mo_layThresholds_250 : decode b_Mo_layThresholds 250 = .ok (.aload_n 0, 1) := by decide +kernel
theorem d_Mo_layThresholds_251 : decode b_Mo_layThresholds 251 = .ok (.getfield 57, 3) := by decide +kernel
theorem d_Mo_layThresholds_254 : decode b_Mo_layThresholds 254 = .ok (.if_icmp .le 10, 3) := by decide +kernel
theorem d_Mo_layThresholds_257 : decode b_Mo_layThresholds 257 = .ok (.aload_n 0, 1) := by decide +kernel
theorem d_Mo_layThresholds_258 : decode b_Mo_layThresholds 258 = .ok (.getfield 78, 3) := by decide +kernel
theorem d_Mo_layThresholds_261 : decode b_Mo_layThresholds 261 = .ok (.goto 7, 3) := by decide +kernel
theorem d_Mo_layThresholds_264 : decode b_Mo_layThresholds 264 = .ok (.aload_n 0, 1) := by decide +kernel
theorem d_Mo_layThresholds_265 : decode b_Mo_layThresholds 265 = .ok (.getfield 81, 3) := by decide +kernel
theorem d_Mo_layThresholds_268 : decode b_Mo_layThresholds 268 = .ok (.putfield 81, 3) := by decide +kernel
theorem d_Mo_layThresholds_271 : decode b_Mo_layThresholds 271 = .ok (.return_, 1) := by decide +kernel
theorem d_Mo_numberOf_0 : decode b_Mo_numberOf 0 = .ok (.iload_n 1, 1) := by decide +kernel
theorem d_Mo_numberOf_1 : decode b_Mo_numberOf 1 = .ok (.aload_n 0, 1) := by decide +kernel
theorem d_Mo_numberOf_2 : decode b_Mo_numberOf 2 = .ok (.getfield 81, 3) := by decide +kernel
theorem d_Mo_numberOf_5 : decode b_Mo_numberOf 5 = .ok (.ineg, 1) := by decide +kernel
theorem d_Mo_numberOf_6 : decode b_Mo_numberOf 6 = .ok (.if_icmp .gt 6, 3) := by decide +kernel
theorem d_Mo_numberOf_9 : decode b_Mo_numberOf 9 = .ok (.bipush (-4), 2) := by decide +kernel
theorem d_Mo_numberOf_11 : decode b_Mo_numberOf 11 = .ok (.ireturn, 1) := by decide +kernel
theorem d_Mo_numberOf_12 : decode b_Mo_numberOf 12 = .ok (.iload_n 1, 1) := by decide +kernel
theorem d_Mo_numberOf_13 : decode b_Mo_numberOf 13 = .ok (.aload_n 0, 1) := by decide +kernel
theorem d_Mo_numberOf_14 : decode b_Mo_numberOf 14 = .ok (.getfield 78, 3) := by decide +kernel
theorem d_Mo_numberOf_17 : decode b_Mo_numberOf 17 = .ok (.ineg, 1) := by decide +kernel
theorem d_Mo_numberOf_18 : decode b_Mo_numberOf 18 = .ok (.if_icmp .gt 6, 3) := by decide +kernel
theorem d_Mo_numberOf_21 : decode b_Mo_numberOf 21 = .ok (.bipush (-3), 2) := by decide +kernel
theorem d_Mo_numberOf_23 : decode b_Mo_numberOf 23 = .ok (.ireturn, 1) := by decide +kernel
theorem d_Mo_numberOf_24 : decode b_Mo_numberOf 24 = .ok (.iload_n 1, 1) := by decide +kernel
theorem d_Mo_numberOf_25 : decode b_Mo_numberOf 25 = .ok (.aload_n 0, 1) := by decide +kernel
theorem d_Mo_numberOf_26 : decode b_Mo_numberOf 26 = .ok (.getfield 75, 3) := by decide +kernel
theorem d_Mo_numberOf_29 : decode b_Mo_numberOf 29 = .ok (.ineg, 1) := by decide +kernel
theorem d_Mo_numberOf_30 : decode b_Mo_numberOf 30 = .ok (.if_icmp .gt 6, 3) := by decide +kernel
theorem d_Mo_numberOf_33 : decode b_Mo_numberOf 33 = .ok (.bipush (-2), 2) := by decide +kernel
theorem d_Mo_numberOf_35 : decode b_Mo_numberOf 35 = .ok (.ireturn, 1) := by decide +kernel
theorem d_Mo_numberOf_36 : decode b_Mo_numberOf 36 = .ok (.iload_n 1, 1) := by decide +kernel
theorem d_Mo_numberOf_37 : decode b_Mo_numberOf 37 = .ok (.aload_n 0, 1) := by decide +kernel
theorem d_Mo_numberOf_38 : decode b_Mo_numberOf 38 = .ok (.getfield 60, 3) := by decide +kernel
theorem d_Mo_numberOf_41 : decode b_Mo_numberOf 41 = .ok (.ineg, 1) := by decide +kernel
theorem d_Mo_numberOf_42 : decode b_Mo_numberOf 42 = .ok (.if_icmp .ge 5, 3) := by decide +kernel
theorem d_Mo_numberOf_45 : decode b_Mo_numberOf 45 = .ok (.iconst (-1), 1) := by decide +kernel
theorem d_Mo_numberOf_46 : decode b_Mo_numberOf 46 = .ok (.ireturn, 1) := by decide +kernel
theorem d_Mo_numberOf_47 : decode b_Mo_numberOf 47 = .ok (.iload_n 1, 1) := by decide +kernel
theorem d_Mo_numberOf_48 : decode b_Mo_numberOf 48 = .ok (.aload_n 0, 1) := by decide +kernel
theorem d_Mo_numberOf_49 : decode b_Mo_numberOf 49 = .ok (.getfield 60, 3) := by decide +kernel
theorem d_Mo_numberOf_52 : decode b_Mo_numberOf 52 = .ok (.if_icmp .gt 7, 3) := by decide +kernel
theorem d_Mo_numberOf_55 : decode b_Mo_numberOf 55 = .ok (.iconst 0, 1) := by decide +kernel
theorem d_Mo_numberOf_56 : decode b_Mo_numberOf 56 = .ok (.goto 40, 3) := by decide +kernel
theorem d_Mo_numberOf_59 : decode b_Mo_numberOf 59 = .ok (.iload_n 1, 1) := by decide +kernel
theorem d_Mo_numberOf_60 : decode b_Mo_numberOf 60 = .ok (.aload_n 0, 1) := by decide +kernel
theorem d_Mo_numberOf_61 : decode b_Mo_numberOf 61 = .ok (.getfield 75, 3) := by decide +kernel
theorem d_Mo_numberOf_64 : decode b_Mo_numberOf 64 = .ok (.if_icmp .ge 7, 3) := by decide +kernel
theorem d_Mo_numberOf_67 : decode b_Mo_numberOf 67 = .ok (.iconst 1, 1) := by decide +kernel
theorem d_Mo_numberOf_68 : decode b_Mo_numberOf 68 = .ok (.goto 28, 3) := by decide +kernel
theorem d_Mo_numberOf_71 : decode b_Mo_numberOf 71 = .ok (.iload_n 1, 1) := by decide +kernel
theorem d_Mo_numberOf_72 : decode b_Mo_numberOf 72 = .ok (.aload_n 0, 1) := by decide +kernel
theorem d_Mo_numberOf_73 : decode b_Mo_numberOf 73 = .ok (.getfield 78, 3) := by decide +kernel
theorem d_Mo_numberOf_76 : decode b_Mo_numberOf 76 = .ok (.if_icmp .ge 7, 3) := by decide +kernel
theorem d_Mo_numberOf_79 : decode b_Mo_numberOf 79 = .ok (.iconst 2, 1) := by decide +kernel
theorem d_Mo_numberOf_80 : decode b_Mo_numberOf 80 = .ok (.goto 16, 3) := by decide +kernel
theorem d_Mo_numberOf_83 : decode b_Mo_numberOf 83 = .ok (.iload_n 1, 1) := by decide +kernel
theorem d_Mo_numberOf_84 : decode b_Mo_numberOf 84 = .ok (.aload_n 0, 1) := by decide +kernel
theorem d_Mo_numberOf_85 : decode b_Mo_numberOf 85 = .ok (.getfield 81, 3) := by decide +kernel
theorem d_Mo_numberOf_88 : decode b_Mo_numberOf 88 = .ok (.if_icmp .ge 7, 3) := by decide +kernel
theorem d_Mo_numberOf_91 : decode b_Mo_numberOf 91 = .ok (.iconst 3, 1) := by decide +kernel
theorem d_Mo_numberOf_92 : decode b_Mo_numberOf 92 = .ok (.goto 4, 3) := by decide +kernel
theorem d_Mo_numberOf_95 : decode b_Mo_numberOf 95 = .ok (.iconst 4, 1) := by decide +kernel
theorem d_Mo_numberOf_96 : decode b_Mo_numberOf 96 = .ok (.ireturn, 1) := by decide +kernel
theorem d_Mo_isNear_0 : decode b_Mo_isNear 0 = .ok (.iload_n 1, 1) := by decide +kernel
theorem d_Mo_isNear_1 : decode b_Mo_isNear 1 = .ok (.invokestatic 88, 3) := by decide +kernel
theorem d_Mo_isNear_4 : decode b_Mo_isNear 4 = .ok (.aload_n 0, 1) := by decide +kernel
theorem d_Mo_isNear_5 : decode b_Mo_isNear 5 = .ok (.getfield 60, 3) := by decide +kernel
theorem d_Mo_isNear_8 : decode b_Mo_isNear 8 = .ok (.if_icmp .gt 7, 3) := by decide +kernel
theorem d_Mo_isNear_11 : decode b_Mo_isNear 11 = .ok (.iconst 1, 1) := by decide +kernel
theorem d_Mo_isNear_12 : decode b_Mo_isNear 12 = .ok (.goto 4, 3) := by decide +kernel
theorem d_Mo_isNear_15 : decode b_Mo_isNear 15 = .ok (.iconst 0, 1) := by decide +kernel
theorem d_Mo_isNear_16 : decode b_Mo_isNear 16 = .ok (.ireturn, 1) := by decide +kernel
theorem d_Mo_look_0 : decode b_Mo_look 0 = .ok (.aload_n 0, 1) := by decide +kernel
theorem d_Mo_look_1 : decode b_Mo_look 1 = .ok (.getfield 24, 3) := by decide +kernel
theorem d_Mo_look_4 : decode b_Mo_look 4 = .ok (.iload_n 1, 1) := by decide +kernel
theorem d_Mo_look_5 : decode b_Mo_look 5 = .ok (.iaload, 1) := by decide +kernel
theorem d_Mo_look_6 : decode b_Mo_look 6 = .ok (.istore_n 2, 1) := by decide +kernel
theorem d_Mo_look_7 : decode b_Mo_look 7 = .ok (.ldc 49, 2) := by decide +kernel
theorem d_Mo_look_9 : decode b_Mo_look 9 = .ok (.iload_n 1, 1) := by decide +kernel
theorem d_Mo_look_10 : decode b_Mo_look 10 = .ok (.imul, 1) := by decide +kernel
theorem d_Mo_look_11 : decode b_Mo_look 11 = .ok (.istore_n 3, 1) := by decide +kernel
theorem d_Mo_look_12 : decode b_Mo_look 12 = .ok (.aload_n 0, 1) := by decide +kernel
theorem d_Mo_look_13 : decode b_Mo_look 13 = .ok (.aload_n 0, 1) := by decide +kernel
theorem d_Mo_look_14 : decode b_Mo_look 14 = .ok (.getfield 18, 3) := by decide +kernel
theorem d_Mo_look_17 : decode b_Mo_look 17 = .ok (.iload_n 3, 1) := by decide +kernel
theorem d_Mo_look_18 : decode b_Mo_look 18 = .ok (.iload_n 2, 1) := by decide +kernel
theorem d_Mo_look_19 : decode b_Mo_look 19 = .ok (.iadd, 1) := by decide +kernel
theorem d_Mo_look_20 : decode b_Mo_look 20 = .ok (.iaload, 1) := by decide +kernel
theorem d_Mo_look_21 : decode b_Mo_look 21 = .ok (.putfield 92, 3) := by decide +kernel
theorem d_Mo_look_24 : decode b_Mo_look 24 = .ok (.aload_n 0, 1) := by decide +kernel
theorem d_Mo_look_25 : decode b_Mo_look 25 = .ok (.iload_n 2, 1) := by decide +kernel
theorem d_Mo_look_26 : decode b_Mo_look 26 = .ok (.ifCond .ne 10, 3) := by decide +kernel
theorem d_Mo_look_29 : decode b_Mo_look 29 = .ok (.aload_n 0, 1) := by decide +kernel
theorem d_Mo_look_30 : decode b_Mo_look 30 = .ok (.getfield 92, 3) := by decide +kernel
theorem d_Mo_look_33 : decode b_Mo_look 33 = .ok (.goto 13, 3) := by decide +kernel
theorem d_Mo_look_36 : decode b_Mo_look 36 = .ok (.aload_n 0, 1) := by decide +kernel
theorem d_Mo_look_37 : decode b_Mo_look 37 = .ok (.getfield 14, 3) := by decide +kernel
theorem d_Mo_look_40 : decode b_Mo_look 40 = .ok (.iload_n 3, 1) := by decide +kernel
theorem d_Mo_look_41 : decode b_Mo_look 41 = .ok (.iload_n 2, 1) := by decide +kernel
theorem d_Mo_look_42 : decode b_Mo_look 42 = .ok (.iadd, 1) := by decide +kernel
theorem d_Mo_look_43 : decode b_Mo_look 43 = .ok (.iconst 1, 1) := by decide +kernel
theorem d_Mo_look_44 : decode b_Mo_look 44 = .ok (.isub, 1) := by decide +kernel
theorem d_Mo_look_45 : decode b_Mo_look 45 = .ok (.iaload, 1) := by decide +kernel
theorem d_Mo_look_46 : decode b_Mo_look 46 = .ok (.putfield 95, 3) := by decide +kernel
theorem d_Mo_look_49 : decode b_Mo_look 49 = .ok (.aload_n 0, 1) := by decide +kernel
theorem d_Mo_look_50 : decode b_Mo_look 50 = .ok (.iload_n 2, 1) := by decide +kernel
theorem d_Mo_look_51 : decode b_Mo_look 51 = .ok (.ifCond .ne 12, 3) := by decide +kernel
theorem d_Mo_look_54 : decode b_Mo_look 54 = .ok (.aload_n 0, 1) := by decide +kernel
theorem d_Mo_look_55 : decode b_Mo_look 55 = .ok (.getfield 21, 3) := by decide +kernel
theorem d_Mo_look_58 : decode b_Mo_look 58 = .ok (.iload_n 1, 1) := by decide +kernel
theorem d_Mo_look_59 : decode b_Mo_look 59 = .ok (.iaload, 1) := by decide +kernel
theorem d_Mo_look_60 : decode b_Mo_look 60 = .ok (.goto 13, 3) := by decide +kernel
theorem d_Mo_look_63 : decode b_Mo_look 63 = .ok (.aload_n 0, 1) := by decide +kernel
theorem d_Mo_look_64 : decode b_Mo_look 64 = .ok (.getfield 18, 3) := by decide +kernel
theorem d_Mo_look_67 : decode b_Mo_look 67 = .ok (.iload_n 3, 1) := by decide +kernel
theorem d_Mo_look_68 : decode b_Mo_look 68 = .ok (.iload_n 2, 1) := by decide +kernel
theorem d_Mo_look_69 : decode b_Mo_look 69 = .ok (.iadd, 1) := by decide +kernel
theorem d_Mo_look_70 : decode b_Mo_look 70 = .ok (.iconst 1, 1) := by decide +kernel
theorem d_Mo_look_71 : decode b_Mo_look 71 = .ok (.isub, 1) := by decide +kernel
theorem d_Mo_look_72 : decode b_Mo_look 72 = .ok (.iaload, 1) := by decide +kernel
theorem d_Mo_look_73 : decode b_Mo_look 73 = .ok (.putfield 98, 3) := by decide +kernel
theorem d_Mo_look_76 : decode b_Mo_look 76 = .ok (.aload_n 0, 1) := by decide +kernel
theorem d_Mo_look_77 : decode b_Mo_look 77 = .ok (.iload_n 2, 1) := by decide +kernel
theorem d_Mo_look_78 : decode b_Mo_look 78 = .ok (.iconst 1, 1) := by decide +kernel
theorem d_Mo_look_79 : decode b_Mo_look 79 = .ok (.iadd, 1) := by decide +kernel
theorem d_Mo_look_80 : decode b_Mo_look 80 = .ok (.aload_n 0, 1) := by decide +kernel
theorem d_Mo_look_81 : decode b_Mo_look 81 = .ok (.getfield 54, 3) := by decide +kernel
theorem d_Mo_look_84 : decode b_Mo_look 84 = .ok (.if_icmp .ne 10, 3) := by decide +kernel
theorem d_Mo_look_87 : decode b_Mo_look 87 = .ok (.aload_n 0, 1) := by decide +kernel
theorem d_Mo_look_88 : decode b_Mo_look 88 = .ok (.getfield 92, 3) := by decide +kernel
theorem d_Mo_look_91 : decode b_Mo_look 91 = .ok (.goto 13, 3) := by decide +kernel
theorem d_Mo_look_94 : decode b_Mo_look 94 = .ok (.aload_n 0, 1) := by decide +kernel
theorem d_Mo_look_95 : decode b_Mo_look 95 = .ok (.getfield 18, 3) := by decide +kernel
theorem d_Mo_look_98 : decode b_Mo_look 98 = .ok (.iload_n 3, 1) := by decide +kernel
theorem d_Mo_look_99 : decode b_Mo_look 99 = .ok (.iload_n 2, 1) := by decide +kernel
theorem d_Mo_look_100 : decode b_Mo_look 100 = .ok (.iadd, 1) := by decide +kernel
theorem d_Mo_look_101 : decode b_Mo_look 101 = .ok (.iconst 1, 1) := by decide +kernel
theorem d_Mo_look_102 : decode b_Mo_look 102 = .ok (.iadd, 1) := by decide +kernel
theorem d_Mo_look_103 : decode b_Mo_look 103 = .ok (.iaload, 1) := by decide +kernel
theorem d_Mo_look_104 : decode b_Mo_look 104 = .ok (.putfield 101, 3) := by decide +kernel
theorem d_Mo_look_107 : decode b_Mo_look 107 = .ok (.aload_n 0, 1) := by decide +kernel
theorem d_Mo_look_108 : decode b_Mo_look 108 = .ok (.aload_n 0, 1) := by decide +kernel
theorem d_Mo_look_109 : decode b_Mo_look 109 = .ok (.getfield 30, 3) := by decide +kernel
theorem d_Mo_look_112 : decode b_Mo_look 112 = .ok (.iload_n 1, 1) := by decide +kernel
theorem d_Mo_look_113 : decode b_Mo_look 113 = .ok (.baload, 1) := by decide +kernel
theorem d_Mo_look_114 : decode b_Mo_look 114 = .ok (.ifCond .ne 51, 3) := by decide +kernel
theorem d_Mo_look_117 : decode b_Mo_look 117 = .ok (.aload_n 0, 1) := by decide +kernel
theorem d_Mo_look_118 : decode b_Mo_look 118 = .ok (.aload_n 0, 1) := by decide +kernel
theorem d_Mo_look_119 : decode b_Mo_look 119 = .ok (.getfield 101, 3) := by decide +kernel
theorem d_Mo_look_122 : decode b_Mo_look 122 = .ok (.aload_n 0, 1) := by decide +kernel
theorem d_Mo_look_123 : decode b_Mo_look 123 = .ok (.getfield 92, 3) := by decide +kernel
theorem d_Mo_look_126 : decode b_Mo_look 126 = .ok (.isub, 1) := by decide +kernel
