theorem d_Mo_unfold_97 : decode b_Mo_unfold 97 = .ok (.iload 4, 2) := by decide +kernel
theorem d_Mo_unfold_99 : decode b_Mo_unfold 99 = .ok (.ireturn, 1) := by decide +kernel
theorem d_Mo_halve_0 : decode b_Mo_halve 0 = .ok (.aload_n 0, 1) := by decide +kernel
theorem d_Mo_halve_1 : decode b_Mo_halve 1 = .ok (.getfield 34, 3) := by decide +kernel
theorem d_Mo_halve_4 : decode b_Mo_halve 4 = .ok (.iload_n 1, 1) := by decide +kernel
theorem d_Mo_halve_5 : decode b_Mo_halve 5 = .ok (.aload_n 0, 1) := by decide +kernel
theorem d_Mo_halve_6 : decode b_Mo_halve 6 = .ok (.getfield 34, 3) := by decide +kernel
theorem d_Mo_halve_9 : decode b_Mo_halve 9 = .ok (.iload_n 1, 1) := by decide +kernel
theorem d_Mo_halve_10 : decode b_Mo_halve 10 = .ok (.iaload, 1) := by decide +kernel
theorem d_Mo_halve_11 : decode b_Mo_halve 11 = .ok (.iconst 2, 1) := by decide +kernel
theorem d_Mo_halve_12 : decode b_Mo_halve 12 = .ok (.idiv, 1) := by decide +kernel
theorem d_Mo_halve_13 : decode b_Mo_halve 13 = .ok (.iastore, 1) := by decide +kernel
theorem d_Mo_halve_14 : decode b_Mo_halve 14 = .ok (.aload_n 0, 1) := by decide +kernel
theorem d_Mo_halve_15 : decode b_Mo_halve 15 = .ok (.getfield 37, 3) := by decide +kernel
theorem d_Mo_halve_18 : decode b_Mo_halve 18 = .ok (.iload_n 1, 1) := by decide +kernel
theorem d_Mo_halve_19 : decode b_Mo_halve 19 = .ok (.aload_n 0, 1) := by decide +kernel
theorem d_Mo_halve_20 : decode b_Mo_halve 20 = .ok (.getfield 37, 3) := by decide +kernel
theorem d_Mo_halve_23 : decode b_Mo_halve 23 = .ok (.iload_n 1, 1) := by decide +kernel
theorem d_Mo_halve_24 : decode b_Mo_halve 24 = .ok (.iaload, 1) := by decide +kernel
theorem d_Mo_halve_25 : decode b_Mo_halve 25 = .ok (.iconst 2, 1) := by decide +kernel
theorem d_Mo_halve_26 : decode b_Mo_halve 26 = .ok (.idiv, 1) := by decide +kernel
theorem d_Mo_halve_27 : decode b_Mo_halve 27 = .ok (.iastore, 1) := by decide +kernel
theorem d_Mo_halve_28 : decode b_Mo_halve 28 = .ok (.aload_n 0, 1) := by decide +kernel
theorem d_Mo_halve_29 : decode b_Mo_halve 29 = .ok (.getfield 40, 3) := by decide +kernel
theorem d_Mo_halve_32 : decode b_Mo_halve 32 = .ok (.iload_n 1, 1) := by decide +kernel
theorem d_Mo_halve_33 : decode b_Mo_halve 33 = .ok (.aload_n 0, 1) := by decide +kernel
theorem d_Mo_halve_34 : decode b_Mo_halve 34 = .ok (.iload_n 1, 1) := by decide +kernel
theorem d_Mo_halve_35 : decode b_Mo_halve 35 = .ok (.invokevirtual 136, 3) := by decide +kernel
theorem d_Mo_halve_38 : decode b_Mo_halve 38 = .ok (.ifCond .ne 12, 3) := by decide +kernel
theorem d_Mo_halve_41 : decode b_Mo_halve 41 = .ok (.aload_n 0, 1) := by decide +kernel
theorem d_Mo_halve_42 : decode b_Mo_halve 42 = .ok (.getfield 40, 3) := by decide +kernel
theorem d_Mo_halve_45 : decode b_Mo_halve 45 = .ok (.iload_n 1, 1) := by decide +kernel
theorem d_Mo_halve_46 : decode b_Mo_halve 46 = .ok (.iaload, 1) := by decide +kernel
theorem d_Mo_halve_47 : decode b_Mo_halve 47 = .ok (.ifCond .lt 14, 3) := by decide +kernel
theorem d_Mo_halve_50 : decode b_Mo_halve 50 = .ok (.aload_n 0, 1) := by decide +kernel
theorem d_Mo_halve_51 : decode b_Mo_halve 51 = .ok (.getfield 40, 3) := by decide +kernel
theorem d_Mo_halve_54 : decode b_Mo_halve 54 = .ok (.iload_n 1, 1) := by decide +kernel
theorem d_Mo_halve_55 : decode b_Mo_halve 55 = .ok (.iaload, 1) := by decide +kernel
theorem d_Mo_halve_56 : decode b_Mo_halve 56 = .ok (.iconst 2, 1) := by decide +kernel
theorem d_Mo_halve_57 : decode b_Mo_halve 57 = .ok (.idiv, 1) := by decide +kernel
theorem d_Mo_halve_58 : decode b_Mo_halve 58 = .ok (.goto 14, 3) := by decide +kernel
theorem d_Mo_halve_61 : decode b_Mo_halve 61 = .ok (.iconst 1, 1) := by decide +kernel
theorem d_Mo_halve_62 : decode b_Mo_halve 62 = .ok (.aload_n 0, 1) := by decide +kernel
theorem d_Mo_halve_63 : decode b_Mo_halve 63 = .ok (.getfield 40, 3) := by decide +kernel
theorem d_Mo_halve_66 : decode b_Mo_halve 66 = .ok (.iload_n 1, 1) := by decide +kernel
theorem d_Mo_halve_67 : decode b_Mo_halve 67 = .ok (.iaload, 1) := by decide +kernel
theorem d_Mo_halve_68 : decode b_Mo_halve 68 = .ok (.isub, 1) := by decide +kernel
theorem d_Mo_halve_69 : decode b_Mo_halve 69 = .ok (.iconst 2, 1) := by decide +kernel
theorem d_Mo_halve_70 : decode b_Mo_halve 70 = .ok (.idiv, 1) := by decide +kernel
theorem d_Mo_halve_71 : decode b_Mo_halve 71 = .ok (.ineg, 1) := by decide +kernel
theorem d_Mo_halve_72 : decode b_Mo_halve 72 = .ok (.iastore, 1) := by decide +kernel
theorem d_Mo_halve_73 : decode b_Mo_halve 73 = .ok (.return_, 1) := by decide +kernel
theorem d_Mo_learn_0 : decode b_Mo_learn 0 = .ok (.aload_n 0, 1) := by decide +kernel
theorem d_Mo_learn_1 : decode b_Mo_learn 1 = .ok (.iload_n 1, 1) := by decide +kernel
theorem d_Mo_learn_2 : decode b_Mo_learn 2 = .ok (.invokevirtual 136, 3) := by decide +kernel
theorem d_Mo_learn_5 : decode b_Mo_learn 5 = .ok (.ifCond .eq 53, 3) := by decide +kernel
theorem d_Mo_learn_8 : decode b_Mo_learn 8 = .ok (.aload_n 0, 1) := by decide +kernel
theorem d_Mo_learn_9 : decode b_Mo_learn 9 = .ok (.getfield 40, 3) := by decide +kernel
theorem d_Mo_learn_12 : decode b_Mo_learn 12 = .ok (.iload_n 1, 1) := by decide +kernel
theorem d_Mo_learn_13 : decode b_Mo_learn 13 = .ok (.dup2, 1) := by decide +kernel
theorem d_Mo_learn_14 : decode b_Mo_learn 14 = .ok (.iaload, 1) := by decide +kernel
theorem d_Mo_learn_15 : decode b_Mo_learn 15 = .ok (.iload_n 2, 1) := by decide +kernel
theorem d_Mo_learn_16 : decode b_Mo_learn 16 = .ok (.ifCond .ge 7, 3) := by decide +kernel
theorem d_Mo_learn_19 : decode b_Mo_learn 19 = .ok (.iconst 1, 1) := by decide +kernel
theorem d_Mo_learn_20 : decode b_Mo_learn 20 = .ok (.goto 4, 3) := by decide +kernel
theorem d_Mo_learn_23 : decode b_Mo_learn 23 = .ok (.iconst 0, 1) := by decide +kernel
theorem d_Mo_learn_24 : decode b_Mo_learn 24 = .ok (.iadd, 1) := by decide +kernel
theorem d_Mo_learn_25 : decode b_Mo_learn 25 = .ok (.iastore, 1) := by decide +kernel
theorem d_Mo_learn_26 : decode b_Mo_learn 26 = .ok (.aload_n 0, 1) := by decide +kernel
theorem d_Mo_learn_27 : decode b_Mo_learn 27 = .ok (.getfield 34, 3) := by decide +kernel
theorem d_Mo_learn_30 : decode b_Mo_learn 30 = .ok (.iload_n 1, 1) := by decide +kernel
theorem d_Mo_learn_31 : decode b_Mo_learn 31 = .ok (.dup2, 1) := by decide +kernel
theorem d_Mo_learn_32 : decode b_Mo_learn 32 = .ok (.iaload, 1) := by decide +kernel
theorem d_Mo_learn_33 : decode b_Mo_learn 33 = .ok (.aload_n 0, 1) := by decide +kernel
theorem d_Mo_learn_34 : decode b_Mo_learn 34 = .ok (.iload_n 1, 1) := by decide +kernel
theorem d_Mo_learn_35 : decode b_Mo_learn 35 = .ok (.invokevirtual 139, 3) := by decide +kernel
theorem d_Mo_learn_38 : decode b_Mo_learn 38 = .ok (.iconst 1, 1) := by decide +kernel
theorem d_Mo_learn_39 : decode b_Mo_learn 39 = .ok (.if_icmp .ne 9, 3) := by decide +kernel
theorem d_Mo_learn_42 : decode b_Mo_learn 42 = .ok (.iload_n 3, 1) := by decide +kernel
theorem d_Mo_learn_43 : decode b_Mo_learn 43 = .ok (.iconst 2, 1) := by decide +kernel
theorem d_Mo_learn_44 : decode b_Mo_learn 44 = .ok (.idiv, 1) := by decide +kernel
theorem d_Mo_learn_45 : decode b_Mo_learn 45 = .ok (.goto 8, 3) := by decide +kernel
theorem d_Mo_learn_48 : decode b_Mo_learn 48 = .ok (.iload_n 3, 1) := by decide +kernel
theorem d_Mo_learn_49 : decode b_Mo_learn 49 = .ok (.iconst 1, 1) := by decide +kernel
theorem d_Mo_learn_50 : decode b_Mo_learn 50 = .ok (.iadd, 1) := by decide +kernel
theorem d_Mo_learn_51 : decode b_Mo_learn 51 = .ok (.iconst 2, 1) := by decide +kernel
theorem d_Mo_learn_52 : decode b_Mo_learn 52 = .ok (.idiv, 1) := by decide +kernel
theorem d_Mo_learn_53 : decode b_Mo_learn 53 = .ok (.iadd, 1) := by decide +kernel
theorem d_Mo_learn_54 : decode b_Mo_learn 54 = .ok (.iastore, 1) := by decide +kernel
theorem d_Mo_learn_55 : decode b_Mo_learn 55 = .ok (.goto 31, 3) := by decide +kernel
theorem d_Mo_learn_58 : decode b_Mo_learn 58 = .ok (.aload_n 0, 1) := by decide +kernel
theorem d_Mo_learn_59 : decode b_Mo_learn 59 = .ok (.getfield 40, 3) := by decide +kernel
theorem d_Mo_learn_62 : decode b_Mo_learn 62 = .ok (.iload_n 1, 1) := by decide +kernel
theorem d_Mo_learn_63 : decode b_Mo_learn 63 = .ok (.dup2, 1) := by decide +kernel
theorem d_Mo_learn_64 : decode b_Mo_learn 64 = .ok (.iaload, 1) := by decide +kernel
theorem d_Mo_learn_65 : decode b_Mo_learn 65 = .ok (.iload_n 2, 1) := by decide +kernel
theorem d_Mo_learn_66 : decode b_Mo_learn 66 = .ok (.aload_n 0, 1) := by decide +kernel
theorem d_Mo_learn_67 : decode b_Mo_learn 67 = .ok (.getfield 63, 3) := by decide +kernel
theorem d_Mo_learn_70 : decode b_Mo_learn 70 = .ok (.imul, 1) := by decide +kernel
theorem d_Mo_learn_71 : decode b_Mo_learn 71 = .ok (.iadd, 1) := by decide +kernel
theorem d_Mo_learn_72 : decode b_Mo_learn 72 = .ok (.iastore, 1) := by decide +kernel
theorem d_Mo_learn_73 : decode b_Mo_learn 73 = .ok (.aload_n 0, 1) := by decide +kernel
theorem d_Mo_learn_74 : decode b_Mo_learn 74 = .ok (.getfield 34, 3) := by decide +kernel
theorem d_Mo_learn_77 : decode b_Mo_learn 77 = .ok (.iload_n 1, 1) := by decide +kernel
theorem d_Mo_learn_78 : decode b_Mo_learn 78 = .ok (.dup2, 1) := by decide +kernel
theorem d_Mo_learn_79 : decode b_Mo_learn 79 = .ok (.iaload, 1) := by decide +kernel
theorem d_Mo_learn_80 : decode b_Mo_learn 80 = .ok (.iload_n 2, 1) := by decide +kernel
theorem d_Mo_learn_81 : decode b_Mo_learn 81 = .ok (.invokestatic 88, 3) := by decide +kernel
theorem d_Mo_learn_84 : decode b_Mo_learn 84 = .ok (.iadd, 1) := by decide +kernel
theorem d_Mo_learn_85 : decode b_Mo_learn 85 = .ok (.iastore, 1) := by decide +kernel
theorem d_Mo_learn_86 : decode b_Mo_learn 86 = .ok (.aload_n 0, 1) := by decide +kernel
theorem d_Mo_learn_87 : decode b_Mo_learn 87 = .ok (.getfield 37, 3) := by decide +kernel
theorem d_Mo_learn_90 : decode b_Mo_learn 90 = .ok (.iload_n 1, 1) := by decide +kernel
theorem d_Mo_learn_91 : decode b_Mo_learn 91 = .ok (.iaload, 1) := by decide +kernel
theorem d_Mo_learn_92 : decode b_Mo_learn 92 = .ok (.aload_n 0, 1) := by decide +kernel
theorem d_Mo_learn_93 : decode b_Mo_learn 93 = .ok (.getfield 7, 3) := by decide +kernel
theorem d_Mo_learn_96 : decode b_Mo_learn 96 = .ok (.if_icmp .ne 8, 3) := by decide +kernel
theorem d_Mo_learn_99 : decode b_Mo_learn 99 = .ok (.aload_n 0, 1) := by decide +kernel
theorem d_Mo_learn_100 : decode b_Mo_learn 100 = .ok (.iload_n 1, 1) := by decide +kernel
theorem d_Mo_learn_101 : decode b_Mo_learn 101 = .ok (.invokevirtual 148, 3) := by decide +kernel
theorem d_Mo_learn_104 : decode b_Mo_learn 104 = .ok (.aload_n 0, 1) := by decide +kernel
theorem d_Mo_learn_105 : decode b_Mo_learn 105 = .ok (.getfield 37, 3) := by decide +kernel
theorem d_Mo_learn_108 : decode b_Mo_learn 108 = .ok (.iload_n 1, 1) := by decide +kernel
theorem d_Mo_learn_109 : decode b_Mo_learn 109 = .ok (.dup2, 1) := by decide +kernel
theorem d_Mo_learn_110 : decode b_Mo_learn 110 = .ok (.iaload, 1) := by decide +kernel
theorem d_Mo_learn_111 : decode b_Mo_learn 111 = .ok (.iconst 1, 1) := by decide +kernel
theorem d_Mo_learn_112 : decode b_Mo_learn 112 = .ok (.iadd, 1) := by decide +kernel
theorem d_Mo_learn_113 : decode b_Mo_learn 113 = .ok (.iastore, 1) := by decide +kernel
theorem d_Mo_learn_114 : decode b_Mo_learn 114 = .ok (.aload_n 0, 1) := by decide +kernel
theorem d_Mo_learn_115 : decode b_Mo_learn 115 = .ok (.iload_n 1, 1) := by decide +kernel
theorem d_Mo_learn_116 : decode b_Mo_learn 116 = .ok (.invokevirtual 136, 3) := by decide +kernel
theorem d_Mo_learn_119 : decode b_Mo_learn 119 = .ok (.ifCond .eq 4, 3) := by decide +kernel
theorem d_Mo_learn_122 : decode b_Mo_learn 122 = .ok (.return_, 1) := by decide +kernel
theorem d_Mo_learn_123 : decode b_Mo_learn 123 = .ok (.aload_n 0, 1) := by decide +kernel
theorem d_Mo_learn_124 : decode b_Mo_learn 124 = .ok (.getfield 40, 3) := by decide +kernel
theorem d_Mo_learn_127 : decode b_Mo_learn 127 = .ok (.iload_n 1, 1) := by decide +kernel
theorem d_Mo_learn_128 : decode b_Mo_learn 128 = .ok (.iaload, 1) := by decide +kernel
theorem d_Mo_learn_129 : decode b_Mo_learn 129 = .ok (.aload_n 0, 1) := by decide +kernel
theorem d_Mo_learn_130 : decode b_Mo_learn 130 = .ok (.getfield 37, 3) := by decide +kernel
theorem d_Mo_learn_133 : decode b_Mo_learn 133 = .ok (.iload_n 1, 1) := by decide +kernel
theorem d_Mo_learn_134 : decode b_Mo_learn 134 = .ok (.iaload, 1) := by decide +kernel
theorem d_Mo_learn_135 : decode b_Mo_learn 135 = .ok (.ineg, 1) := by decide +kernel
theorem d_Mo_learn_136 : decode b_Mo_learn 136 = .ok (.if_icmp .gt 90, 3) := by decide +kernel
theorem d_Mo_learn_139 : decode b_Mo_learn 139 = .ok (.aload_n 0, 1) := by decide +kernel
theorem d_Mo_learn_140 : decode b_Mo_learn 140 = .ok (.getfield 40, 3) := by decide +kernel
theorem d_Mo_learn_143 : decode b_Mo_learn 143 = .ok (.iload_n 1, 1) := by decide +kernel
theorem d_Mo_learn_144 : decode b_Mo_learn 144 = .ok (.dup2, 1) := by decide +kernel
theorem d_Mo_learn_145 : decode b_Mo_learn 145 = .ok (.iaload, 1) := by decide +kernel
theorem d_Mo_learn_146 : decode b_Mo_learn 146 = .ok (.aload_n 0, 1) := by decide +kernel
theorem d_Mo_learn_147 : decode b_Mo_learn 147 = .ok (.getfield 37, 3) := by decide +kernel
theorem d_Mo_learn_150 : decode b_Mo_learn 150 = .ok (.iload_n 1, 1) := by decide +kernel
theorem d_Mo_learn_151 : decode b_Mo_learn 151 = .ok (.iaload, 1) := by decide +kernel
theorem d_Mo_learn_152 : decode b_Mo_learn 152 = .ok (.iadd, 1) := by decide +kernel
theorem d_Mo_learn_153 : decode b_Mo_learn 153 = .ok (.iastore, 1) := by decide +kernel
theorem d_Mo_learn_154 : decode b_Mo_learn 154 = .ok (.aload_n 0, 1) := by decide +kernel
theorem d_Mo_learn_155 : decode b_Mo_learn 155 = .ok (.getfield 43, 3) := by decide +kernel
theorem d_Mo_learn_158 : decode b_Mo_learn 158 = .ok (.iload_n 1, 1) := by decide +kernel
theorem d_Mo_learn_159 : decode b_Mo_learn 159 = .ok (.aload_n 0, 1) := by decide +kernel
theorem d_Mo_learn_160 : decode b_Mo_learn 160 = .ok (.getfield 43, 3) := by decide +kernel
theorem d_Mo_learn_163 : decode b_Mo_learn 163 = .ok (.iload_n 1, 1) := by decide +kernel
theorem d_Mo_learn_164 : decode b_Mo_learn 164 = .ok (.iaload, 1) := by decide +kernel
theorem d_Mo_learn_165 : decode b_Mo_learn 165 = .ok (.bipush (-128), 2) := by decide +kernel
theorem d_Mo_learn_167 : decode b_Mo_learn 167 = .ok (.if_icmp .le 14, 3) := by decide +kernel
theorem d_Mo_learn_170 : decode b_Mo_learn 170 = .ok (.aload_n 0, 1) := by decide +kernel
theorem d_Mo_learn_171 : decode b_Mo_learn 171 = .ok (.getfield 43, 3) := by decide +kernel
theorem d_Mo_learn_174 : decode b_Mo_learn 174 = .ok (.iload_n 1, 1) := by decide +kernel
theorem d_Mo_learn_175 : decode b_Mo_learn 175 = .ok (.iaload, 1) := by decide +kernel
theorem d_Mo_learn_176 : decode b_Mo_learn 176 = .ok (.iconst 1, 1) := by decide +kernel
theorem d_Mo_learn_177 : decode b_Mo_learn 177 = .ok (.isub, 1) := by decide +kernel
theorem d_Mo_learn_178 : decode b_Mo_learn 178 = .ok (.goto 5, 3) := by decide +kernel
theorem d_Mo_learn_181 : decode b_Mo_learn 181 = .ok (.bipush (-128), 2) := by decide +kernel
theorem d_Mo_learn_183 : decode b_Mo_learn 183 = .ok (.iastore, 1) := by decide +kernel
theorem d_Mo_learn_184 : decode b_Mo_learn 184 = .ok (.aload_n 0, 1) := by decide +kernel
theorem d_Mo_learn_185 : decode b_Mo_learn 185 = .ok (.getfield 40, 3) := by decide +kernel
theorem d_Mo_learn_188 : decode b_Mo_learn 188 = .ok (.iload_n 1, 1) := by decide +kernel
theorem d_Mo_learn_189 : decode b_Mo_learn 189 = .ok (.aload_n 0, 1) := by decide +kernel
theorem d_Mo_learn_190 : decode b_Mo_learn 190 = .ok (.getfield 40, 3) := by decide +kernel
theorem d_Mo_learn_193 : decode b_Mo_learn 193 = .ok (.iload_n 1, 1) := by decide +kernel
theorem d_Mo_learn_194 : decode b_Mo_learn 194 = .ok (.iaload, 1) := by decide +kernel
theorem d_Mo_learn_195 : decode b_Mo_learn 195 = .ok (.aload_n 0, 1) := by decide +kernel
theorem d_Mo_learn_196 : decode b_Mo_learn 196 = .ok (.getfield 37, 3) := by decide +kernel
theorem d_Mo_learn_199 : decode b_Mo_learn 199 = .ok (.iload_n 1, 1) := by decide +kernel
theorem d_Mo_learn_200 : decode b_Mo_learn 200 = .ok (.iaload, 1) := by decide +kernel
theorem d_Mo_learn_201 : decode b_Mo_learn 201 = .ok (.ineg, 1) := by decide +kernel
theorem d_Mo_learn_202 : decode b_Mo_learn 202 = .ok (.if_icmp .gt 14, 3) := by decide +kernel
theorem d_Mo_learn_205 : decode b_Mo_learn 205 = .ok (.iconst 1, 1) := by decide +kernel
theorem d_Mo_learn_206 : decode b_Mo_learn 206 = .ok (.aload_n 0, 1) := by decide +kernel
theorem d_Mo_learn_207 : decode b_Mo_learn 207 = .ok (.getfield 37, 3) := by decide +kernel
theorem d_Mo_learn_210 : decode b_Mo_learn 210 = .ok (.iload_n 1, 1) := by decide +kernel
theorem d_Mo_learn_211 : decode b_Mo_learn 211 = .ok (.iaload, 1) := by decide +kernel
theorem d_Mo_learn_212 : decode b_Mo_learn 212 = .ok (.isub, 1) := by decide +kernel
theorem d_Mo_learn_213 : decode b_Mo_learn 213 = .ok (.goto 9, 3) := by decide +kernel
theorem d_Mo_learn_216 : decode b_Mo_learn 216 = .ok (.aload_n 0, 1) := by decide +kernel
theorem d_Mo_learn_217 : decode b_Mo_learn 217 = .ok (.getfield 40, 3) := by decide +kernel
theorem d_Mo_learn_220 : decode b_Mo_learn 220 = .ok (.iload_n 1, 1) := by decide +kernel
theorem d_Mo_learn_221 : decode b_Mo_learn 221 = .ok (.iaload, 1) := by decide +kernel
theorem d_Mo_learn_222 : decode b_Mo_learn 222 = .ok (.iastore, 1) := by decide +kernel
theorem d_Mo_learn_223 : decode b_Mo_learn 223 = .ok (.goto 82, 3) := by decide +kernel
theorem d_Mo_learn_226 : decode b_Mo_learn 226 = .ok (.aload_n 0, 1) := by decide +kernel
theorem d_Mo_learn_227 : decode b_Mo_learn 227 = .ok (.getfield 40, 3) := by decide +kernel
theorem d_Mo_learn_230 : decode b_Mo_learn 230 = .ok (.iload_n 1, 1) := by decide +kernel
theorem d_Mo_learn_231 : decode b_Mo_learn 231 = .ok (.iaload, 1) := by decide +kernel
theorem d_Mo_learn_232 : decode b_Mo_learn 232 = .ok (.ifCond .le 73, 3) := by decide +kernel
theorem d_Mo_learn_235 : decode b_Mo_learn 235 = .ok (.aload_n 0, 1) := by decide +kernel
theorem d_Mo_learn_236 : decode b_Mo_learn 236 = .ok (.getfield 40, 3) := by decide +kernel
theorem d_Mo_learn_239 : decode b_Mo_learn 239 = .ok (.iload_n 1, 1) := by decide +kernel
theorem d_Mo_learn_240 : decode b_Mo_learn 240 = .ok (.dup2, 1) := by decide +kernel
theorem d_Mo_learn_241 : decode b_Mo_learn 241 = .ok (.iaload, 1) := by decide +kernel
theorem d_Mo_learn_242 : decode b_Mo_learn 242 = .ok (.aload_n 0, 1) := by decide +kernel
theorem d_Mo_learn_243 : decode b_Mo_learn 243 = .ok (.getfield 37, 3) := by decide +kernel
theorem d_Mo_learn_246 : decode b_Mo_learn 246 = .ok (.iload_n 1, 1) := by decide +kernel
theorem d_Mo_learn_247 : decode b_Mo_learn 247 = .ok (.iaload, 1) := by decide +kernel
theorem d_Mo_learn_248 : decode b_Mo_learn 248 = .ok (.isub, 1) := by decide +kernel
theorem d_Mo_learn_249 : decode b_Mo_learn 249 = .ok (.iastore, 1) := by decide +kernel
theorem d_Mo_learn_250 : decode b_Mo_learn 250 = .ok (.aload_n 0, 1) := by decide +kernel
theorem d_Mo_learn_251 : decode b_Mo_learn 251 = .ok (.getfield 43, 3) := by decide +kernel
theorem d_Mo_learn_254 : decode b_Mo_learn 254 = .ok (.iload_n 1, 1) := by decide +kernel
theorem d_Mo_learn_255 : decode b_Mo_learn 255 = .ok (.aload_n 0, 1) := by decide +kernel
theorem d_Mo_learn_256 : decode b_Mo_learn 256 = .ok (.getfield 43, 3) := by decide +kernel
theorem d_Mo_learn_259 : decode b_Mo_learn 259 = .ok (.iload_n 1, 1) := by decide +kernel
theorem d_Mo_learn_260 : decode b_Mo_learn 260 = .ok (.iaload, 1) := by decide +kernel
theorem d_Mo_learn_261 : decode b_Mo_learn 261 = .ok (.bipush 127, 2) := by decide +kernel
theorem d_Mo_learn_263 : decode b_Mo_learn 263 = .ok (.if_icmp .ge 14, 3) := by decide +kernel
theorem d_Mo_learn_266 : decode b_Mo_learn 266 = .ok (.aload_n 0, 1) := by decide +kernel
theorem d_Mo_learn_267 : decode b_Mo_learn 267 = .ok (.getfield 43, 3) := by decide +kernel
theorem d_Mo_learn_270 : decode b_Mo_learn 270 = .ok (.iload_n 1, 1) := by decide +kernel
theorem d_Mo_learn_271 : decode b_Mo_learn 271 = .ok (.iaload, 1) := by decide +kernel
theorem d_Mo_learn_272 : decode b_Mo_learn 272 = .ok (.iconst 1, 1) := by decide +kernel
theorem d_Mo_learn_273 : decode b_Mo_learn 273 = .ok (.iadd, 1) := by decide +kernel
theorem d_Mo_learn_274 : decode b_Mo_learn 274 = .ok (.goto 5, 3) := by decide +kernel
theorem d_Mo_learn_277 : decode b_Mo_learn 277 = .ok (.bipush 127, 2) := by decide +kernel
theorem d_Mo_learn_279 : decode b_Mo_learn 279 = .ok (.iastore, 1) := by decide +kernel
theorem d_Mo_learn_280 : decode b_Mo_learn 280 = .ok (.aload_n 0, 1) := by decide +kernel
theorem d_Mo_learn_281 : decode b_Mo_learn 281 = .ok (.getfield 40, 3) := by decide +kernel
theorem d_Mo_learn_284 : decode b_Mo_learn 284 = .ok (.iload_n 1, 1) := by decide +kernel
theorem d_Mo_learn_285 : decode b_Mo_learn 285 = .ok (.aload_n 0, 1) := by decide +kernel
theorem d_Mo_learn_286 : decode b_Mo_learn 286 = .ok (.getfield 40, 3) := by decide +kernel
theorem d_Mo_learn_289 : decode b_Mo_learn 289 = .ok (.iload_n 1, 1) := by decide +kernel
theorem d_Mo_learn_290 : decode b_Mo_learn 290 = .ok (.iaload, 1) := by decide +kernel
theorem d_Mo_learn_291 : decode b_Mo_learn 291 = .ok (.ifCond .le 7, 3) := by decide +kernel
theorem d_Mo_learn_294 : decode b_Mo_learn 294 = .ok (.iconst 0, 1) := by decide +kernel
theorem d_Mo_learn_295 : decode b_Mo_learn 295 = .ok (.goto 9, 3) := by decide +kernel
theorem d_Mo_learn_298 : decode b_Mo_learn 298 = .ok (.aload_n 0, 1) := by decide +kernel
theorem d_Mo_learn_299 : decode b_Mo_learn 299 = .ok (.getfield 40, 3) := by decide +kernel
theorem d_Mo_learn_302 : decode b_Mo_learn 302 = .ok (.iload_n 1, 1) := by decide +kernel
theorem d_Mo_learn_303 : decode b_Mo_learn 303 = .ok (.iaload, 1) := by decide +kernel
theorem d_Mo_learn_304 : decode b_Mo_learn 304 = .ok (.iastore, 1) := by decide +kernel
theorem d_Mo_learn_305 : decode b_Mo_learn 305 = .ok (.return_, 1) := by decide +kernel
theorem d_Mo_isFresh_0 : decode b_Mo_isFresh 0 = .ok (.aload_n 0, 1) := by decide +kernel
theorem d_Mo_isFresh_1 : decode b_Mo_isFresh 1 = .ok (.getfield 24, 3) := by decide +kernel
theorem d_Mo_isFresh_4 : decode b_Mo_isFresh 4 = .ok (.iconst 0, 1) := by decide +kernel
theorem d_Mo_isFresh_5 : decode b_Mo_isFresh 5 = .ok (.iaload, 1) := by decide +kernel
theorem d_Mo_isFresh_6 : decode b_Mo_isFresh 6 = .ok (.aload_n 0, 1) := by decide +kernel
theorem d_Mo_isFresh_7 : decode b_Mo_isFresh 7 = .ok (.getfield 27, 3) := by decide +kernel
theorem d_Mo_isFresh_10 : decode b_Mo_isFresh 10 = .ok (.iconst 0, 1) := by decide +kernel
theorem d_Mo_isFresh_11 : decode b_Mo_isFresh 11 = .ok (.iaload, 1) := by decide +kernel
theorem d_Mo_isFresh_12 : decode b_Mo_isFresh 12 = .ok (.iadd, 1) := by decide +kernel
theorem d_Mo_isFresh_13 : decode b_Mo_isFresh 13 = .ok (.aload_n 0, 1) := by decide +kernel
theorem d_Mo_isFresh_14 : decode b_Mo_isFresh 14 = .ok (.getfield 24, 3) := by decide +kernel
theorem d_Mo_isFresh_17 : decode b_Mo_isFresh 17 = .ok (.iconst 1, 1) := by decide +kernel
theorem d_Mo_isFresh_18 : decode b_Mo_isFresh 18 = .ok (.iaload, 1) := by decide +kernel
theorem d_Mo_isFresh_19 : decode b_Mo_isFresh 19 = .ok (.iadd, 1) := by decide +kernel
theorem d_Mo_isFresh_20 : decode b_Mo_isFresh 20 = .ok (.aload_n 0, 1) := by decide +kernel
theorem d_Mo_isFresh_21 : decode b_Mo_isFresh 21 = .ok (.getfield 27, 3) := by decide +kernel
theorem d_Mo_isFresh_24 : decode b_Mo_isFresh 24 = .ok (.iconst 1, 1) := by decide +kernel
theorem d_Mo_isFresh_25 : decode b_Mo_isFresh 25 = .ok (.iaload, 1) := by decide +kernel
theorem d_Mo_isFresh_26 : decode b_Mo_isFresh 26 = .ok (.iadd, 1) := by decide +kernel
theorem d_Mo_isFresh_27 : decode b_Mo_isFresh 27 = .ok (.ifCond .ne 7, 3) := by decide +kernel
theorem d_Mo_isFresh_30 : decode b_Mo_isFresh 30 = .ok (.iconst 1, 1) := by decide +kernel
theorem d_Mo_isFresh_31 : decode b_Mo_isFresh 31 = .ok (.goto 4, 3) := by decide +kernel
theorem d_Mo_isFresh_34 : decode b_Mo_isFresh 34 = .ok (.iconst 0, 1) := by decide +kernel
theorem d_Mo_isFresh_35 : decode b_Mo_isFresh 35 = .ok (.ireturn, 1) := by decide +kernel
theorem d_Mo_thresholds_0 : decode b_Mo_thresholds 0 = .ok (.aload_n 0, 1) := by decide +kernel
theorem d_Mo_thresholds_1 : decode b_Mo_thresholds 1 = .ok (.aload_n 0, 1) := by decide +kernel
theorem d_Mo_thresholds_2 : decode b_Mo_thresholds 2 = .ok (.invokevirtual 152, 3) := by decide +kernel
theorem d_Mo_thresholds_5 : decode b_Mo_thresholds 5 = .ok (.ifCond .eq 7, 3) := by decide +kernel
theorem d_Mo_thresholds_8 : decode b_Mo_thresholds 8 = .ok (.iconst 0, 1) := by decide +kernel
theorem d_Mo_thresholds_9 : decode b_Mo_thresholds 9 = .ok (.goto 4, 3) := by decide +kernel
theorem d_Mo_thresholds_12 : decode b_Mo_thresholds 12 = .ok (.iconst 1, 1) := by decide +kernel
theorem d_Mo_thresholds_13 : decode b_Mo_thresholds 13 = .ok (.putfield 72, 3) := by decide +kernel
theorem d_Mo_thresholds_16 : decode b_Mo_thresholds 16 = .ok (.iload_n 1, 1) := by decide +kernel
theorem d_Mo_thresholds_17 : decode b_Mo_thresholds 17 = .ok (.aload_n 0, 1) := by decide +kernel
theorem d_Mo_thresholds_18 : decode b_Mo_thresholds 18 = .ok (.getfield 60, 3) := by decide +kernel
theorem d_Mo_thresholds_21 : decode b_Mo_thresholds 21 = .ok (.if_icmp .le 25, 3) := by decide +kernel
theorem d_Mo_thresholds_24 : decode b_Mo_thresholds 24 = .ok (.iload_n 2, 1) := by decide +kernel
theorem d_Mo_thresholds_25 : decode b_Mo_thresholds 25 = .ok (.iload_n 1, 1) := by decide +kernel
theorem d_Mo_thresholds_26 : decode b_Mo_thresholds 26 = .ok (.if_icmp .lt 20, 3) := by decide +kernel
theorem d_Mo_thresholds_29 : decode b_Mo_thresholds 29 = .ok (.iload_n 3, 1) := by decide +kernel
theorem d_Mo_thresholds_30 : decode b_Mo_thresholds 30 = .ok (.iload_n 2, 1) := by decide +kernel
theorem d_Mo_thresholds_31 : decode b_Mo_thresholds 31 = .ok (.if_icmp .lt 15, 3) := by decide +kernel
theorem d_Mo_thresholds_34 : decode b_Mo_thresholds 34 = .ok (.iload_n 3, 1) := by decide +kernel
theorem d_Mo_thresholds_35 : decode b_Mo_thresholds 35 = .ok (.aload_n 0, 1) := by decide +kernel
theorem d_Mo_thresholds_36 : decode b_Mo_thresholds 36 = .ok (.getfield 57, 3) := by decide +kernel
theorem d_Mo_thresholds_39 : decode b_Mo_thresholds 39 = .ok (.if_icmp .gt 7, 3) := by decide +kernel
theorem d_Mo_thresholds_42 : decode b_Mo_thresholds 42 = .ok (.iconst 1, 1) := by decide +kernel
theorem d_Mo_thresholds_43 : decode b_Mo_thresholds 43 = .ok (.goto 4, 3) := by decide +kernel
theorem d_Mo_thresholds_46 : decode b_Mo_thresholds 46 = .ok (.iconst 0, 1) := by decide +kernel
theorem d_Mo_thresholds_47 : decode b_Mo_thresholds 47 = .ok (.istore 4, 2) := by decide +kernel
theorem d_Mo_thresholds_49 : decode b_Mo_thresholds 49 = .ok (.aload_n 0, 1) := by decide +kernel
theorem d_Mo_thresholds_50 : decode b_Mo_thresholds 50 = .ok (.getfield 72, 3) := by decide +kernel
theorem d_Mo_thresholds_53 : decode b_Mo_thresholds 53 = .ok (.ifCond .gt 8, 3) := by decide +kernel
theorem d_Mo_thresholds_56 : decode b_Mo_thresholds 56 = .ok (.iload 4, 2) := by decide +kernel
theorem d_Mo_thresholds_58 : decode b_Mo_thresholds 58 = .ok (.ifCond .ne 5, 3) := by decide +kernel
theorem d_Mo_thresholds_61 : decode b_Mo_thresholds 61 = .ok (.iconst 0, 1) := by decide +kernel
theorem d_Mo_thresholds_62 : decode b_Mo_thresholds 62 = .ok (.ireturn, 1) := by decide +kernel
theorem d_Mo_thresholds_63 : decode b_Mo_thresholds 63 = .ok (.aload_n 0, 1) := by decide +kernel
theorem d_Mo_thresholds_64 : decode b_Mo_thresholds 64 = .ok (.iload_n 1, 1) := by decide +kernel
theorem d_Mo_thresholds_65 : decode b_Mo_thresholds 65 = .ok (.putfield 75, 3) := by decide +kernel
theorem d_Mo_thresholds_68 : decode b_Mo_thresholds 68 = .ok (.aload_n 0, 1) := by decide +kernel
theorem d_Mo_thresholds_69 : decode b_Mo_thresholds 69 = .ok (.iload_n 2, 1) := by decide +kernel
theorem d_Mo_thresholds_70 : decode b_Mo_thresholds 70 = .ok (.putfield 78, 3) := by decide +kernel
theorem d_Mo_thresholds_73 : decode b_Mo_thresholds 73 = .ok (.aload_n 0, 1) := by decide +kernel
theorem d_Mo_thresholds_74 : decode b_Mo_thresholds 74 = .ok (.iload_n 3, 1) := by decide +kernel
theorem d_Mo_thresholds_75 : decode b_Mo_thresholds 75 = .ok (.putfield 81, 3) := by decide +kernel
theorem d_Mo_thresholds_78 : decode b_Mo_thresholds 78 = .ok (.iconst 1, 1) := by decide +kernel
theorem d_Mo_thresholds_79 : decode b_Mo_thresholds 79 = .ok (.ireturn, 1) := by decide +kernel
theorem d_Mo_reset_0 : decode b_Mo_reset 0 = .ok (.aload_n 0, 1) := by decide +kernel
theorem d_Mo_reset_1 : decode b_Mo_reset 1 = .ok (.aload_n 0, 1) := by decide +kernel
theorem d_Mo_reset_2 : decode b_Mo_reset 2 = .ok (.invokevirtual 152, 3) := by decide +kernel
theorem d_Mo_reset_5 : decode b_Mo_reset 5 = .ok (.ifCond .eq 7, 3) := by decide +kernel
theorem d_Mo_reset_8 : decode b_Mo_reset 8 = .ok (.iconst 0, 1) := by decide +kernel
theorem d_Mo_reset_9 : decode b_Mo_reset 9 = .ok (.goto 4, 3) := by decide +kernel
theorem d_Mo_reset_12 : decode b_Mo_reset 12 = .ok (.iconst 1, 1) := by decide +kernel
theorem d_Mo_reset_13 : decode b_Mo_reset 13 = .ok (.putfield 72, 3) := by decide +kernel
theorem d_Mo_reset_16 : decode b_Mo_reset 16 = .ok (.aload_n 0, 1) := by decide +kernel
theorem d_Mo_reset_17 : decode b_Mo_reset 17 = .ok (.getfield 72, 3) := by decide +kernel
theorem d_Mo_reset_20 : decode b_Mo_reset 20 = .ok (.ifCond .gt 15, 3) := by decide +kernel
theorem d_Mo_reset_23 : decode b_Mo_reset 23 = .ok (.iload_n 1, 1) := by decide +kernel
theorem d_Mo_reset_24 : decode b_Mo_reset 24 = .ok (.iconst 3, 1) := by decide +kernel
theorem d_Mo_reset_25 : decode b_Mo_reset 25 = .ok (.if_icmp .lt 10, 3) := by decide +kernel
theorem d_Mo_reset_28 : decode b_Mo_reset 28 = .ok (.iload_n 1, 1) := by decide +kernel
theorem d_Mo_reset_29 : decode b_Mo_reset 29 = .ok (.sipush 255, 3) := by decide +kernel
theorem d_Mo_reset_32 : decode b_Mo_reset 32 = .ok (.if_icmp .le 5, 3) := by decide +kernel
theorem d_Mo_reset_35 : decode b_Mo_reset 35 = .ok (.iconst 0, 1) := by decide +kernel
theorem d_Mo_reset_36 : decode b_Mo_reset 36 = .ok (.ireturn, 1) := by decide +kernel
theorem d_Mo_reset_37 : decode b_Mo_reset 37 = .ok (.aload_n 0, 1) := by decide +kernel
theorem d_Mo_reset_38 : decode b_Mo_reset 38 = .ok (.iload_n 1, 1) := by decide +kernel
theorem d_Mo_reset_39 : decode b_Mo_reset 39 = .ok (.putfield 7, 3) := by decide +kernel
theorem d_Mo_reset_42 : decode b_Mo_reset 42 = .ok (.iconst 1, 1) := by decide +kernel
theorem d_Mo_reset_43 : decode b_Mo_reset 43 = .ok (.ireturn, 1) := by decide +kernel
theorem d_Mo_isTurn_0 : decode b_Mo_isTurn 0 = .ok (.iload_n 2, 1) := by decide +kernel
theorem d_Mo_isTurn_1 : decode b_Mo_isTurn 1 = .ok (.aload_n 0, 1) := by decide +kernel
theorem d_Mo_isTurn_2 : decode b_Mo_isTurn 2 = .ok (.getfield 24, 3) := by decide +kernel
theorem d_Mo_isTurn_5 : decode b_Mo_isTurn 5 = .ok (.iload_n 1, 1) := by decide +kernel
theorem d_Mo_isTurn_6 : decode b_Mo_isTurn 6 = .ok (.iaload, 1) := by decide +kernel
theorem d_Mo_isTurn_7 : decode b_Mo_isTurn 7 = .ok (.if_icmp .ne 15, 3) := by decide +kernel
theorem d_Mo_isTurn_10 : decode b_Mo_isTurn 10 = .ok (.iload_n 2, 1) := by decide +kernel
theorem d_Mo_isTurn_11 : decode b_Mo_isTurn 11 = .ok (.aload_n 0, 1) := by decide +kernel
theorem d_Mo_isTurn_12 : decode b_Mo_isTurn 12 = .ok (.getfield 54, 3) := by decide +kernel
theorem d_Mo_isTurn_15 : decode b_Mo_isTurn 15 = .ok (.if_icmp .ge 7, 3) := by decide +kernel
theorem d_Mo_isTurn_18 : decode b_Mo_isTurn 18 = .ok (.iconst 1, 1) := by decide +kernel
theorem d_Mo_isTurn_19 : decode b_Mo_isTurn 19 = .ok (.goto 4, 3) := by decide +kernel
theorem d_Mo_isTurn_22 : decode b_Mo_isTurn 22 = .ok (.iconst 0, 1) := by decide +kernel
theorem d_Mo_isTurn_23 : decode b_Mo_isTurn 23 = .ok (.ireturn, 1) := by decide +kernel
theorem d_Mo_lay_0 : decode b_Mo_lay 0 = .ok (.aload_n 0, 1) := by decide +kernel
theorem d_Mo_lay_1 : decode b_Mo_lay 1 = .ok (.dup, 1) := by decide +kernel
theorem d_Mo_lay_2 : decode b_Mo_lay 2 = .ok (.getfield 156, 3) := by decide +kernel
theorem d_Mo_lay_5 : decode b_Mo_lay 5 = .ok (.aload_n 0, 1) := by decide +kernel
theorem d_Mo_lay_6 : decode b_Mo_lay 6 = .ok (.getfield 108, 3) := by decide +kernel
theorem d_Mo_lay_9 : decode b_Mo_lay 9 = .ok (.ifCond .eq 16, 3) := by decide +kernel
theorem d_Mo_lay_12 : decode b_Mo_lay 12 = .ok (.aload_n 0, 1) := by decide +kernel
theorem d_Mo_lay_13 : decode b_Mo_lay 13 = .ok (.getfield 30, 3) := by decide +kernel
theorem d_Mo_lay_16 : decode b_Mo_lay 16 = .ok (.iload_n 1, 1) := by decide +kernel
theorem d_Mo_lay_17 : decode b_Mo_lay 17 = .ok (.baload, 1) := by decide +kernel
theorem d_Mo_lay_18 : decode b_Mo_lay 18 = .ok (.ifCond .ne 7, 3) := by decide +kernel
theorem d_Mo_lay_21 : decode b_Mo_lay 21 = .ok (.iconst 1, 1) := by decide +kernel
theorem d_Mo_lay_22 : decode b_Mo_lay 22 = .ok (.goto 4, 3) := by decide +kernel
theorem d_Mo_lay_25 : decode b_Mo_lay 25 = .ok (.iconst 0, 1) := by decide +kernel
theorem d_Mo_lay_26 : decode b_Mo_lay 26 = .ok (.iadd, 1) := by decide +kernel
theorem d_Mo_lay_27 : decode b_Mo_lay 27 = .ok (.putfield 156, 3) := by decide +kernel
theorem d_Mo_lay_30 : decode b_Mo_lay 30 = .ok (.aload_n 0, 1) := by decide +kernel
theorem d_Mo_lay_31 : decode b_Mo_lay 31 = .ok (.getfield 30, 3) := by decide +kernel
theorem d_Mo_lay_34 : decode b_Mo_lay 34 = .ok (.iload_n 1, 1) := by decide +kernel
theorem d_Mo_lay_35 : decode b_Mo_lay 35 = .ok (.iload_n 2, 1) := by decide +kernel
theorem d_Mo_lay_36 : decode b_Mo_lay 36 = .ok (.bastore, 1) := by decide +kernel
theorem d_Mo_lay_37 : decode b_Mo_lay 37 = .ok (.aload_n 0, 1) := by decide +kernel
theorem d_Mo_lay_38 : decode b_Mo_lay 38 = .ok (.getfield 14, 3) := by decide +kernel
theorem d_Mo_lay_41 : decode b_Mo_lay 41 = .ok (.ldc 49, 2) := by decide +kernel
theorem d_Mo_lay_43 : decode b_Mo_lay 43 = .ok (.iload_n 1, 1) := by decide +kernel
theorem d_Mo_lay_44 : decode b_Mo_lay 44 = .ok (.imul, 1) := by decide +kernel
theorem d_Mo_lay_45 : decode b_Mo_lay 45 = .ok (.aload_n 0, 1) := by decide +kernel
theorem d_Mo_lay_46 : decode b_Mo_lay 46 = .ok (.getfield 24, 3) := by decide +kernel
theorem d_Mo_lay_49 : decode b_Mo_lay 49 = .ok (.iload_n 1, 1) := by decide +kernel
theorem d_Mo_lay_50 : decode b_Mo_lay 50 = .ok (.iaload, 1) := by decide +kernel
theorem d_Mo_lay_51 : decode b_Mo_lay 51 = .ok (.iadd, 1) := by decide +kernel
theorem d_Mo_lay_52 : decode b_Mo_lay 52 = .ok (.aload_n 0, 1) := by decide +kernel
theorem d_Mo_lay_53 : decode b_Mo_lay 53 = .ok (.getfield 124, 3) := by decide +kernel
theorem d_Mo_lay_56 : decode b_Mo_lay 56 = .ok (.iastore, 1) := by decide +kernel
theorem d_Mo_lay_57 : decode b_Mo_lay 57 = .ok (.aload_n 0, 1) := by decide +kernel
theorem d_Mo_lay_58 : decode b_Mo_lay 58 = .ok (.getfield 24, 3) := by decide +kernel
theorem d_Mo_lay_61 : decode b_Mo_lay 61 = .ok (.iload_n 1, 1) := by decide +kernel
theorem d_Mo_lay_62 : decode b_Mo_lay 62 = .ok (.dup2, 1) := by decide +kernel
theorem d_Mo_lay_63 : decode b_Mo_lay 63 = .ok (.iaload, 1) := by decide +kernel
theorem d_Mo_lay_64 : decode b_Mo_lay 64 = .ok (.iconst 1, 1) := by decide +kernel
theorem d_Mo_lay_65 : decode b_Mo_lay 65 = .ok (.iadd, 1) := by decide +kernel
theorem d_Mo_lay_66 : decode b_Mo_lay 66 = .ok (.iastore, 1) := by decide +kernel
theorem d_Mo_lay_67 : decode b_Mo_lay 67 = .ok (.aload_n 0, 1) := by decide +kernel
theorem d_Mo_lay_68 : decode b_Mo_lay 68 = .ok (.iload_n 2, 1) := by decide +kernel
theorem d_Mo_lay_69 : decode b_Mo_lay 69 = .ok (.ifCond .eq 7, 3) := by decide +kernel
theorem d_Mo_lay_72 : decode b_Mo_lay 72 = .ok (.iconst 0, 1) := by decide +kernel
theorem d_Mo_lay_73 : decode b_Mo_lay 73 = .ok (.goto 7, 3) := by decide +kernel
theorem d_Mo_lay_76 : decode b_Mo_lay 76 = .ok (.aload_n 0, 1) := by decide +kernel
theorem d_Mo_lay_77 : decode b_Mo_lay 77 = .ok (.getfield 115, 3) := by decide +kernel
theorem d_Mo_lay_80 : decode b_Mo_lay 80 = .ok (.iload_n 2, 1) := by decide +kernel
theorem d_Mo_lay_81 : decode b_Mo_lay 81 = .ok (.ifCond .eq 10, 3) := by decide +kernel
theorem d_Mo_lay_84 : decode b_Mo_lay 84 = .ok (.aload_n 0, 1) := by decide +kernel
theorem d_Mo_lay_85 : decode b_Mo_lay 85 = .ok (.getfield 95, 3) := by decide +kernel
theorem d_Mo_lay_88 : decode b_Mo_lay 88 = .ok (.goto 7, 3) := by decide +kernel
theorem d_Mo_lay_91 : decode b_Mo_lay 91 = .ok (.aload_n 0, 1) := by decide +kernel
theorem d_Mo_lay_92 : decode b_Mo_lay 92 = .ok (.getfield 118, 3) := by decide +kernel
theorem d_Mo_lay_95 : decode b_Mo_lay 95 = .ok (.invokevirtual 159, 3) := by decide +kernel
theorem d_Mo_lay_98 : decode b_Mo_lay 98 = .ok (.return_, 1) := by decide +kernel
theorem d_Mo_sample_0 : decode b_Mo_sample 0 = .ok (.aload_n 0, 1) := by decide +kernel
theorem d_Mo_sample_1 : decode b_Mo_sample 1 = .ok (.aload_n 0, 1) := by decide +kernel
theorem d_Mo_sample_2 : decode b_Mo_sample 2 = .ok (.iconst 0, 1) := by decide +kernel
theorem d_Mo_sample_3 : decode b_Mo_sample 3 = .ok (.iload_n 1, 1) := by decide +kernel
theorem d_Mo_sample_4 : decode b_Mo_sample 4 = .ok (.invokevirtual 163, 3) := by decide +kernel
theorem d_Mo_sample_7 : decode b_Mo_sample 7 = .ok (.ifCond .ne 7, 3) := by decide +kernel
theorem d_Mo_sample_10 : decode b_Mo_sample 10 = .ok (.iconst 1, 1) := by decide +kernel
theorem d_Mo_sample_11 : decode b_Mo_sample 11 = .ok (.goto 20, 3) := by decide +kernel
theorem d_Mo_sample_14 : decode b_Mo_sample 14 = .ok (.iload_n 2, 1) := by decide +kernel
theorem d_Mo_sample_15 : decode b_Mo_sample 15 = .ok (.ifCond .lt 11, 3) := by decide +kernel
theorem d_Mo_sample_18 : decode b_Mo_sample 18 = .ok (.iload_n 2, 1) := by decide +kernel
theorem d_Mo_sample_19 : decode b_Mo_sample 19 = .ok (.aload_n 0, 1) := by decide +kernel
theorem d_Mo_sample_20 : decode b_Mo_sample 20 = .ok (.getfield 57, 3) := by decide +kernel
theorem d_Mo_sample_23 : decode b_Mo_sample 23 = .ok (.if_icmp .le 7, 3) := by decide +kernel
theorem d_Mo_sample_26 : decode b_Mo_sample 26 = .ok (.iconst 2, 1) := by decide +kernel
theorem d_Mo_sample_27 : decode b_Mo_sample 27 = .ok (.goto 4, 3) := by decide +kernel
theorem d_Mo_sample_30 : decode b_Mo_sample 30 = .ok (.iconst 0, 1) := by decide +kernel
theorem d_Mo_sample_31 : decode b_Mo_sample 31 = .ok (.putfield 72, 3) := by decide +kernel
theorem d_Mo_sample_34 : decode b_Mo_sample 34 = .ok (.aload_n 0, 1) := by decide +kernel
theorem d_Mo_sample_35 : decode b_Mo_sample 35 = .ok (.getfield 72, 3) := by decide +kernel
theorem d_Mo_sample_38 : decode b_Mo_sample 38 = .ok (.ifCond .le 5, 3) := by decide +kernel
theorem d_Mo_sample_41 : decode b_Mo_sample 41 = .ok (.iconst 0, 1) := by decide +kernel
theorem d_Mo_sample_42 : decode b_Mo_sample 42 = .ok (.ireturn, 1) := by decide +kernel
theorem d_Mo_sample_43 : decode b_Mo_sample 43 = .ok (.aload_n 0, 1) := by decide +kernel
theorem d_Mo_sample_44 : decode b_Mo_sample 44 = .ok (.iconst 0, 1) := by decide +kernel
theorem d_Mo_sample_45 : decode b_Mo_sample 45 = .ok (.invokevirtual 167, 3) := by decide +kernel
theorem d_Mo_sample_48 : decode b_Mo_sample 48 = .ok (.aload_n 0, 1) := by decide +kernel
theorem d_Mo_sample_49 : decode b_Mo_sample 49 = .ok (.getfield 108, 3) := by decide +kernel
theorem d_Mo_sample_52 : decode b_Mo_sample 52 = .ok (.ifCond .eq 33, 3) := by decide +kernel
theorem d_Mo_sample_55 : decode b_Mo_sample 55 = .ok (.aload_n 0, 1) := by decide +kernel
theorem d_Mo_sample_56 : decode b_Mo_sample 56 = .ok (.iload_n 2, 1) := by decide +kernel
theorem d_Mo_sample_57 : decode b_Mo_sample 57 = .ok (.aload_n 0, 1) := by decide +kernel
theorem d_Mo_sample_58 : decode b_Mo_sample 58 = .ok (.getfield 95, 3) := by decide +kernel
theorem d_Mo_sample_61 : decode b_Mo_sample 61 = .ok (.isub, 1) := by decide +kernel
theorem d_Mo_sample_62 : decode b_Mo_sample 62 = .ok (.invokevirtual 104, 3) := by decide +kernel
theorem d_Mo_sample_65 : decode b_Mo_sample 65 = .ok (.ifCond .eq 20, 3) := by decide +kernel
theorem d_Mo_sample_68 : decode b_Mo_sample 68 = .ok (.aload_n 0, 1) := by decide +kernel
theorem d_Mo_sample_69 : decode b_Mo_sample 69 = .ok (.aload_n 0, 1) := by decide +kernel
theorem d_Mo_sample_70 : decode b_Mo_sample 70 = .ok (.getfield 95, 3) := by decide +kernel
theorem d_Mo_sample_73 : decode b_Mo_sample 73 = .ok (.putfield 124, 3) := by decide +kernel
theorem d_Mo_sample_76 : decode b_Mo_sample 76 = .ok (.aload_n 0, 1) := by decide +kernel
theorem d_Mo_sample_77 : decode b_Mo_sample 77 = .ok (.iconst 0, 1) := by decide +kernel
theorem d_Mo_sample_78 : decode b_Mo_sample 78 = .ok (.iconst 1, 1) := by decide +kernel
theorem d_Mo_sample_79 : decode b_Mo_sample 79 = .ok (.invokevirtual 170, 3) := by decide +kernel
theorem d_Mo_sample_82 : decode b_Mo_sample 82 = .ok (.ldc 174, 2) := by decide +kernel
theorem d_Mo_sample_84 : decode b_Mo_sample 84 = .ok (.ireturn, 1) := by decide +kernel
theorem d_Mo_sample_85 : decode b_Mo_sample 85 = .ok (.aload_n 0, 1) := by decide +kernel
theorem d_Mo_sample_86 : decode b_Mo_sample 86 = .ok (.aload_n 0, 1) := by decide +kernel
