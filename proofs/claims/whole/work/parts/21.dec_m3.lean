theorem d_Mo_sample_87 : decode b_Mo_sample 87 = .ok (.getfield 112, 3) := by decide +kernel
theorem d_Mo_sample_90 : decode b_Mo_sample 90 = .ok (.iload_n 2, 1) := by decide +kernel
theorem d_Mo_sample_91 : decode b_Mo_sample 91 = .ok (.aload_n 0, 1) := by decide +kernel
theorem d_Mo_sample_92 : decode b_Mo_sample 92 = .ok (.getfield 118, 3) := by decide +kernel
theorem d_Mo_sample_95 : decode b_Mo_sample 95 = .ok (.isub, 1) := by decide +kernel
theorem d_Mo_sample_96 : decode b_Mo_sample 96 = .ok (.imul, 1) := by decide +kernel
theorem d_Mo_sample_97 : decode b_Mo_sample 97 = .ok (.invokevirtual 175, 3) := by decide +kernel
theorem d_Mo_sample_100 : decode b_Mo_sample 100 = .ok (.istore_n 3, 1) := by decide +kernel
theorem d_Mo_sample_101 : decode b_Mo_sample 101 = .ok (.aload_n 0, 1) := by decide +kernel
theorem d_Mo_sample_102 : decode b_Mo_sample 102 = .ok (.aload_n 0, 1) := by decide +kernel
theorem d_Mo_sample_103 : decode b_Mo_sample 103 = .ok (.getfield 118, 3) := by decide +kernel
theorem d_Mo_sample_106 : decode b_Mo_sample 106 = .ok (.aload_n 0, 1) := by decide +kernel
theorem d_Mo_sample_107 : decode b_Mo_sample 107 = .ok (.getfield 112, 3) := by decide +kernel
theorem d_Mo_sample_110 : decode b_Mo_sample 110 = .ok (.iload_n 3, 1) := by decide +kernel
theorem d_Mo_sample_111 : decode b_Mo_sample 111 = .ok (.imul, 1) := by decide +kernel
theorem d_Mo_sample_112 : decode b_Mo_sample 112 = .ok (.aload_n 0, 1) := by decide +kernel
theorem d_Mo_sample_113 : decode b_Mo_sample 113 = .ok (.getfield 63, 3) := by decide +kernel
theorem d_Mo_sample_116 : decode b_Mo_sample 116 = .ok (.imul, 1) := by decide +kernel
theorem d_Mo_sample_117 : decode b_Mo_sample 117 = .ok (.iadd, 1) := by decide +kernel
theorem d_Mo_sample_118 : decode b_Mo_sample 118 = .ok (.iconst 0, 1) := by decide +kernel
theorem d_Mo_sample_119 : decode b_Mo_sample 119 = .ok (.aload_n 0, 1) := by decide +kernel
theorem d_Mo_sample_120 : decode b_Mo_sample 120 = .ok (.getfield 57, 3) := by decide +kernel
theorem d_Mo_sample_123 : decode b_Mo_sample 123 = .ok (.invokestatic 50, 3) := by decide +kernel
theorem d_Mo_sample_126 : decode b_Mo_sample 126 = .ok (.putfield 124, 3) := by decide +kernel
theorem d_Mo_sample_129 : decode b_Mo_sample 129 = .ok (.aload_n 0, 1) := by decide +kernel
theorem d_Mo_sample_130 : decode b_Mo_sample 130 = .ok (.iload_n 3, 1) := by decide +kernel
theorem d_Mo_sample_131 : decode b_Mo_sample 131 = .ok (.invokevirtual 142, 3) := by decide +kernel
theorem d_Mo_sample_134 : decode b_Mo_sample 134 = .ok (.istore 4, 2) := by decide +kernel
theorem d_Mo_sample_136 : decode b_Mo_sample 136 = .ok (.aload_n 0, 1) := by decide +kernel
theorem d_Mo_sample_137 : decode b_Mo_sample 137 = .ok (.aload_n 0, 1) := by decide +kernel
theorem d_Mo_sample_138 : decode b_Mo_sample 138 = .ok (.getfield 115, 3) := by decide +kernel
theorem d_Mo_sample_141 : decode b_Mo_sample 141 = .ok (.iload 4, 2) := by decide +kernel
theorem d_Mo_sample_143 : decode b_Mo_sample 143 = .ok (.invokevirtual 145, 3) := by decide +kernel
theorem d_Mo_sample_146 : decode b_Mo_sample 146 = .ok (.istore 5, 2) := by decide +kernel
theorem d_Mo_sample_148 : decode b_Mo_sample 148 = .ok (.aload_n 0, 1) := by decide +kernel
theorem d_Mo_sample_149 : decode b_Mo_sample 149 = .ok (.aload_n 0, 1) := by decide +kernel
theorem d_Mo_sample_150 : decode b_Mo_sample 150 = .ok (.getfield 115, 3) := by decide +kernel
theorem d_Mo_sample_153 : decode b_Mo_sample 153 = .ok (.iload 4, 2) := by decide +kernel
theorem d_Mo_sample_155 : decode b_Mo_sample 155 = .ok (.iload 5, 2) := by decide +kernel
theorem d_Mo_sample_157 : decode b_Mo_sample 157 = .ok (.invokevirtual 178, 3) := by decide +kernel
theorem d_Mo_sample_160 : decode b_Mo_sample 160 = .ok (.aload_n 0, 1) := by decide +kernel
theorem d_Mo_sample_161 : decode b_Mo_sample 161 = .ok (.iconst 0, 1) := by decide +kernel
theorem d_Mo_sample_162 : decode b_Mo_sample 162 = .ok (.iconst 0, 1) := by decide +kernel
theorem d_Mo_sample_163 : decode b_Mo_sample 163 = .ok (.invokevirtual 170, 3) := by decide +kernel
theorem d_Mo_sample_166 : decode b_Mo_sample 166 = .ok (.iload 5, 2) := by decide +kernel
theorem d_Mo_sample_168 : decode b_Mo_sample 168 = .ok (.ireturn, 1) := by decide +kernel
theorem d_Mo_back_0 : decode b_Mo_back 0 = .ok (.aload_n 0, 1) := by decide +kernel
theorem d_Mo_back_1 : decode b_Mo_back 1 = .ok (.aload_n 0, 1) := by decide +kernel
theorem d_Mo_back_2 : decode b_Mo_back 2 = .ok (.iconst 1, 1) := by decide +kernel
theorem d_Mo_back_3 : decode b_Mo_back 3 = .ok (.iload_n 1, 1) := by decide +kernel
theorem d_Mo_back_4 : decode b_Mo_back 4 = .ok (.invokevirtual 163, 3) := by decide +kernel
theorem d_Mo_back_7 : decode b_Mo_back 7 = .ok (.ifCond .eq 7, 3) := by decide +kernel
theorem d_Mo_back_10 : decode b_Mo_back 10 = .ok (.iconst 0, 1) := by decide +kernel
theorem d_Mo_back_11 : decode b_Mo_back 11 = .ok (.goto 4, 3) := by decide +kernel
theorem d_Mo_back_14 : decode b_Mo_back 14 = .ok (.iconst 1, 1) := by decide +kernel
theorem d_Mo_back_15 : decode b_Mo_back 15 = .ok (.putfield 72, 3) := by decide +kernel
theorem d_Mo_back_18 : decode b_Mo_back 18 = .ok (.aload_n 0, 1) := by decide +kernel
theorem d_Mo_back_19 : decode b_Mo_back 19 = .ok (.getfield 72, 3) := by decide +kernel
theorem d_Mo_back_22 : decode b_Mo_back 22 = .ok (.ifCond .le 5, 3) := by decide +kernel
theorem d_Mo_back_25 : decode b_Mo_back 25 = .ok (.iconst 0, 1) := by decide +kernel
theorem d_Mo_back_26 : decode b_Mo_back 26 = .ok (.ireturn, 1) := by decide +kernel
theorem d_Mo_back_27 : decode b_Mo_back 27 = .ok (.aload_n 0, 1) := by decide +kernel
theorem d_Mo_back_28 : decode b_Mo_back 28 = .ok (.iconst 1, 1) := by decide +kernel
theorem d_Mo_back_29 : decode b_Mo_back 29 = .ok (.invokevirtual 167, 3) := by decide +kernel
theorem d_Mo_back_32 : decode b_Mo_back 32 = .ok (.sipush 367, 3) := by decide +kernel
theorem d_Mo_back_35 : decode b_Mo_back 35 = .ok (.aload_n 0, 1) := by decide +kernel
theorem d_Mo_back_36 : decode b_Mo_back 36 = .ok (.getfield 115, 3) := by decide +kernel
theorem d_Mo_back_39 : decode b_Mo_back 39 = .ok (.iadd, 1) := by decide +kernel
theorem d_Mo_back_40 : decode b_Mo_back 40 = .ok (.istore_n 3, 1) := by decide +kernel
theorem d_Mo_back_41 : decode b_Mo_back 41 = .ok (.iload_n 2, 1) := by decide +kernel
theorem d_Mo_back_42 : decode b_Mo_back 42 = .ok (.ldc 174, 2) := by decide +kernel
theorem d_Mo_back_44 : decode b_Mo_back 44 = .ok (.if_icmp .ne 7, 3) := by decide +kernel
theorem d_Mo_back_47 : decode b_Mo_back 47 = .ok (.iconst 1, 1) := by decide +kernel
theorem d_Mo_back_48 : decode b_Mo_back 48 = .ok (.goto 4, 3) := by decide +kernel
theorem d_Mo_back_51 : decode b_Mo_back 51 = .ok (.iconst 0, 1) := by decide +kernel
theorem d_Mo_back_52 : decode b_Mo_back 52 = .ok (.istore 4, 2) := by decide +kernel
theorem d_Mo_back_54 : decode b_Mo_back 54 = .ok (.iconst 0, 1) := by decide +kernel
theorem d_Mo_back_55 : decode b_Mo_back 55 = .ok (.istore 5, 2) := by decide +kernel
theorem d_Mo_back_57 : decode b_Mo_back 57 = .ok (.iload 4, 2) := by decide +kernel
theorem d_Mo_back_59 : decode b_Mo_back 59 = .ok (.ifCond .eq 22, 3) := by decide +kernel
theorem d_Mo_back_62 : decode b_Mo_back 62 = .ok (.aload_n 0, 1) := by decide +kernel
theorem d_Mo_back_63 : decode b_Mo_back 63 = .ok (.aload_n 0, 1) := by decide +kernel
theorem d_Mo_back_64 : decode b_Mo_back 64 = .ok (.getfield 108, 3) := by decide +kernel
theorem d_Mo_back_67 : decode b_Mo_back 67 = .ok (.ifCond .eq 7, 3) := by decide +kernel
theorem d_Mo_back_70 : decode b_Mo_back 70 = .ok (.iconst 0, 1) := by decide +kernel
theorem d_Mo_back_71 : decode b_Mo_back 71 = .ok (.goto 4, 3) := by decide +kernel
theorem d_Mo_back_74 : decode b_Mo_back 74 = .ok (.iconst 2, 1) := by decide +kernel
theorem d_Mo_back_75 : decode b_Mo_back 75 = .ok (.putfield 72, 3) := by decide +kernel
theorem d_Mo_back_78 : decode b_Mo_back 78 = .ok (.goto 52, 3) := by decide +kernel
theorem d_Mo_back_81 : decode b_Mo_back 81 = .ok (.iload_n 2, 1) := by decide +kernel
theorem d_Mo_back_82 : decode b_Mo_back 82 = .ok (.ifCond .lt 11, 3) := by decide +kernel
theorem d_Mo_back_85 : decode b_Mo_back 85 = .ok (.iload_n 2, 1) := by decide +kernel
theorem d_Mo_back_86 : decode b_Mo_back 86 = .ok (.aload_n 0, 1) := by decide +kernel
theorem d_Mo_back_87 : decode b_Mo_back 87 = .ok (.getfield 66, 3) := by decide +kernel
theorem d_Mo_back_90 : decode b_Mo_back 90 = .ok (.if_icmp .le 12, 3) := by decide +kernel
theorem d_Mo_back_93 : decode b_Mo_back 93 = .ok (.iconst 3, 1) := by decide +kernel
theorem d_Mo_back_94 : decode b_Mo_back 94 = .ok (.aload_n 0, 1) := by decide +kernel
theorem d_Mo_back_95 : decode b_Mo_back 95 = .ok (.getfield 66, 3) := by decide +kernel
theorem d_Mo_back_98 : decode b_Mo_back 98 = .ok (.imul, 1) := by decide +kernel
theorem d_Mo_back_99 : decode b_Mo_back 99 = .ok (.goto 9, 3) := by decide +kernel
theorem d_Mo_back_102 : decode b_Mo_back 102 = .ok (.aload_n 0, 1) := by decide +kernel
theorem d_Mo_back_103 : decode b_Mo_back 103 = .ok (.iload_n 3, 1) := by decide +kernel
theorem d_Mo_back_104 : decode b_Mo_back 104 = .ok (.iload_n 2, 1) := by decide +kernel
theorem d_Mo_back_105 : decode b_Mo_back 105 = .ok (.invokevirtual 182, 3) := by decide +kernel
theorem d_Mo_back_108 : decode b_Mo_back 108 = .ok (.istore 5, 2) := by decide +kernel
theorem d_Mo_back_110 : decode b_Mo_back 110 = .ok (.aload_n 0, 1) := by decide +kernel
theorem d_Mo_back_111 : decode b_Mo_back 111 = .ok (.iload 5, 2) := by decide +kernel
theorem d_Mo_back_113 : decode b_Mo_back 113 = .ok (.iconst 3, 1) := by decide +kernel
theorem d_Mo_back_114 : decode b_Mo_back 114 = .ok (.aload_n 0, 1) := by decide +kernel
theorem d_Mo_back_115 : decode b_Mo_back 115 = .ok (.getfield 66, 3) := by decide +kernel
theorem d_Mo_back_118 : decode b_Mo_back 118 = .ok (.imul, 1) := by decide +kernel
theorem d_Mo_back_119 : decode b_Mo_back 119 = .ok (.if_icmp .ne 7, 3) := by decide +kernel
theorem d_Mo_back_122 : decode b_Mo_back 122 = .ok (.iconst 2, 1) := by decide +kernel
theorem d_Mo_back_123 : decode b_Mo_back 123 = .ok (.goto 4, 3) := by decide +kernel
theorem d_Mo_back_126 : decode b_Mo_back 126 = .ok (.iconst 0, 1) := by decide +kernel
theorem d_Mo_back_127 : decode b_Mo_back 127 = .ok (.putfield 72, 3) := by decide +kernel
theorem d_Mo_back_130 : decode b_Mo_back 130 = .ok (.aload_n 0, 1) := by decide +kernel
theorem d_Mo_back_131 : decode b_Mo_back 131 = .ok (.getfield 72, 3) := by decide +kernel
theorem d_Mo_back_134 : decode b_Mo_back 134 = .ok (.ifCond .le 5, 3) := by decide +kernel
theorem d_Mo_back_137 : decode b_Mo_back 137 = .ok (.iconst 0, 1) := by decide +kernel
theorem d_Mo_back_138 : decode b_Mo_back 138 = .ok (.ireturn, 1) := by decide +kernel
theorem d_Mo_back_139 : decode b_Mo_back 139 = .ok (.aload_n 0, 1) := by decide +kernel
theorem d_Mo_back_140 : decode b_Mo_back 140 = .ok (.aload_n 0, 1) := by decide +kernel
theorem d_Mo_back_141 : decode b_Mo_back 141 = .ok (.getfield 95, 3) := by decide +kernel
theorem d_Mo_back_144 : decode b_Mo_back 144 = .ok (.putfield 124, 3) := by decide +kernel
theorem d_Mo_back_147 : decode b_Mo_back 147 = .ok (.iload 4, 2) := by decide +kernel
theorem d_Mo_back_149 : decode b_Mo_back 149 = .ok (.ifCond .ne 102, 3) := by decide +kernel
theorem d_Mo_back_152 : decode b_Mo_back 152 = .ok (.aload_n 0, 1) := by decide +kernel
theorem d_Mo_back_153 : decode b_Mo_back 153 = .ok (.getfield 118, 3) := by decide +kernel
theorem d_Mo_back_156 : decode b_Mo_back 156 = .ok (.aload_n 0, 1) := by decide +kernel
theorem d_Mo_back_157 : decode b_Mo_back 157 = .ok (.getfield 112, 3) := by decide +kernel
theorem d_Mo_back_160 : decode b_Mo_back 160 = .ok (.iload 5, 2) := by decide +kernel
theorem d_Mo_back_162 : decode b_Mo_back 162 = .ok (.imul, 1) := by decide +kernel
theorem d_Mo_back_163 : decode b_Mo_back 163 = .ok (.aload_n 0, 1) := by decide +kernel
theorem d_Mo_back_164 : decode b_Mo_back 164 = .ok (.getfield 63, 3) := by decide +kernel
theorem d_Mo_back_167 : decode b_Mo_back 167 = .ok (.imul, 1) := by decide +kernel
theorem d_Mo_back_168 : decode b_Mo_back 168 = .ok (.iadd, 1) := by decide +kernel
theorem d_Mo_back_169 : decode b_Mo_back 169 = .ok (.istore 6, 2) := by decide +kernel
theorem d_Mo_back_171 : decode b_Mo_back 171 = .ok (.iload 6, 2) := by decide +kernel
theorem d_Mo_back_173 : decode b_Mo_back 173 = .ok (.aload_n 0, 1) := by decide +kernel
theorem d_Mo_back_174 : decode b_Mo_back 174 = .ok (.getfield 60, 3) := by decide +kernel
theorem d_Mo_back_177 : decode b_Mo_back 177 = .ok (.ineg, 1) := by decide +kernel
theorem d_Mo_back_178 : decode b_Mo_back 178 = .ok (.if_icmp .ge 18, 3) := by decide +kernel
theorem d_Mo_back_181 : decode b_Mo_back 181 = .ok (.iload 6, 2) := by decide +kernel
theorem d_Mo_back_183 : decode b_Mo_back 183 = .ok (.aload_n 0, 1) := by decide +kernel
theorem d_Mo_back_184 : decode b_Mo_back 184 = .ok (.getfield 66, 3) := by decide +kernel
theorem d_Mo_back_187 : decode b_Mo_back 187 = .ok (.aload_n 0, 1) := by decide +kernel
theorem d_Mo_back_188 : decode b_Mo_back 188 = .ok (.getfield 63, 3) := by decide +kernel
theorem d_Mo_back_191 : decode b_Mo_back 191 = .ok (.imul, 1) := by decide +kernel
theorem d_Mo_back_192 : decode b_Mo_back 192 = .ok (.iadd, 1) := by decide +kernel
theorem d_Mo_back_193 : decode b_Mo_back 193 = .ok (.goto 34, 3) := by decide +kernel
theorem d_Mo_back_196 : decode b_Mo_back 196 = .ok (.iload 6, 2) := by decide +kernel
theorem d_Mo_back_198 : decode b_Mo_back 198 = .ok (.aload_n 0, 1) := by decide +kernel
theorem d_Mo_back_199 : decode b_Mo_back 199 = .ok (.getfield 57, 3) := by decide +kernel
theorem d_Mo_back_202 : decode b_Mo_back 202 = .ok (.aload_n 0, 1) := by decide +kernel
theorem d_Mo_back_203 : decode b_Mo_back 203 = .ok (.getfield 60, 3) := by decide +kernel
theorem d_Mo_back_206 : decode b_Mo_back 206 = .ok (.iadd, 1) := by decide +kernel
theorem d_Mo_back_207 : decode b_Mo_back 207 = .ok (.if_icmp .le 18, 3) := by decide +kernel
theorem d_Mo_back_210 : decode b_Mo_back 210 = .ok (.iload 6, 2) := by decide +kernel
theorem d_Mo_back_212 : decode b_Mo_back 212 = .ok (.aload_n 0, 1) := by decide +kernel
theorem d_Mo_back_213 : decode b_Mo_back 213 = .ok (.getfield 66, 3) := by decide +kernel
theorem d_Mo_back_216 : decode b_Mo_back 216 = .ok (.aload_n 0, 1) := by decide +kernel
theorem d_Mo_back_217 : decode b_Mo_back 217 = .ok (.getfield 63, 3) := by decide +kernel
theorem d_Mo_back_220 : decode b_Mo_back 220 = .ok (.imul, 1) := by decide +kernel
theorem d_Mo_back_221 : decode b_Mo_back 221 = .ok (.isub, 1) := by decide +kernel
theorem d_Mo_back_222 : decode b_Mo_back 222 = .ok (.goto 5, 3) := by decide +kernel
theorem d_Mo_back_225 : decode b_Mo_back 225 = .ok (.iload 6, 2) := by decide +kernel
theorem d_Mo_back_227 : decode b_Mo_back 227 = .ok (.istore 6, 2) := by decide +kernel
theorem d_Mo_back_229 : decode b_Mo_back 229 = .ok (.aload_n 0, 1) := by decide +kernel
theorem d_Mo_back_230 : decode b_Mo_back 230 = .ok (.iload 6, 2) := by decide +kernel
theorem d_Mo_back_232 : decode b_Mo_back 232 = .ok (.iconst 0, 1) := by decide +kernel
theorem d_Mo_back_233 : decode b_Mo_back 233 = .ok (.aload_n 0, 1) := by decide +kernel
theorem d_Mo_back_234 : decode b_Mo_back 234 = .ok (.getfield 57, 3) := by decide +kernel
theorem d_Mo_back_237 : decode b_Mo_back 237 = .ok (.invokestatic 50, 3) := by decide +kernel
theorem d_Mo_back_240 : decode b_Mo_back 240 = .ok (.putfield 124, 3) := by decide +kernel
theorem d_Mo_back_243 : decode b_Mo_back 243 = .ok (.aload_n 0, 1) := by decide +kernel
theorem d_Mo_back_244 : decode b_Mo_back 244 = .ok (.iload_n 3, 1) := by decide +kernel
theorem d_Mo_back_245 : decode b_Mo_back 245 = .ok (.iload 5, 2) := by decide +kernel
theorem d_Mo_back_247 : decode b_Mo_back 247 = .ok (.iload_n 2, 1) := by decide +kernel
theorem d_Mo_back_248 : decode b_Mo_back 248 = .ok (.invokevirtual 178, 3) := by decide +kernel
theorem d_Mo_back_251 : decode b_Mo_back 251 = .ok (.aload_n 0, 1) := by decide +kernel
theorem d_Mo_back_252 : decode b_Mo_back 252 = .ok (.iconst 1, 1) := by decide +kernel
theorem d_Mo_back_253 : decode b_Mo_back 253 = .ok (.iload 4, 2) := by decide +kernel
theorem d_Mo_back_255 : decode b_Mo_back 255 = .ok (.invokevirtual 170, 3) := by decide +kernel
theorem d_Mo_back_258 : decode b_Mo_back 258 = .ok (.aload_n 0, 1) := by decide +kernel
theorem d_Mo_back_259 : decode b_Mo_back 259 = .ok (.getfield 124, 3) := by decide +kernel
theorem d_Mo_back_262 : decode b_Mo_back 262 = .ok (.ireturn, 1) := by decide +kernel
theorem d_Mo_endRow_0 : decode b_Mo_endRow 0 = .ok (.aload_n 0, 1) := by decide +kernel
theorem d_Mo_endRow_1 : decode b_Mo_endRow 1 = .ok (.iconst 0, 1) := by decide +kernel
theorem d_Mo_endRow_2 : decode b_Mo_endRow 2 = .ok (.putfield 72, 3) := by decide +kernel
theorem d_Mo_endRow_5 : decode b_Mo_endRow 5 = .ok (.iconst 0, 1) := by decide +kernel
theorem d_Mo_endRow_6 : decode b_Mo_endRow 6 = .ok (.istore_n 1, 1) := by decide +kernel
theorem d_Mo_endRow_7 : decode b_Mo_endRow 7 = .ok (.iconst 0, 1) := by decide +kernel
theorem d_Mo_endRow_8 : decode b_Mo_endRow 8 = .ok (.istore_n 2, 1) := by decide +kernel
theorem d_Mo_endRow_9 : decode b_Mo_endRow 9 = .ok (.iload_n 2, 1) := by decide +kernel
theorem d_Mo_endRow_10 : decode b_Mo_endRow 10 = .ok (.iconst 2, 1) := by decide +kernel
theorem d_Mo_endRow_11 : decode b_Mo_endRow 11 = .ok (.if_icmp .ge 101, 3) := by decide +kernel
theorem d_Mo_endRow_14 : decode b_Mo_endRow 14 = .ok (.aload_n 0, 1) := by decide +kernel
theorem d_Mo_endRow_15 : decode b_Mo_endRow 15 = .ok (.getfield 24, 3) := by decide +kernel
theorem d_Mo_endRow_18 : decode b_Mo_endRow 18 = .ok (.iload_n 2, 1) := by decide +kernel
theorem d_Mo_endRow_19 : decode b_Mo_endRow 19 = .ok (.iaload, 1) := by decide +kernel
theorem d_Mo_endRow_20 : decode b_Mo_endRow 20 = .ok (.aload_n 0, 1) := by decide +kernel
theorem d_Mo_endRow_21 : decode b_Mo_endRow 21 = .ok (.getfield 54, 3) := by decide +kernel
theorem d_Mo_endRow_24 : decode b_Mo_endRow 24 = .ok (.if_icmp .ne 82, 3) := by decide +kernel
theorem d_Mo_endRow_27 : decode b_Mo_endRow 27 = .ok (.aload_n 0, 1) := by decide +kernel
theorem d_Mo_endRow_28 : decode b_Mo_endRow 28 = .ok (.getfield 21, 3) := by decide +kernel
theorem d_Mo_endRow_31 : decode b_Mo_endRow 31 = .ok (.iload_n 2, 1) := by decide +kernel
theorem d_Mo_endRow_32 : decode b_Mo_endRow 32 = .ok (.aload_n 0, 1) := by decide +kernel
theorem d_Mo_endRow_33 : decode b_Mo_endRow 33 = .ok (.getfield 18, 3) := by decide +kernel
theorem d_Mo_endRow_36 : decode b_Mo_endRow 36 = .ok (.ldc 49, 2) := by decide +kernel
theorem d_Mo_endRow_38 : decode b_Mo_endRow 38 = .ok (.iload_n 2, 1) := by decide +kernel
theorem d_Mo_endRow_39 : decode b_Mo_endRow 39 = .ok (.imul, 1) := by decide +kernel
theorem d_Mo_endRow_40 : decode b_Mo_endRow 40 = .ok (.iaload, 1) := by decide +kernel
theorem d_Mo_endRow_41 : decode b_Mo_endRow 41 = .ok (.iastore, 1) := by decide +kernel
theorem d_Mo_endRow_42 : decode b_Mo_endRow 42 = .ok (.iconst 0, 1) := by decide +kernel
theorem d_Mo_endRow_43 : decode b_Mo_endRow 43 = .ok (.istore_n 3, 1) := by decide +kernel
theorem d_Mo_endRow_44 : decode b_Mo_endRow 44 = .ok (.iload_n 3, 1) := by decide +kernel
theorem d_Mo_endRow_45 : decode b_Mo_endRow 45 = .ok (.aload_n 0, 1) := by decide +kernel
theorem d_Mo_endRow_46 : decode b_Mo_endRow 46 = .ok (.getfield 54, 3) := by decide +kernel
theorem d_Mo_endRow_49 : decode b_Mo_endRow 49 = .ok (.if_icmp .ge 31, 3) := by decide +kernel
theorem d_Mo_endRow_52 : decode b_Mo_endRow 52 = .ok (.aload_n 0, 1) := by decide +kernel
theorem d_Mo_endRow_53 : decode b_Mo_endRow 53 = .ok (.getfield 18, 3) := by decide +kernel
theorem d_Mo_endRow_56 : decode b_Mo_endRow 56 = .ok (.ldc 49, 2) := by decide +kernel
theorem d_Mo_endRow_58 : decode b_Mo_endRow 58 = .ok (.iload_n 2, 1) := by decide +kernel
theorem d_Mo_endRow_59 : decode b_Mo_endRow 59 = .ok (.imul, 1) := by decide +kernel
theorem d_Mo_endRow_60 : decode b_Mo_endRow 60 = .ok (.iload_n 3, 1) := by decide +kernel
theorem d_Mo_endRow_61 : decode b_Mo_endRow 61 = .ok (.iadd, 1) := by decide +kernel
theorem d_Mo_endRow_62 : decode b_Mo_endRow 62 = .ok (.aload_n 0, 1) := by decide +kernel
theorem d_Mo_endRow_63 : decode b_Mo_endRow 63 = .ok (.getfield 14, 3) := by decide +kernel
theorem d_Mo_endRow_66 : decode b_Mo_endRow 66 = .ok (.ldc 49, 2) := by decide +kernel
theorem d_Mo_endRow_68 : decode b_Mo_endRow 68 = .ok (.iload_n 2, 1) := by decide +kernel
theorem d_Mo_endRow_69 : decode b_Mo_endRow 69 = .ok (.imul, 1) := by decide +kernel
theorem d_Mo_endRow_70 : decode b_Mo_endRow 70 = .ok (.iload_n 3, 1) := by decide +kernel
theorem d_Mo_endRow_71 : decode b_Mo_endRow 71 = .ok (.iadd, 1) := by decide +kernel
theorem d_Mo_endRow_72 : decode b_Mo_endRow 72 = .ok (.iaload, 1) := by decide +kernel
theorem d_Mo_endRow_73 : decode b_Mo_endRow 73 = .ok (.iastore, 1) := by decide +kernel
theorem d_Mo_endRow_74 : decode b_Mo_endRow 74 = .ok (.iinc 3 1, 3) := by decide +kernel
theorem d_Mo_endRow_77 : decode b_Mo_endRow 77 = .ok (.goto (-33), 3) := by decide +kernel
theorem d_Mo_endRow_80 : decode b_Mo_endRow 80 = .ok (.aload_n 0, 1) := by decide +kernel
theorem d_Mo_endRow_81 : decode b_Mo_endRow 81 = .ok (.getfield 24, 3) := by decide +kernel
theorem d_Mo_endRow_84 : decode b_Mo_endRow 84 = .ok (.iload_n 2, 1) := by decide +kernel
theorem d_Mo_endRow_85 : decode b_Mo_endRow 85 = .ok (.iconst 0, 1) := by decide +kernel
theorem d_Mo_endRow_86 : decode b_Mo_endRow 86 = .ok (.iastore, 1) := by decide +kernel
theorem d_Mo_endRow_87 : decode b_Mo_endRow 87 = .ok (.aload_n 0, 1) := by decide +kernel
theorem d_Mo_endRow_88 : decode b_Mo_endRow 88 = .ok (.getfield 27, 3) := by decide +kernel
theorem d_Mo_endRow_91 : decode b_Mo_endRow 91 = .ok (.iload_n 2, 1) := by decide +kernel
theorem d_Mo_endRow_92 : decode b_Mo_endRow 92 = .ok (.dup2, 1) := by decide +kernel
theorem d_Mo_endRow_93 : decode b_Mo_endRow 93 = .ok (.iaload, 1) := by decide +kernel
theorem d_Mo_endRow_94 : decode b_Mo_endRow 94 = .ok (.iconst 1, 1) := by decide +kernel
theorem d_Mo_endRow_95 : decode b_Mo_endRow 95 = .ok (.iadd, 1) := by decide +kernel
theorem d_Mo_endRow_96 : decode b_Mo_endRow 96 = .ok (.iastore, 1) := by decide +kernel
theorem d_Mo_endRow_97 : decode b_Mo_endRow 97 = .ok (.aload_n 0, 1) := by decide +kernel
theorem d_Mo_endRow_98 : decode b_Mo_endRow 98 = .ok (.getfield 30, 3) := by decide +kernel
theorem d_Mo_endRow_101 : decode b_Mo_endRow 101 = .ok (.iload_n 2, 1) := by decide +kernel
theorem d_Mo_endRow_102 : decode b_Mo_endRow 102 = .ok (.iconst 0, 1) := by decide +kernel
theorem d_Mo_endRow_103 : decode b_Mo_endRow 103 = .ok (.bastore, 1) := by decide +kernel
theorem d_Mo_endRow_104 : decode b_Mo_endRow 104 = .ok (.iconst 1, 1) := by decide +kernel
theorem d_Mo_endRow_105 : decode b_Mo_endRow 105 = .ok (.istore_n 1, 1) := by decide +kernel
theorem d_Mo_endRow_106 : decode b_Mo_endRow 106 = .ok (.iinc 2 1, 3) := by decide +kernel
theorem d_Mo_endRow_109 : decode b_Mo_endRow 109 = .ok (.goto (-100), 3) := by decide +kernel
theorem d_Mo_endRow_112 : decode b_Mo_endRow 112 = .ok (.iload_n 1, 1) := by decide +kernel
theorem d_Mo_endRow_113 : decode b_Mo_endRow 113 = .ok (.ireturn, 1) := by decide +kernel
theorem d_Mo_context_0 : decode b_Mo_context 0 = .ok (.aload_n 0, 1) := by decide +kernel
theorem d_Mo_context_1 : decode b_Mo_context 1 = .ok (.iconst 0, 1) := by decide +kernel
theorem d_Mo_context_2 : decode b_Mo_context 2 = .ok (.putfield 72, 3) := by decide +kernel
theorem d_Mo_context_5 : decode b_Mo_context 5 = .ok (.aload_n 0, 1) := by decide +kernel
theorem d_Mo_context_6 : decode b_Mo_context 6 = .ok (.getfield 127, 3) := by decide +kernel
theorem d_Mo_context_9 : decode b_Mo_context 9 = .ok (.ireturn, 1) := by decide +kernel
theorem d_Mo_predicted_0 : decode b_Mo_predicted 0 = .ok (.aload_n 0, 1) := by decide +kernel
theorem d_Mo_predicted_1 : decode b_Mo_predicted 1 = .ok (.iconst 0, 1) := by decide +kernel
theorem d_Mo_predicted_2 : decode b_Mo_predicted 2 = .ok (.putfield 72, 3) := by decide +kernel
theorem d_Mo_predicted_5 : decode b_Mo_predicted 5 = .ok (.aload_n 0, 1) := by decide +kernel
theorem d_Mo_predicted_6 : decode b_Mo_predicted 6 = .ok (.getfield 130, 3) := by decide +kernel
theorem d_Mo_predicted_9 : decode b_Mo_predicted 9 = .ok (.ireturn, 1) := by decide +kernel
theorem d_Mo_neighbour_0 : decode b_Mo_neighbour 0 = .ok (.aload_n 0, 1) := by decide +kernel
theorem d_Mo_neighbour_1 : decode b_Mo_neighbour 1 = .ok (.iload_n 1, 1) := by decide +kernel
theorem d_Mo_neighbour_2 : decode b_Mo_neighbour 2 = .ok (.ifCond .lt 8, 3) := by decide +kernel
theorem d_Mo_neighbour_5 : decode b_Mo_neighbour 5 = .ok (.iload_n 1, 1) := by decide +kernel
theorem d_Mo_neighbour_6 : decode b_Mo_neighbour 6 = .ok (.iconst 4, 1) := by decide +kernel
theorem d_Mo_neighbour_7 : decode b_Mo_neighbour 7 = .ok (.if_icmp .le 7, 3) := by decide +kernel
theorem d_Mo_neighbour_10 : decode b_Mo_neighbour 10 = .ok (.iconst 1, 1) := by decide +kernel
theorem d_Mo_neighbour_11 : decode b_Mo_neighbour 11 = .ok (.goto 4, 3) := by decide +kernel
theorem d_Mo_neighbour_14 : decode b_Mo_neighbour 14 = .ok (.iconst 0, 1) := by decide +kernel
theorem d_Mo_neighbour_15 : decode b_Mo_neighbour 15 = .ok (.putfield 72, 3) := by decide +kernel
theorem d_Mo_neighbour_18 : decode b_Mo_neighbour 18 = .ok (.aload_n 0, 1) := by decide +kernel
theorem d_Mo_neighbour_19 : decode b_Mo_neighbour 19 = .ok (.getfield 72, 3) := by decide +kernel
theorem d_Mo_neighbour_22 : decode b_Mo_neighbour 22 = .ok (.ifCond .le 7, 3) := by decide +kernel
theorem d_Mo_neighbour_25 : decode b_Mo_neighbour 25 = .ok (.iconst 0, 1) := by decide +kernel
theorem d_Mo_neighbour_26 : decode b_Mo_neighbour 26 = .ok (.goto 9, 3) := by decide +kernel
theorem d_Mo_neighbour_29 : decode b_Mo_neighbour 29 = .ok (.aload_n 0, 1) := by decide +kernel
theorem d_Mo_neighbour_30 : decode b_Mo_neighbour 30 = .ok (.getfield 46, 3) := by decide +kernel
theorem d_Mo_neighbour_33 : decode b_Mo_neighbour 33 = .ok (.iload_n 1, 1) := by decide +kernel
theorem d_Mo_neighbour_34 : decode b_Mo_neighbour 34 = .ok (.iaload, 1) := by decide +kernel
theorem d_Mo_neighbour_35 : decode b_Mo_neighbour 35 = .ok (.ireturn, 1) := by decide +kernel
theorem d_Mo_state_0 : decode b_Mo_state 0 = .ok (.aload_n 0, 1) := by decide +kernel
theorem d_Mo_state_1 : decode b_Mo_state 1 = .ok (.iload_n 1, 1) := by decide +kernel
theorem d_Mo_state_2 : decode b_Mo_state 2 = .ok (.ifCond .lt 29, 3) := by decide +kernel
theorem d_Mo_state_5 : decode b_Mo_state 5 = .ok (.iload_n 1, 1) := by decide +kernel
theorem d_Mo_state_6 : decode b_Mo_state 6 = .ok (.iconst 1, 1) := by decide +kernel
theorem d_Mo_state_7 : decode b_Mo_state 7 = .ok (.if_icmp .gt 24, 3) := by decide +kernel
theorem d_Mo_state_10 : decode b_Mo_state 10 = .ok (.iload_n 2, 1) := by decide +kernel
theorem d_Mo_state_11 : decode b_Mo_state 11 = .ok (.iconst 1, 1) := by decide +kernel
theorem d_Mo_state_12 : decode b_Mo_state 12 = .ok (.if_icmp .lt 19, 3) := by decide +kernel
theorem d_Mo_state_15 : decode b_Mo_state 15 = .ok (.iload_n 2, 1) := by decide +kernel
theorem d_Mo_state_16 : decode b_Mo_state 16 = .ok (.sipush 366, 3) := by decide +kernel
theorem d_Mo_state_19 : decode b_Mo_state 19 = .ok (.if_icmp .gt 12, 3) := by decide +kernel
theorem d_Mo_state_22 : decode b_Mo_state 22 = .ok (.iload_n 3, 1) := by decide +kernel
theorem d_Mo_state_23 : decode b_Mo_state 23 = .ok (.ifCond .lt 8, 3) := by decide +kernel
theorem d_Mo_state_26 : decode b_Mo_state 26 = .ok (.iload_n 3, 1) := by decide +kernel
theorem d_Mo_state_27 : decode b_Mo_state 27 = .ok (.iconst 3, 1) := by decide +kernel
theorem d_Mo_state_28 : decode b_Mo_state 28 = .ok (.if_icmp .le 7, 3) := by decide +kernel
theorem d_Mo_state_31 : decode b_Mo_state 31 = .ok (.iconst 1, 1) := by decide +kernel
theorem d_Mo_state_32 : decode b_Mo_state 32 = .ok (.goto 4, 3) := by decide +kernel
theorem d_Mo_state_35 : decode b_Mo_state 35 = .ok (.iconst 0, 1) := by decide +kernel
theorem d_Mo_state_36 : decode b_Mo_state 36 = .ok (.putfield 72, 3) := by decide +kernel
theorem d_Mo_state_39 : decode b_Mo_state 39 = .ok (.aload_n 0, 1) := by decide +kernel
theorem d_Mo_state_40 : decode b_Mo_state 40 = .ok (.getfield 72, 3) := by decide +kernel
theorem d_Mo_state_43 : decode b_Mo_state 43 = .ok (.ifCond .le 5, 3) := by decide +kernel
theorem d_Mo_state_46 : decode b_Mo_state 46 = .ok (.iconst 0, 1) := by decide +kernel
theorem d_Mo_state_47 : decode b_Mo_state 47 = .ok (.ireturn, 1) := by decide +kernel
theorem d_Mo_state_48 : decode b_Mo_state 48 = .ok (.sipush 367, 3) := by decide +kernel
theorem d_Mo_state_51 : decode b_Mo_state 51 = .ok (.iload_n 1, 1) := by decide +kernel
theorem d_Mo_state_52 : decode b_Mo_state 52 = .ok (.imul, 1) := by decide +kernel
theorem d_Mo_state_53 : decode b_Mo_state 53 = .ok (.iload_n 2, 1) := by decide +kernel
theorem d_Mo_state_54 : decode b_Mo_state 54 = .ok (.iadd, 1) := by decide +kernel
theorem d_Mo_state_55 : decode b_Mo_state 55 = .ok (.istore 4, 2) := by decide +kernel
theorem d_Mo_state_57 : decode b_Mo_state 57 = .ok (.iload_n 3, 1) := by decide +kernel
theorem d_Mo_state_58 : decode b_Mo_state 58 = .ok (.tableswitch 50 0 2 #[26, 34, 42], 26) := by decide +kernel
theorem d_Mo_state_84 : decode b_Mo_state 84 = .ok (.aload_n 0, 1) := by decide +kernel
theorem d_Mo_state_85 : decode b_Mo_state 85 = .ok (.getfield 34, 3) := by decide +kernel
theorem d_Mo_state_88 : decode b_Mo_state 88 = .ok (.iload 4, 2) := by decide +kernel
theorem d_Mo_state_90 : decode b_Mo_state 90 = .ok (.iaload, 1) := by decide +kernel
theorem d_Mo_state_91 : decode b_Mo_state 91 = .ok (.ireturn, 1) := by decide +kernel
theorem d_Mo_state_92 : decode b_Mo_state 92 = .ok (.aload_n 0, 1) := by decide +kernel
theorem d_Mo_state_93 : decode b_Mo_state 93 = .ok (.getfield 40, 3) := by decide +kernel
theorem d_Mo_state_96 : decode b_Mo_state 96 = .ok (.iload 4, 2) := by decide +kernel
theorem d_Mo_state_98 : decode b_Mo_state 98 = .ok (.iaload, 1) := by decide +kernel
theorem d_Mo_state_99 : decode b_Mo_state 99 = .ok (.ireturn, 1) := by decide +kernel
theorem d_Mo_state_100 : decode b_Mo_state 100 = .ok (.aload_n 0, 1) := by decide +kernel
theorem d_Mo_state_101 : decode b_Mo_state 101 = .ok (.getfield 43, 3) := by decide +kernel
theorem d_Mo_state_104 : decode b_Mo_state 104 = .ok (.iload 4, 2) := by decide +kernel
theorem d_Mo_state_106 : decode b_Mo_state 106 = .ok (.iaload, 1) := by decide +kernel
theorem d_Mo_state_107 : decode b_Mo_state 107 = .ok (.ireturn, 1) := by decide +kernel
theorem d_Mo_state_108 : decode b_Mo_state 108 = .ok (.aload_n 0, 1) := by decide +kernel
theorem d_Mo_state_109 : decode b_Mo_state 109 = .ok (.getfield 37, 3) := by decide +kernel
theorem d_Mo_state_112 : decode b_Mo_state 112 = .ok (.iload 4, 2) := by decide +kernel
theorem d_Mo_state_114 : decode b_Mo_state 114 = .ok (.iaload, 1) := by decide +kernel
theorem d_Mo_state_115 : decode b_Mo_state 115 = .ok (.ireturn, 1) := by decide +kernel
theorem d_Mo_runs_0 : decode b_Mo_runs 0 = .ok (.aload_n 0, 1) := by decide +kernel
theorem d_Mo_runs_1 : decode b_Mo_runs 1 = .ok (.iconst 0, 1) := by decide +kernel
theorem d_Mo_runs_2 : decode b_Mo_runs 2 = .ok (.putfield 72, 3) := by decide +kernel
theorem d_Mo_runs_5 : decode b_Mo_runs 5 = .ok (.aload_n 0, 1) := by decide +kernel
theorem d_Mo_runs_6 : decode b_Mo_runs 6 = .ok (.getfield 156, 3) := by decide +kernel
theorem d_Mo_runs_9 : decode b_Mo_runs 9 = .ok (.ireturn, 1) := by decide +kernel
theorem d_Mo_quantised_0 : decode b_Mo_quantised 0 = .ok (.aload_n 0, 1) := by decide +kernel
theorem d_Mo_quantised_1 : decode b_Mo_quantised 1 = .ok (.iload_n 1, 1) := by decide +kernel
theorem d_Mo_quantised_2 : decode b_Mo_quantised 2 = .ok (.ldc 185, 2) := by decide +kernel
theorem d_Mo_quantised_4 : decode b_Mo_quantised 4 = .ok (.if_icmp .lt 9, 3) := by decide +kernel
theorem d_Mo_quantised_7 : decode b_Mo_quantised 7 = .ok (.iload_n 1, 1) := by decide +kernel
theorem d_Mo_quantised_8 : decode b_Mo_quantised 8 = .ok (.ldc 186, 2) := by decide +kernel
theorem d_Mo_quantised_10 : decode b_Mo_quantised 10 = .ok (.if_icmp .le 7, 3) := by decide +kernel
theorem d_Mo_quantised_13 : decode b_Mo_quantised 13 = .ok (.iconst 1, 1) := by decide +kernel
theorem d_Mo_quantised_14 : decode b_Mo_quantised 14 = .ok (.goto 4, 3) := by decide +kernel
theorem d_Mo_quantised_17 : decode b_Mo_quantised 17 = .ok (.iconst 0, 1) := by decide +kernel
theorem d_Mo_quantised_18 : decode b_Mo_quantised 18 = .ok (.putfield 72, 3) := by decide +kernel
theorem d_Mo_quantised_21 : decode b_Mo_quantised 21 = .ok (.aload_n 0, 1) := by decide +kernel
theorem d_Mo_quantised_22 : decode b_Mo_quantised 22 = .ok (.getfield 72, 3) := by decide +kernel
theorem d_Mo_quantised_25 : decode b_Mo_quantised 25 = .ok (.ifCond .le 7, 3) := by decide +kernel
theorem d_Mo_quantised_28 : decode b_Mo_quantised 28 = .ok (.iconst 0, 1) := by decide +kernel
theorem d_Mo_quantised_29 : decode b_Mo_quantised 29 = .ok (.goto 8, 3) := by decide +kernel
theorem d_Mo_quantised_32 : decode b_Mo_quantised 32 = .ok (.aload_n 0, 1) := by decide +kernel
theorem d_Mo_quantised_33 : decode b_Mo_quantised 33 = .ok (.iload_n 1, 1) := by decide +kernel
theorem d_Mo_quantised_34 : decode b_Mo_quantised 34 = .ok (.invokevirtual 175, 3) := by decide +kernel
theorem d_Mo_quantised_37 : decode b_Mo_quantised 37 = .ok (.ireturn, 1) := by decide +kernel
theorem d_Mo_setting_0 : decode b_Mo_setting 0 = .ok (.aload_n 0, 1) := by decide +kernel
theorem d_Mo_setting_1 : decode b_Mo_setting 1 = .ok (.iload_n 1, 1) := by decide +kernel
theorem d_Mo_setting_2 : decode b_Mo_setting 2 = .ok (.ifCond .lt 9, 3) := by decide +kernel
theorem d_Mo_setting_5 : decode b_Mo_setting 5 = .ok (.iload_n 1, 1) := by decide +kernel
theorem d_Mo_setting_6 : decode b_Mo_setting 6 = .ok (.bipush 10, 2) := by decide +kernel
theorem d_Mo_setting_8 : decode b_Mo_setting 8 = .ok (.if_icmp .le 7, 3) := by decide +kernel
theorem d_Mo_setting_11 : decode b_Mo_setting 11 = .ok (.iconst 1, 1) := by decide +kernel
theorem d_Mo_setting_12 : decode b_Mo_setting 12 = .ok (.goto 4, 3) := by decide +kernel
theorem d_Mo_setting_15 : decode b_Mo_setting 15 = .ok (.iconst 0, 1) := by decide +kernel
theorem d_Mo_setting_16 : decode b_Mo_setting 16 = .ok (.putfield 72, 3) := by decide +kernel
theorem d_Mo_setting_19 : decode b_Mo_setting 19 = .ok (.aload_n 0, 1) := by decide +kernel
theorem d_Mo_setting_20 : decode b_Mo_setting 20 = .ok (.getfield 72, 3) := by decide +kernel
theorem d_Mo_setting_23 : decode b_Mo_setting 23 = .ok (.ifCond .le 5, 3) := by decide +kernel
theorem d_Mo_setting_26 : decode b_Mo_setting 26 = .ok (.iconst 0, 1) := by decide +kernel
theorem d_Mo_setting_27 : decode b_Mo_setting 27 = .ok (.ireturn, 1) := by decide +kernel
theorem d_Mo_setting_28 : decode b_Mo_setting 28 = .ok (.iload_n 1, 1) := by decide +kernel
theorem d_Mo_setting_29 : decode b_Mo_setting 29 = .ok (.tableswitch 111 0 9 #[55, 60, 65, 70, 75, 80, 85, 90, 97, 104], 55) := by decide +kernel
theorem d_Mo_setting_84 : decode b_Mo_setting 84 = .ok (.aload_n 0, 1) := by decide +kernel
theorem d_Mo_setting_85 : decode b_Mo_setting 85 = .ok (.getfield 57, 3) := by decide +kernel
theorem d_Mo_setting_88 : decode b_Mo_setting 88 = .ok (.ireturn, 1) := by decide +kernel
theorem d_Mo_setting_89 : decode b_Mo_setting 89 = .ok (.aload_n 0, 1) := by decide +kernel
theorem d_Mo_setting_90 : decode b_Mo_setting 90 = .ok (.getfield 66, 3) := by decide +kernel
theorem d_Mo_setting_93 : decode b_Mo_setting 93 = .ok (.ireturn, 1) := by decide +kernel
theorem d_Mo_setting_94 : decode b_Mo_setting 94 = .ok (.aload_n 0, 1) := by decide +kernel
theorem d_Mo_setting_95 : decode b_Mo_setting 95 = .ok (.getfield 60, 3) := by decide +kernel
theorem d_Mo_setting_98 : decode b_Mo_setting 98 = .ok (.ireturn, 1) := by decide +kernel
theorem d_Mo_setting_99 : decode b_Mo_setting 99 = .ok (.aload_n 0, 1) := by decide +kernel
theorem d_Mo_setting_100 : decode b_Mo_setting 100 = .ok (.getfield 75, 3) := by decide +kernel
theorem d_Mo_setting_103 : decode b_Mo_setting 103 = .ok (.ireturn, 1) := by decide +kernel
theorem d_Mo_setting_104 : decode b_Mo_setting 104 = .ok (.aload_n 0, 1) := by decide +kernel
theorem d_Mo_setting_105 : decode b_Mo_setting 105 = .ok (.getfield 78, 3) := by decide +kernel
theorem d_Mo_setting_108 : decode b_Mo_setting 108 = .ok (.ireturn, 1) := by decide +kernel
theorem d_Mo_setting_109 : decode b_Mo_setting 109 = .ok (.aload_n 0, 1) := by decide +kernel
theorem d_Mo_setting_110 : decode b_Mo_setting 110 = .ok (.getfield 81, 3) := by decide +kernel
theorem d_Mo_setting_113 : decode b_Mo_setting 113 = .ok (.ireturn, 1) := by decide +kernel
theorem d_Mo_setting_114 : decode b_Mo_setting 114 = .ok (.aload_n 0, 1) := by decide +kernel
theorem d_Mo_setting_115 : decode b_Mo_setting 115 = .ok (.getfield 7, 3) := by decide +kernel
theorem d_Mo_setting_118 : decode b_Mo_setting 118 = .ok (.ireturn, 1) := by decide +kernel
theorem d_Mo_setting_119 : decode b_Mo_setting 119 = .ok (.aload_n 0, 1) := by decide +kernel
theorem d_Mo_setting_120 : decode b_Mo_setting 120 = .ok (.getfield 24, 3) := by decide +kernel
theorem d_Mo_setting_123 : decode b_Mo_setting 123 = .ok (.iconst 0, 1) := by decide +kernel
theorem d_Mo_setting_124 : decode b_Mo_setting 124 = .ok (.iaload, 1) := by decide +kernel
theorem d_Mo_setting_125 : decode b_Mo_setting 125 = .ok (.ireturn, 1) := by decide +kernel
theorem d_Mo_setting_126 : decode b_Mo_setting 126 = .ok (.aload_n 0, 1) := by decide +kernel
theorem d_Mo_setting_127 : decode b_Mo_setting 127 = .ok (.getfield 27, 3) := by decide +kernel
theorem d_Mo_setting_130 : decode b_Mo_setting 130 = .ok (.iconst 0, 1) := by decide +kernel
theorem d_Mo_setting_131 : decode b_Mo_setting 131 = .ok (.iaload, 1) := by decide +kernel
theorem d_Mo_setting_132 : decode b_Mo_setting 132 = .ok (.ireturn, 1) := by decide +kernel
theorem d_Mo_setting_133 : decode b_Mo_setting 133 = .ok (.aload_n 0, 1) := by decide +kernel
theorem d_Mo_setting_134 : decode b_Mo_setting 134 = .ok (.getfield 24, 3) := by decide +kernel
theorem d_Mo_setting_137 : decode b_Mo_setting 137 = .ok (.iconst 1, 1) := by decide +kernel
theorem d_Mo_setting_138 : decode b_Mo_setting 138 = .ok (.iaload, 1) := by decide +kernel
theorem d_Mo_setting_139 : decode b_Mo_setting 139 = .ok (.ireturn, 1) := by decide +kernel
theorem d_Mo_setting_140 : decode b_Mo_setting 140 = .ok (.aload_n 0, 1) := by decide +kernel
theorem d_Mo_setting_141 : decode b_Mo_setting 141 = .ok (.getfield 27, 3) := by decide +kernel
theorem d_Mo_setting_144 : decode b_Mo_setting 144 = .ok (.iconst 1, 1) := by decide +kernel
theorem d_Mo_setting_145 : decode b_Mo_setting 145 = .ok (.iaload, 1) := by decide +kernel
theorem d_Mo_setting_146 : decode b_Mo_setting 146 = .ok (.ireturn, 1) := by decide +kernel
