theorem d_La_cell_0 : decode b_La_cell 0 = .ok (.iload_n 1, 1) := by decide +kernel
theorem d_La_cell_1 : decode b_La_cell 1 = .ok (.aload_n 0, 1) := by decide +kernel
theorem d_La_cell_2 : decode b_La_cell 2 = .ok (.arraylength, 1) := by decide +kernel
theorem d_La_cell_3 : decode b_La_cell 3 = .ok (.if_icmp .ge 9, 3) := by decide +kernel
theorem d_La_cell_6 : decode b_La_cell 6 = .ok (.aload_n 0, 1) := by decide +kernel
theorem d_La_cell_7 : decode b_La_cell 7 = .ok (.iload_n 1, 1) := by decide +kernel
theorem d_La_cell_8 : decode b_La_cell 8 = .ok (.iaload, 1) := by decide +kernel
theorem d_La_cell_9 : decode b_La_cell 9 = .ok (.goto 4, 3) := by decide +kernel
theorem d_La_cell_12 : decode b_La_cell 12 = .ok (.iconst 0, 1) := by decide +kernel
theorem d_La_cell_13 : decode b_La_cell 13 = .ok (.ireturn, 1) := by decide +kernel
theorem d_La_thresholds_0 : decode b_La_thresholds 0 = .ok (.aload 4, 2) := by decide +kernel
theorem d_La_thresholds_2 : decode b_La_thresholds 2 = .ok (.iconst 0, 1) := by decide +kernel
theorem d_La_thresholds_3 : decode b_La_thresholds 3 = .ok (.aload_n 0, 1) := by decide +kernel
theorem d_La_thresholds_4 : decode b_La_thresholds 4 = .ok (.iload_n 1, 1) := by decide +kernel
theorem d_La_thresholds_5 : decode b_La_thresholds 5 = .ok (.iload_n 2, 1) := by decide +kernel
theorem d_La_thresholds_6 : decode b_La_thresholds 6 = .ok (.iload_n 3, 1) := by decide +kernel
theorem d_La_thresholds_7 : decode b_La_thresholds 7 = .ok (.invokevirtual 7, 3) := by decide +kernel
theorem d_La_thresholds_10 : decode b_La_thresholds 10 = .ok (.ifCond .eq 7, 3) := by decide +kernel
theorem d_La_thresholds_13 : decode b_La_thresholds 13 = .ok (.lconst 1, 1) := by decide +kernel
theorem d_La_thresholds_14 : decode b_La_thresholds 14 = .ok (.goto 4, 3) := by decide +kernel
theorem d_La_thresholds_17 : decode b_La_thresholds 17 = .ok (.lconst 0, 1) := by decide +kernel
theorem d_La_thresholds_18 : decode b_La_thresholds 18 = .ok (.lastore, 1) := by decide +kernel
theorem d_La_thresholds_19 : decode b_La_thresholds 19 = .ok (.goto 7, 3) := by decide +kernel
theorem d_La_thresholds_22 : decode b_La_thresholds 22 = .ok (.astore 5, 2) := by decide +kernel
theorem d_La_thresholds_24 : decode b_La_thresholds 24 = .ok (.iconst 1, 1) := by decide +kernel
theorem d_La_thresholds_25 : decode b_La_thresholds 25 = .ok (.ireturn, 1) := by decide +kernel
theorem d_La_thresholds_26 : decode b_La_thresholds 26 = .ok (.iconst 0, 1) := by decide +kernel
theorem d_La_thresholds_27 : decode b_La_thresholds 27 = .ok (.ireturn, 1) := by decide +kernel
theorem d_La_reset_0 : decode b_La_reset 0 = .ok (.aload_n 2, 1) := by decide +kernel
theorem d_La_reset_1 : decode b_La_reset 1 = .ok (.iconst 0, 1) := by decide +kernel
theorem d_La_reset_2 : decode b_La_reset 2 = .ok (.aload_n 0, 1) := by decide +kernel
theorem d_La_reset_3 : decode b_La_reset 3 = .ok (.iload_n 1, 1) := by decide +kernel
theorem d_La_reset_4 : decode b_La_reset 4 = .ok (.invokevirtual 15, 3) := by decide +kernel
theorem d_La_reset_7 : decode b_La_reset 7 = .ok (.ifCond .eq 7, 3) := by decide +kernel
theorem d_La_reset_10 : decode b_La_reset 10 = .ok (.lconst 1, 1) := by decide +kernel
theorem d_La_reset_11 : decode b_La_reset 11 = .ok (.goto 4, 3) := by decide +kernel
theorem d_La_reset_14 : decode b_La_reset 14 = .ok (.lconst 0, 1) := by decide +kernel
theorem d_La_reset_15 : decode b_La_reset 15 = .ok (.lastore, 1) := by decide +kernel
theorem d_La_reset_16 : decode b_La_reset 16 = .ok (.goto 6, 3) := by decide +kernel
theorem d_La_reset_19 : decode b_La_reset 19 = .ok (.astore_n 3, 1) := by decide +kernel
theorem d_La_reset_20 : decode b_La_reset 20 = .ok (.iconst 1, 1) := by decide +kernel
theorem d_La_reset_21 : decode b_La_reset 21 = .ok (.ireturn, 1) := by decide +kernel
theorem d_La_reset_22 : decode b_La_reset 22 = .ok (.iconst 0, 1) := by decide +kernel
theorem d_La_reset_23 : decode b_La_reset 23 = .ok (.ireturn, 1) := by decide +kernel
theorem d_La_sample_0 : decode b_La_sample 0 = .ok (.aload_n 3, 1) := by decide +kernel
theorem d_La_sample_1 : decode b_La_sample 1 = .ok (.iconst 0, 1) := by decide +kernel
theorem d_La_sample_2 : decode b_La_sample 2 = .ok (.aload_n 0, 1) := by decide +kernel
theorem d_La_sample_3 : decode b_La_sample 3 = .ok (.iload_n 1, 1) := by decide +kernel
theorem d_La_sample_4 : decode b_La_sample 4 = .ok (.iload_n 2, 1) := by decide +kernel
theorem d_La_sample_5 : decode b_La_sample 5 = .ok (.invokevirtual 19, 3) := by decide +kernel
theorem d_La_sample_8 : decode b_La_sample 8 = .ok (.i2l, 1) := by decide +kernel
theorem d_La_sample_9 : decode b_La_sample 9 = .ok (.lastore, 1) := by decide +kernel
theorem d_La_sample_10 : decode b_La_sample 10 = .ok (.goto 11, 3) := by decide +kernel
theorem d_La_sample_13 : decode b_La_sample 13 = .ok (.astore 4, 2) := by decide +kernel
theorem d_La_sample_15 : decode b_La_sample 15 = .ok (.iconst 1, 1) := by decide +kernel
theorem d_La_sample_16 : decode b_La_sample 16 = .ok (.ireturn, 1) := by decide +kernel
theorem d_La_sample_17 : decode b_La_sample 17 = .ok (.astore 4, 2) := by decide +kernel
theorem d_La_sample_19 : decode b_La_sample 19 = .ok (.iconst 2, 1) := by decide +kernel
theorem d_La_sample_20 : decode b_La_sample 20 = .ok (.ireturn, 1) := by decide +kernel
theorem d_La_sample_21 : decode b_La_sample 21 = .ok (.iconst 0, 1) := by decide +kernel
theorem d_La_sample_22 : decode b_La_sample 22 = .ok (.ireturn, 1) := by decide +kernel
theorem d_La_back_0 : decode b_La_back 0 = .ok (.aload_n 3, 1) := by decide +kernel
theorem d_La_back_1 : decode b_La_back 1 = .ok (.iconst 0, 1) := by decide +kernel
theorem d_La_back_2 : decode b_La_back 2 = .ok (.aload_n 0, 1) := by decide +kernel
theorem d_La_back_3 : decode b_La_back 3 = .ok (.iload_n 1, 1) := by decide +kernel
theorem d_La_back_4 : decode b_La_back 4 = .ok (.iload_n 2, 1) := by decide +kernel
theorem d_La_back_5 : decode b_La_back 5 = .ok (.invokevirtual 25, 3) := by decide +kernel
theorem d_La_back_8 : decode b_La_back 8 = .ok (.i2l, 1) := by decide +kernel
theorem d_La_back_9 : decode b_La_back 9 = .ok (.lastore, 1) := by decide +kernel
theorem d_La_back_10 : decode b_La_back 10 = .ok (.goto 11, 3) := by decide +kernel
theorem d_La_back_13 : decode b_La_back 13 = .ok (.astore 4, 2) := by decide +kernel
theorem d_La_back_15 : decode b_La_back 15 = .ok (.iconst 1, 1) := by decide +kernel
theorem d_La_back_16 : decode b_La_back 16 = .ok (.ireturn, 1) := by decide +kernel
theorem d_La_back_17 : decode b_La_back 17 = .ok (.astore 4, 2) := by decide +kernel
theorem d_La_back_19 : decode b_La_back 19 = .ok (.iconst 2, 1) := by decide +kernel
theorem d_La_back_20 : decode b_La_back 20 = .ok (.ireturn, 1) := by decide +kernel
theorem d_La_back_21 : decode b_La_back 21 = .ok (.iconst 0, 1) := by decide +kernel
theorem d_La_back_22 : decode b_La_back 22 = .ok (.ireturn, 1) := by decide +kernel
theorem d_La_neighbour_0 : decode b_La_neighbour 0 = .ok (.aload_n 2, 1) := by decide +kernel
theorem d_La_neighbour_1 : decode b_La_neighbour 1 = .ok (.iconst 0, 1) := by decide +kernel
theorem d_La_neighbour_2 : decode b_La_neighbour 2 = .ok (.aload_n 0, 1) := by decide +kernel
theorem d_La_neighbour_3 : decode b_La_neighbour 3 = .ok (.iload_n 1, 1) := by decide +kernel
theorem d_La_neighbour_4 : decode b_La_neighbour 4 = .ok (.invokevirtual 28, 3) := by decide +kernel
theorem d_La_neighbour_7 : decode b_La_neighbour 7 = .ok (.i2l, 1) := by decide +kernel
theorem d_La_neighbour_8 : decode b_La_neighbour 8 = .ok (.lastore, 1) := by decide +kernel
theorem d_La_neighbour_9 : decode b_La_neighbour 9 = .ok (.goto 6, 3) := by decide +kernel
theorem d_La_neighbour_12 : decode b_La_neighbour 12 = .ok (.astore_n 3, 1) := by decide +kernel
theorem d_La_neighbour_13 : decode b_La_neighbour 13 = .ok (.iconst 1, 1) := by decide +kernel
theorem d_La_neighbour_14 : decode b_La_neighbour 14 = .ok (.ireturn, 1) := by decide +kernel
theorem d_La_neighbour_15 : decode b_La_neighbour 15 = .ok (.iconst 0, 1) := by decide +kernel
theorem d_La_neighbour_16 : decode b_La_neighbour 16 = .ok (.ireturn, 1) := by decide +kernel
theorem d_La_state_0 : decode b_La_state 0 = .ok (.aload 4, 2) := by decide +kernel
theorem d_La_state_2 : decode b_La_state 2 = .ok (.iconst 0, 1) := by decide +kernel
theorem d_La_state_3 : decode b_La_state 3 = .ok (.aload_n 0, 1) := by decide +kernel
theorem d_La_state_4 : decode b_La_state 4 = .ok (.iload_n 1, 1) := by decide +kernel
theorem d_La_state_5 : decode b_La_state 5 = .ok (.iload_n 2, 1) := by decide +kernel
theorem d_La_state_6 : decode b_La_state 6 = .ok (.iload_n 3, 1) := by decide +kernel
theorem d_La_state_7 : decode b_La_state 7 = .ok (.invokevirtual 34, 3) := by decide +kernel
theorem d_La_state_10 : decode b_La_state 10 = .ok (.i2l, 1) := by decide +kernel
theorem d_La_state_11 : decode b_La_state 11 = .ok (.lastore, 1) := by decide +kernel
theorem d_La_state_12 : decode b_La_state 12 = .ok (.goto 7, 3) := by decide +kernel
theorem d_La_state_15 : decode b_La_state 15 = .ok (.astore 5, 2) := by decide +kernel
theorem d_La_state_17 : decode b_La_state 17 = .ok (.iconst 1, 1) := by decide +kernel
theorem d_La_state_18 : decode b_La_state 18 = .ok (.ireturn, 1) := by decide +kernel
theorem d_La_state_19 : decode b_La_state 19 = .ok (.iconst 0, 1) := by decide +kernel
theorem d_La_state_20 : decode b_La_state 20 = .ok (.ireturn, 1) := by decide +kernel
theorem d_La_quantised_0 : decode b_La_quantised 0 = .ok (.aload_n 2, 1) := by decide +kernel
theorem d_La_quantised_1 : decode b_La_quantised 1 = .ok (.iconst 0, 1) := by decide +kernel
theorem d_La_quantised_2 : decode b_La_quantised 2 = .ok (.aload_n 0, 1) := by decide +kernel
theorem d_La_quantised_3 : decode b_La_quantised 3 = .ok (.iload_n 1, 1) := by decide +kernel
theorem d_La_quantised_4 : decode b_La_quantised 4 = .ok (.invokevirtual 38, 3) := by decide +kernel
theorem d_La_quantised_7 : decode b_La_quantised 7 = .ok (.i2l, 1) := by decide +kernel
theorem d_La_quantised_8 : decode b_La_quantised 8 = .ok (.lastore, 1) := by decide +kernel
theorem d_La_quantised_9 : decode b_La_quantised 9 = .ok (.goto 6, 3) := by decide +kernel
theorem d_La_quantised_12 : decode b_La_quantised 12 = .ok (.astore_n 3, 1) := by decide +kernel
theorem d_La_quantised_13 : decode b_La_quantised 13 = .ok (.iconst 1, 1) := by decide +kernel
theorem d_La_quantised_14 : decode b_La_quantised 14 = .ok (.ireturn, 1) := by decide +kernel
theorem d_La_quantised_15 : decode b_La_quantised 15 = .ok (.iconst 0, 1) := by decide +kernel
theorem d_La_quantised_16 : decode b_La_quantised 16 = .ok (.ireturn, 1) := by decide +kernel
theorem d_La_setting_0 : decode b_La_setting 0 = .ok (.aload_n 2, 1) := by decide +kernel
theorem d_La_setting_1 : decode b_La_setting 1 = .ok (.iconst 0, 1) := by decide +kernel
theorem d_La_setting_2 : decode b_La_setting 2 = .ok (.aload_n 0, 1) := by decide +kernel
theorem d_La_setting_3 : decode b_La_setting 3 = .ok (.iload_n 1, 1) := by decide +kernel
theorem d_La_setting_4 : decode b_La_setting 4 = .ok (.invokevirtual 41, 3) := by decide +kernel
theorem d_La_setting_7 : decode b_La_setting 7 = .ok (.i2l, 1) := by decide +kernel
theorem d_La_setting_8 : decode b_La_setting 8 = .ok (.lastore, 1) := by decide +kernel
theorem d_La_setting_9 : decode b_La_setting 9 = .ok (.goto 6, 3) := by decide +kernel
theorem d_La_setting_12 : decode b_La_setting 12 = .ok (.astore_n 3, 1) := by decide +kernel
theorem d_La_setting_13 : decode b_La_setting 13 = .ok (.iconst 1, 1) := by decide +kernel
theorem d_La_setting_14 : decode b_La_setting 14 = .ok (.ireturn, 1) := by decide +kernel
theorem d_La_setting_15 : decode b_La_setting 15 = .ok (.iconst 0, 1) := by decide +kernel
theorem d_La_setting_16 : decode b_La_setting 16 = .ok (.ireturn, 1) := by decide +kernel
theorem d_La_law_0 : decode code 0 = .ok (.new 8, 3) := by decide +kernel
theorem d_La_law_3 : decode code 3 = .ok (.dup, 1) := by decide +kernel
theorem d_La_law_4 : decode code 4 = .ok (.aload_n 0, 1) := by decide +kernel
theorem d_La_law_5 : decode code 5 = .ok (.iconst 0, 1) := by decide +kernel
theorem d_La_law_6 : decode code 6 = .ok (.invokestatic 44, 3) := by decide +kernel
theorem d_La_law_9 : decode code 9 = .ok (.aload_n 0, 1) := by decide +kernel
theorem d_La_law_10 : decode code 10 = .ok (.iconst 1, 1) := by decide +kernel
theorem d_La_law_11 : decode code 11 = .ok (.invokestatic 44, 3) := by decide +kernel
theorem d_La_law_14 : decode code 14 = .ok (.aload_n 0, 1) := by decide +kernel
theorem d_La_law_15 : decode code 15 = .ok (.iconst 2, 1) := by decide +kernel
theorem d_La_law_16 : decode code 16 = .ok (.invokestatic 44, 3) := by decide +kernel
theorem d_La_law_19 : decode code 19 = .ok (.invokespecial 50, 3) := by decide +kernel
theorem d_La_law_22 : decode code 22 = .ok (.astore_n 1, 1) := by decide +kernel
theorem d_La_law_23 : decode code 23 = .ok (.new 53, 3) := by decide +kernel
theorem d_La_law_26 : decode code 26 = .ok (.dup, 1) := by decide +kernel
theorem d_La_law_27 : decode code 27 = .ok (.aload_n 0, 1) := by decide +kernel
theorem d_La_law_28 : decode code 28 = .ok (.iconst 0, 1) := by decide +kernel
theorem d_La_law_29 : decode code 29 = .ok (.invokestatic 44, 3) := by decide +kernel
theorem d_La_law_32 : decode code 32 = .ok (.aload_n 0, 1) := by decide +kernel
theorem d_La_law_33 : decode code 33 = .ok (.iconst 1, 1) := by decide +kernel
theorem d_La_law_34 : decode code 34 = .ok (.invokestatic 44, 3) := by decide +kernel
theorem d_La_law_37 : decode code 37 = .ok (.aload_n 0, 1) := by decide +kernel
theorem d_La_law_38 : decode code 38 = .ok (.iconst 2, 1) := by decide +kernel
theorem d_La_law_39 : decode code 39 = .ok (.invokestatic 44, 3) := by decide +kernel
theorem d_La_law_42 : decode code 42 = .ok (.invokespecial 55, 3) := by decide +kernel
theorem d_La_law_45 : decode code 45 = .ok (.astore_n 2, 1) := by decide +kernel
theorem d_La_law_46 : decode code 46 = .ok (.iconst 1, 1) := by decide +kernel
theorem d_La_law_47 : decode code 47 = .ok (.newarray .long, 2) := by decide +kernel
theorem d_La_law_49 : decode code 49 = .ok (.astore_n 3, 1) := by decide +kernel
theorem d_La_law_50 : decode code 50 = .ok (.iconst 3, 1) := by decide +kernel
theorem d_La_law_51 : decode code 51 = .ok (.istore 4, 2) := by decide +kernel
theorem d_La_law_53 : decode code 53 = .ok (.iload 4, 2) := by decide +kernel
theorem d_La_law_55 : decode code 55 = .ok (.aload_n 0, 1) := by decide +kernel
theorem d_La_law_56 : decode code 56 = .ok (.arraylength, 1) := by decide +kernel
theorem d_La_law_57 : decode code 57 = .ok (.iconst 4, 1) := by decide +kernel
theorem d_La_law_58 : decode code 58 = .ok (.isub, 1) := by decide +kernel
theorem d_La_law_59 : decode code 59 = .ok (.if_icmp .gt 665, 3) := by decide +kernel
theorem d_La_law_62 : decode code 62 = .ok (.aload_n 0, 1) := by decide +kernel
theorem d_La_law_63 : decode code 63 = .ok (.iload 4, 2) := by decide +kernel
theorem d_La_law_65 : decode code 65 = .ok (.iaload, 1) := by decide +kernel
theorem d_La_law_66 : decode code 66 = .ok (.bipush 15, 2) := by decide +kernel
theorem d_La_law_68 : decode code 68 = .ok (.iand, 1) := by decide +kernel
theorem d_La_law_69 : decode code 69 = .ok (.tableswitch 649 0 11 #[63, 150, 213, 281, 349, 362, 375, 388, 444, 524, 537, 593], 63) := by decide +kernel
theorem d_La_law_132 : decode code 132 = .ok (.aload_n 1, 1) := by decide +kernel
theorem d_La_law_133 : decode code 133 = .ok (.aload_n 0, 1) := by decide +kernel
theorem d_La_law_134 : decode code 134 = .ok (.iload 4, 2) := by decide +kernel
theorem d_La_law_136 : decode code 136 = .ok (.iconst 1, 1) := by decide +kernel
theorem d_La_law_137 : decode code 137 = .ok (.iadd, 1) := by decide +kernel
theorem d_La_law_138 : decode code 138 = .ok (.iaload, 1) := by decide +kernel
theorem d_La_law_139 : decode code 139 = .ok (.aload_n 0, 1) := by decide +kernel
theorem d_La_law_140 : decode code 140 = .ok (.iload 4, 2) := by decide +kernel
theorem d_La_law_142 : decode code 142 = .ok (.iconst 2, 1) := by decide +kernel
theorem d_La_law_143 : decode code 143 = .ok (.iadd, 1) := by decide +kernel
theorem d_La_law_144 : decode code 144 = .ok (.iaload, 1) := by decide +kernel
theorem d_La_law_145 : decode code 145 = .ok (.aload_n 0, 1) := by decide +kernel
theorem d_La_law_146 : decode code 146 = .ok (.iload 4, 2) := by decide +kernel
theorem d_La_law_148 : decode code 148 = .ok (.iconst 3, 1) := by decide +kernel
theorem d_La_law_149 : decode code 149 = .ok (.iadd, 1) := by decide +kernel
theorem d_La_law_150 : decode code 150 = .ok (.iaload, 1) := by decide +kernel
theorem d_La_law_151 : decode code 151 = .ok (.aload_n 3, 1) := by decide +kernel
theorem d_La_law_152 : decode code 152 = .ok (.invokestatic 56, 3) := by decide +kernel
theorem d_La_law_155 : decode code 155 = .ok (.istore 5, 2) := by decide +kernel
theorem d_La_law_157 : decode code 157 = .ok (.aload_n 2, 1) := by decide +kernel
theorem d_La_law_158 : decode code 158 = .ok (.aload_n 0, 1) := by decide +kernel
theorem d_La_law_159 : decode code 159 = .ok (.iload 4, 2) := by decide +kernel
theorem d_La_law_161 : decode code 161 = .ok (.iconst 1, 1) := by decide +kernel
theorem d_La_law_162 : decode code 162 = .ok (.iadd, 1) := by decide +kernel
theorem d_La_law_163 : decode code 163 = .ok (.iaload, 1) := by decide +kernel
theorem d_La_law_164 : decode code 164 = .ok (.aload_n 0, 1) := by decide +kernel
theorem d_La_law_165 : decode code 165 = .ok (.iload 4, 2) := by decide +kernel
theorem d_La_law_167 : decode code 167 = .ok (.iconst 2, 1) := by decide +kernel
theorem d_La_law_168 : decode code 168 = .ok (.iadd, 1) := by decide +kernel
theorem d_La_law_169 : decode code 169 = .ok (.iaload, 1) := by decide +kernel
theorem d_La_law_170 : decode code 170 = .ok (.aload_n 0, 1) := by decide +kernel
theorem d_La_law_171 : decode code 171 = .ok (.iload 4, 2) := by decide +kernel
theorem d_La_law_173 : decode code 173 = .ok (.iconst 3, 1) := by decide +kernel
theorem d_La_law_174 : decode code 174 = .ok (.iadd, 1) := by decide +kernel
theorem d_La_law_175 : decode code 175 = .ok (.iaload, 1) := by decide +kernel
theorem d_La_law_176 : decode code 176 = .ok (.invokevirtual 59, 3) := by decide +kernel
theorem d_La_law_179 : decode code 179 = .ok (.istore 6, 2) := by decide +kernel
theorem d_La_law_181 : decode code 181 = .ok (.aload_n 2, 1) := by decide +kernel
theorem d_La_law_182 : decode code 182 = .ok (.invokevirtual 60, 3) := by decide +kernel
theorem d_La_law_185 : decode code 185 = .ok (.iload 5, 2) := by decide +kernel
theorem d_La_law_187 : decode code 187 = .ok (.if_icmp .eq 5, 3) := by decide +kernel
theorem d_La_law_190 : decode code 190 = .ok (.iconst 0, 1) := by decide +kernel
theorem d_La_law_191 : decode code 191 = .ok (.ireturn, 1) := by decide +kernel
theorem d_La_law_192 : decode code 192 = .ok (.iload 5, 2) := by decide +kernel
theorem d_La_law_194 : decode code 194 = .ok (.ifCond .ne 22, 3) := by decide +kernel
theorem d_La_law_197 : decode code 197 = .ok (.aload_n 3, 1) := by decide +kernel
theorem d_La_law_198 : decode code 198 = .ok (.iconst 0, 1) := by decide +kernel
theorem d_La_law_199 : decode code 199 = .ok (.laload, 1) := by decide +kernel
theorem d_La_law_200 : decode code 200 = .ok (.iload 6, 2) := by decide +kernel
theorem d_La_law_202 : decode code 202 = .ok (.ifCond .eq 7, 3) := by decide +kernel
theorem d_La_law_205 : decode code 205 = .ok (.lconst 1, 1) := by decide +kernel
theorem d_La_law_206 : decode code 206 = .ok (.goto 4, 3) := by decide +kernel
theorem d_La_law_209 : decode code 209 = .ok (.lconst 0, 1) := by decide +kernel
theorem d_La_law_210 : decode code 210 = .ok (.lcmp, 1) := by decide +kernel
theorem d_La_law_211 : decode code 211 = .ok (.ifCond .eq 5, 3) := by decide +kernel
theorem d_La_law_214 : decode code 214 = .ok (.iconst 0, 1) := by decide +kernel
theorem d_La_law_215 : decode code 215 = .ok (.ireturn, 1) := by decide +kernel
theorem d_La_law_216 : decode code 216 = .ok (.goto 502, 3) := by decide +kernel
theorem d_La_law_219 : decode code 219 = .ok (.aload_n 1, 1) := by decide +kernel
theorem d_La_law_220 : decode code 220 = .ok (.aload_n 0, 1) := by decide +kernel
theorem d_La_law_221 : decode code 221 = .ok (.iload 4, 2) := by decide +kernel
theorem d_La_law_223 : decode code 223 = .ok (.iconst 1, 1) := by decide +kernel
theorem d_La_law_224 : decode code 224 = .ok (.iadd, 1) := by decide +kernel
theorem d_La_law_225 : decode code 225 = .ok (.iaload, 1) := by decide +kernel
theorem d_La_law_226 : decode code 226 = .ok (.aload_n 3, 1) := by decide +kernel
theorem d_La_law_227 : decode code 227 = .ok (.invokestatic 64, 3) := by decide +kernel
theorem d_La_law_230 : decode code 230 = .ok (.istore 5, 2) := by decide +kernel
theorem d_La_law_232 : decode code 232 = .ok (.aload_n 2, 1) := by decide +kernel
theorem d_La_law_233 : decode code 233 = .ok (.aload_n 0, 1) := by decide +kernel
theorem d_La_law_234 : decode code 234 = .ok (.iload 4, 2) := by decide +kernel
theorem d_La_law_236 : decode code 236 = .ok (.iconst 1, 1) := by decide +kernel
theorem d_La_law_237 : decode code 237 = .ok (.iadd, 1) := by decide +kernel
theorem d_La_law_238 : decode code 238 = .ok (.iaload, 1) := by decide +kernel
theorem d_La_law_239 : decode code 239 = .ok (.invokevirtual 67, 3) := by decide +kernel
theorem d_La_law_242 : decode code 242 = .ok (.istore 6, 2) := by decide +kernel
theorem d_La_law_244 : decode code 244 = .ok (.aload_n 2, 1) := by decide +kernel
theorem d_La_law_245 : decode code 245 = .ok (.invokevirtual 60, 3) := by decide +kernel
theorem d_La_law_248 : decode code 248 = .ok (.iload 5, 2) := by decide +kernel
theorem d_La_law_250 : decode code 250 = .ok (.if_icmp .eq 5, 3) := by decide +kernel
theorem d_La_law_253 : decode code 253 = .ok (.iconst 0, 1) := by decide +kernel
theorem d_La_law_254 : decode code 254 = .ok (.ireturn, 1) := by decide +kernel
theorem d_La_law_255 : decode code 255 = .ok (.iload 5, 2) := by decide +kernel
theorem d_La_law_257 : decode code 257 = .ok (.ifCond .ne 22, 3) := by decide +kernel
theorem d_La_law_260 : decode code 260 = .ok (.aload_n 3, 1) := by decide +kernel
theorem d_La_law_261 : decode code 261 = .ok (.iconst 0, 1) := by decide +kernel
theorem d_La_law_262 : decode code 262 = .ok (.laload, 1) := by decide +kernel
theorem d_La_law_263 : decode code 263 = .ok (.iload 6, 2) := by decide +kernel
theorem d_La_law_265 : decode code 265 = .ok (.ifCond .eq 7, 3) := by decide +kernel
theorem d_La_law_268 : decode code 268 = .ok (.lconst 1, 1) := by decide +kernel
theorem d_La_law_269 : decode code 269 = .ok (.goto 4, 3) := by decide +kernel
theorem d_La_law_272 : decode code 272 = .ok (.lconst 0, 1) := by decide +kernel
theorem d_La_law_273 : decode code 273 = .ok (.lcmp, 1) := by decide +kernel
theorem d_La_law_274 : decode code 274 = .ok (.ifCond .eq 5, 3) := by decide +kernel
theorem d_La_law_277 : decode code 277 = .ok (.iconst 0, 1) := by decide +kernel
theorem d_La_law_278 : decode code 278 = .ok (.ireturn, 1) := by decide +kernel
theorem d_La_law_279 : decode code 279 = .ok (.goto 439, 3) := by decide +kernel
theorem d_La_law_282 : decode code 282 = .ok (.aload_n 1, 1) := by decide +kernel
theorem d_La_law_283 : decode code 283 = .ok (.aload_n 0, 1) := by decide +kernel
theorem d_La_law_284 : decode code 284 = .ok (.iload 4, 2) := by decide +kernel
theorem d_La_law_286 : decode code 286 = .ok (.iconst 1, 1) := by decide +kernel
theorem d_La_law_287 : decode code 287 = .ok (.iadd, 1) := by decide +kernel
theorem d_La_law_288 : decode code 288 = .ok (.iaload, 1) := by decide +kernel
theorem d_La_law_289 : decode code 289 = .ok (.aload_n 0, 1) := by decide +kernel
theorem d_La_law_290 : decode code 290 = .ok (.iload 4, 2) := by decide +kernel
theorem d_La_law_292 : decode code 292 = .ok (.iconst 2, 1) := by decide +kernel
theorem d_La_law_293 : decode code 293 = .ok (.iadd, 1) := by decide +kernel
theorem d_La_law_294 : decode code 294 = .ok (.iaload, 1) := by decide +kernel
theorem d_La_law_295 : decode code 295 = .ok (.aload_n 3, 1) := by decide +kernel
theorem d_La_law_296 : decode code 296 = .ok (.invokestatic 68, 3) := by decide +kernel
theorem d_La_law_299 : decode code 299 = .ok (.istore 5, 2) := by decide +kernel
theorem d_La_law_301 : decode code 301 = .ok (.aload_n 2, 1) := by decide +kernel
theorem d_La_law_302 : decode code 302 = .ok (.aload_n 0, 1) := by decide +kernel
theorem d_La_law_303 : decode code 303 = .ok (.iload 4, 2) := by decide +kernel
theorem d_La_law_305 : decode code 305 = .ok (.iconst 1, 1) := by decide +kernel
theorem d_La_law_306 : decode code 306 = .ok (.iadd, 1) := by decide +kernel
theorem d_La_law_307 : decode code 307 = .ok (.iaload, 1) := by decide +kernel
theorem d_La_law_308 : decode code 308 = .ok (.aload_n 0, 1) := by decide +kernel
theorem d_La_law_309 : decode code 309 = .ok (.iload 4, 2) := by decide +kernel
theorem d_La_law_311 : decode code 311 = .ok (.iconst 2, 1) := by decide +kernel
theorem d_La_law_312 : decode code 312 = .ok (.iadd, 1) := by decide +kernel
theorem d_La_law_313 : decode code 313 = .ok (.iaload, 1) := by decide +kernel
theorem d_La_law_314 : decode code 314 = .ok (.invokevirtual 71, 3) := by decide +kernel
theorem d_La_law_317 : decode code 317 = .ok (.istore 6, 2) := by decide +kernel
theorem d_La_law_319 : decode code 319 = .ok (.aload_n 2, 1) := by decide +kernel
theorem d_La_law_320 : decode code 320 = .ok (.invokevirtual 60, 3) := by decide +kernel
theorem d_La_law_323 : decode code 323 = .ok (.iload 5, 2) := by decide +kernel
theorem d_La_law_325 : decode code 325 = .ok (.if_icmp .eq 5, 3) := by decide +kernel
theorem d_La_law_328 : decode code 328 = .ok (.iconst 0, 1) := by decide +kernel
theorem d_La_law_329 : decode code 329 = .ok (.ireturn, 1) := by decide +kernel
theorem d_La_law_330 : decode code 330 = .ok (.iload 5, 2) := by decide +kernel
theorem d_La_law_332 : decode code 332 = .ok (.ifCond .ne 15, 3) := by decide +kernel
theorem d_La_law_335 : decode code 335 = .ok (.aload_n 3, 1) := by decide +kernel
theorem d_La_law_336 : decode code 336 = .ok (.iconst 0, 1) := by decide +kernel
theorem d_La_law_337 : decode code 337 = .ok (.laload, 1) := by decide +kernel
theorem d_La_law_338 : decode code 338 = .ok (.iload 6, 2) := by decide +kernel
theorem d_La_law_340 : decode code 340 = .ok (.i2l, 1) := by decide +kernel
theorem d_La_law_341 : decode code 341 = .ok (.lcmp, 1) := by decide +kernel
theorem d_La_law_342 : decode code 342 = .ok (.ifCond .eq 5, 3) := by decide +kernel
theorem d_La_law_345 : decode code 345 = .ok (.iconst 0, 1) := by decide +kernel
theorem d_La_law_346 : decode code 346 = .ok (.ireturn, 1) := by decide +kernel
theorem d_La_law_347 : decode code 347 = .ok (.goto 371, 3) := by decide +kernel
theorem d_La_law_350 : decode code 350 = .ok (.aload_n 1, 1) := by decide +kernel
theorem d_La_law_351 : decode code 351 = .ok (.aload_n 0, 1) := by decide +kernel
theorem d_La_law_352 : decode code 352 = .ok (.iload 4, 2) := by decide +kernel
theorem d_La_law_354 : decode code 354 = .ok (.iconst 1, 1) := by decide +kernel
theorem d_La_law_355 : decode code 355 = .ok (.iadd, 1) := by decide +kernel
theorem d_La_law_356 : decode code 356 = .ok (.iaload, 1) := by decide +kernel
theorem d_La_law_357 : decode code 357 = .ok (.aload_n 0, 1) := by decide +kernel
theorem d_La_law_358 : decode code 358 = .ok (.iload 4, 2) := by decide +kernel
theorem d_La_law_360 : decode code 360 = .ok (.iconst 2, 1) := by decide +kernel
theorem d_La_law_361 : decode code 361 = .ok (.iadd, 1) := by decide +kernel
theorem d_La_law_362 : decode code 362 = .ok (.iaload, 1) := by decide +kernel
theorem d_La_law_363 : decode code 363 = .ok (.aload_n 3, 1) := by decide +kernel
theorem d_La_law_364 : decode code 364 = .ok (.invokestatic 72, 3) := by decide +kernel
theorem d_La_law_367 : decode code 367 = .ok (.istore 5, 2) := by decide +kernel
theorem d_La_law_369 : decode code 369 = .ok (.aload_n 2, 1) := by decide +kernel
theorem d_La_law_370 : decode code 370 = .ok (.aload_n 0, 1) := by decide +kernel
theorem d_La_law_371 : decode code 371 = .ok (.iload 4, 2) := by decide +kernel
theorem d_La_law_373 : decode code 373 = .ok (.iconst 1, 1) := by decide +kernel
theorem d_La_law_374 : decode code 374 = .ok (.iadd, 1) := by decide +kernel
theorem d_La_law_375 : decode code 375 = .ok (.iaload, 1) := by decide +kernel
theorem d_La_law_376 : decode code 376 = .ok (.aload_n 0, 1) := by decide +kernel
theorem d_La_law_377 : decode code 377 = .ok (.iload 4, 2) := by decide +kernel
theorem d_La_law_379 : decode code 379 = .ok (.iconst 2, 1) := by decide +kernel
theorem d_La_law_380 : decode code 380 = .ok (.iadd, 1) := by decide +kernel
theorem d_La_law_381 : decode code 381 = .ok (.iaload, 1) := by decide +kernel
theorem d_La_law_382 : decode code 382 = .ok (.invokevirtual 74, 3) := by decide +kernel
theorem d_La_law_385 : decode code 385 = .ok (.istore 6, 2) := by decide +kernel
theorem d_La_law_387 : decode code 387 = .ok (.aload_n 2, 1) := by decide +kernel
theorem d_La_law_388 : decode code 388 = .ok (.invokevirtual 60, 3) := by decide +kernel
theorem d_La_law_391 : decode code 391 = .ok (.iload 5, 2) := by decide +kernel
theorem d_La_law_393 : decode code 393 = .ok (.if_icmp .eq 5, 3) := by decide +kernel
theorem d_La_law_396 : decode code 396 = .ok (.iconst 0, 1) := by decide +kernel
theorem d_La_law_397 : decode code 397 = .ok (.ireturn, 1) := by decide +kernel
theorem d_La_law_398 : decode code 398 = .ok (.iload 5, 2) := by decide +kernel
theorem d_La_law_400 : decode code 400 = .ok (.ifCond .ne 15, 3) := by decide +kernel
theorem d_La_law_403 : decode code 403 = .ok (.aload_n 3, 1) := by decide +kernel
theorem d_La_law_404 : decode code 404 = .ok (.iconst 0, 1) := by decide +kernel
theorem d_La_law_405 : decode code 405 = .ok (.laload, 1) := by decide +kernel
theorem d_La_law_406 : decode code 406 = .ok (.iload 6, 2) := by decide +kernel
theorem d_La_law_408 : decode code 408 = .ok (.i2l, 1) := by decide +kernel
theorem d_La_law_409 : decode code 409 = .ok (.lcmp, 1) := by decide +kernel
theorem d_La_law_410 : decode code 410 = .ok (.ifCond .eq 5, 3) := by decide +kernel
theorem d_La_law_413 : decode code 413 = .ok (.iconst 0, 1) := by decide +kernel
theorem d_La_law_414 : decode code 414 = .ok (.ireturn, 1) := by decide +kernel
theorem d_La_law_415 : decode code 415 = .ok (.goto 303, 3) := by decide +kernel
theorem d_La_law_418 : decode code 418 = .ok (.aload_n 1, 1) := by decide +kernel
theorem d_La_law_419 : decode code 419 = .ok (.invokevirtual 75, 3) := by decide +kernel
theorem d_La_law_422 : decode code 422 = .ok (.aload_n 2, 1) := by decide +kernel
theorem d_La_law_423 : decode code 423 = .ok (.invokevirtual 79, 3) := by decide +kernel
theorem d_La_law_426 : decode code 426 = .ok (.if_icmp .eq 292, 3) := by decide +kernel
theorem d_La_law_429 : decode code 429 = .ok (.iconst 0, 1) := by decide +kernel
theorem d_La_law_430 : decode code 430 = .ok (.ireturn, 1) := by decide +kernel
theorem d_La_law_431 : decode code 431 = .ok (.aload_n 1, 1) := by decide +kernel
theorem d_La_law_432 : decode code 432 = .ok (.invokevirtual 80, 3) := by decide +kernel
theorem d_La_law_435 : decode code 435 = .ok (.aload_n 2, 1) := by decide +kernel
theorem d_La_law_436 : decode code 436 = .ok (.invokevirtual 83, 3) := by decide +kernel
theorem d_La_law_439 : decode code 439 = .ok (.if_icmp .eq 279, 3) := by decide +kernel
theorem d_La_law_442 : decode code 442 = .ok (.iconst 0, 1) := by decide +kernel
theorem d_La_law_443 : decode code 443 = .ok (.ireturn, 1) := by decide +kernel
theorem d_La_law_444 : decode code 444 = .ok (.aload_n 1, 1) := by decide +kernel
theorem d_La_law_445 : decode code 445 = .ok (.invokevirtual 84, 3) := by decide +kernel
theorem d_La_law_448 : decode code 448 = .ok (.aload_n 2, 1) := by decide +kernel
theorem d_La_law_449 : decode code 449 = .ok (.invokevirtual 87, 3) := by decide +kernel
theorem d_La_law_452 : decode code 452 = .ok (.if_icmp .eq 266, 3) := by decide +kernel
theorem d_La_law_455 : decode code 455 = .ok (.iconst 0, 1) := by decide +kernel
theorem d_La_law_456 : decode code 456 = .ok (.ireturn, 1) := by decide +kernel
theorem d_La_law_457 : decode code 457 = .ok (.aload_n 1, 1) := by decide +kernel
theorem d_La_law_458 : decode code 458 = .ok (.aload_n 0, 1) := by decide +kernel
theorem d_La_law_459 : decode code 459 = .ok (.iload 4, 2) := by decide +kernel
theorem d_La_law_461 : decode code 461 = .ok (.iconst 1, 1) := by decide +kernel
theorem d_La_law_462 : decode code 462 = .ok (.iadd, 1) := by decide +kernel
theorem d_La_law_463 : decode code 463 = .ok (.iaload, 1) := by decide +kernel
theorem d_La_law_464 : decode code 464 = .ok (.aload_n 3, 1) := by decide +kernel
theorem d_La_law_465 : decode code 465 = .ok (.invokestatic 88, 3) := by decide +kernel
theorem d_La_law_468 : decode code 468 = .ok (.istore 5, 2) := by decide +kernel
theorem d_La_law_470 : decode code 470 = .ok (.aload_n 2, 1) := by decide +kernel
theorem d_La_law_471 : decode code 471 = .ok (.aload_n 0, 1) := by decide +kernel
theorem d_La_law_472 : decode code 472 = .ok (.iload 4, 2) := by decide +kernel
theorem d_La_law_474 : decode code 474 = .ok (.iconst 1, 1) := by decide +kernel
theorem d_La_law_475 : decode code 475 = .ok (.iadd, 1) := by decide +kernel
theorem d_La_law_476 : decode code 476 = .ok (.iaload, 1) := by decide +kernel
theorem d_La_law_477 : decode code 477 = .ok (.invokevirtual 90, 3) := by decide +kernel
theorem d_La_law_480 : decode code 480 = .ok (.istore 6, 2) := by decide +kernel
theorem d_La_law_482 : decode code 482 = .ok (.aload_n 2, 1) := by decide +kernel
theorem d_La_law_483 : decode code 483 = .ok (.invokevirtual 60, 3) := by decide +kernel
theorem d_La_law_486 : decode code 486 = .ok (.iload 5, 2) := by decide +kernel
theorem d_La_law_488 : decode code 488 = .ok (.if_icmp .eq 5, 3) := by decide +kernel
theorem d_La_law_491 : decode code 491 = .ok (.iconst 0, 1) := by decide +kernel
theorem d_La_law_492 : decode code 492 = .ok (.ireturn, 1) := by decide +kernel
theorem d_La_law_493 : decode code 493 = .ok (.iload 5, 2) := by decide +kernel
theorem d_La_law_495 : decode code 495 = .ok (.ifCond .ne 15, 3) := by decide +kernel
theorem d_La_law_498 : decode code 498 = .ok (.aload_n 3, 1) := by decide +kernel
theorem d_La_law_499 : decode code 499 = .ok (.iconst 0, 1) := by decide +kernel
theorem d_La_law_500 : decode code 500 = .ok (.laload, 1) := by decide +kernel
theorem d_La_law_501 : decode code 501 = .ok (.iload 6, 2) := by decide +kernel
theorem d_La_law_503 : decode code 503 = .ok (.i2l, 1) := by decide +kernel
theorem d_La_law_504 : decode code 504 = .ok (.lcmp, 1) := by decide +kernel
theorem d_La_law_505 : decode code 505 = .ok (.ifCond .eq 5, 3) := by decide +kernel
theorem d_La_law_508 : decode code 508 = .ok (.iconst 0, 1) := by decide +kernel
theorem d_La_law_509 : decode code 509 = .ok (.ireturn, 1) := by decide +kernel
theorem d_La_law_510 : decode code 510 = .ok (.goto 208, 3) := by decide +kernel
theorem d_La_law_513 : decode code 513 = .ok (.aload_n 1, 1) := by decide +kernel
theorem d_La_law_514 : decode code 514 = .ok (.aload_n 0, 1) := by decide +kernel
theorem d_La_law_515 : decode code 515 = .ok (.iload 4, 2) := by decide +kernel
theorem d_La_law_517 : decode code 517 = .ok (.iconst 1, 1) := by decide +kernel
theorem d_La_law_518 : decode code 518 = .ok (.iadd, 1) := by decide +kernel
theorem d_La_law_519 : decode code 519 = .ok (.iaload, 1) := by decide +kernel
theorem d_La_law_520 : decode code 520 = .ok (.aload_n 0, 1) := by decide +kernel
theorem d_La_law_521 : decode code 521 = .ok (.iload 4, 2) := by decide +kernel
theorem d_La_law_523 : decode code 523 = .ok (.iconst 2, 1) := by decide +kernel
theorem d_La_law_524 : decode code 524 = .ok (.iadd, 1) := by decide +kernel
theorem d_La_law_525 : decode code 525 = .ok (.iaload, 1) := by decide +kernel
theorem d_La_law_526 : decode code 526 = .ok (.aload_n 0, 1) := by decide +kernel
theorem d_La_law_527 : decode code 527 = .ok (.iload 4, 2) := by decide +kernel
theorem d_La_law_529 : decode code 529 = .ok (.iconst 3, 1) := by decide +kernel
theorem d_La_law_530 : decode code 530 = .ok (.iadd, 1) := by decide +kernel
theorem d_La_law_531 : decode code 531 = .ok (.iaload, 1) := by decide +kernel
theorem d_La_law_532 : decode code 532 = .ok (.aload_n 3, 1) := by decide +kernel
theorem d_La_law_533 : decode code 533 = .ok (.invokestatic 91, 3) := by decide +kernel
theorem d_La_law_536 : decode code 536 = .ok (.istore 5, 2) := by decide +kernel
theorem d_La_law_538 : decode code 538 = .ok (.aload_n 2, 1) := by decide +kernel
theorem d_La_law_539 : decode code 539 = .ok (.aload_n 0, 1) := by decide +kernel
theorem d_La_law_540 : decode code 540 = .ok (.iload 4, 2) := by decide +kernel
theorem d_La_law_542 : decode code 542 = .ok (.iconst 1, 1) := by decide +kernel
theorem d_La_law_543 : decode code 543 = .ok (.iadd, 1) := by decide +kernel
theorem d_La_law_544 : decode code 544 = .ok (.iaload, 1) := by decide +kernel
theorem d_La_law_545 : decode code 545 = .ok (.aload_n 0, 1) := by decide +kernel
theorem d_La_law_546 : decode code 546 = .ok (.iload 4, 2) := by decide +kernel
theorem d_La_law_548 : decode code 548 = .ok (.iconst 2, 1) := by decide +kernel
theorem d_La_law_549 : decode code 549 = .ok (.iadd, 1) := by decide +kernel
theorem d_La_law_550 : decode code 550 = .ok (.iaload, 1) := by decide +kernel
theorem d_La_law_551 : decode code 551 = .ok (.aload_n 0, 1) := by decide +kernel
theorem d_La_law_552 : decode code 552 = .ok (.iload 4, 2) := by decide +kernel
theorem d_La_law_554 : decode code 554 = .ok (.iconst 3, 1) := by decide +kernel
theorem d_La_law_555 : decode code 555 = .ok (.iadd, 1) := by decide +kernel
theorem d_La_law_556 : decode code 556 = .ok (.iaload, 1) := by decide +kernel
theorem d_La_law_557 : decode code 557 = .ok (.invokevirtual 93, 3) := by decide +kernel
theorem d_La_law_560 : decode code 560 = .ok (.istore 6, 2) := by decide +kernel
theorem d_La_law_562 : decode code 562 = .ok (.aload_n 2, 1) := by decide +kernel
theorem d_La_law_563 : decode code 563 = .ok (.invokevirtual 60, 3) := by decide +kernel
theorem d_La_law_566 : decode code 566 = .ok (.iload 5, 2) := by decide +kernel
theorem d_La_law_568 : decode code 568 = .ok (.if_icmp .eq 5, 3) := by decide +kernel
theorem d_La_law_571 : decode code 571 = .ok (.iconst 0, 1) := by decide +kernel
theorem d_La_law_572 : decode code 572 = .ok (.ireturn, 1) := by decide +kernel
theorem d_La_law_573 : decode code 573 = .ok (.iload 5, 2) := by decide +kernel
theorem d_La_law_575 : decode code 575 = .ok (.ifCond .ne 15, 3) := by decide +kernel
theorem d_La_law_578 : decode code 578 = .ok (.aload_n 3, 1) := by decide +kernel
theorem d_La_law_579 : decode code 579 = .ok (.iconst 0, 1) := by decide +kernel
theorem d_La_law_580 : decode code 580 = .ok (.laload, 1) := by decide +kernel
theorem d_La_law_581 : decode code 581 = .ok (.iload 6, 2) := by decide +kernel
theorem d_La_law_583 : decode code 583 = .ok (.i2l, 1) := by decide +kernel
theorem d_La_law_584 : decode code 584 = .ok (.lcmp, 1) := by decide +kernel
theorem d_La_law_585 : decode code 585 = .ok (.ifCond .eq 5, 3) := by decide +kernel
theorem d_La_law_588 : decode code 588 = .ok (.iconst 0, 1) := by decide +kernel
theorem d_La_law_589 : decode code 589 = .ok (.ireturn, 1) := by decide +kernel
theorem d_La_law_590 : decode code 590 = .ok (.goto 128, 3) := by decide +kernel
theorem d_La_law_593 : decode code 593 = .ok (.aload_n 1, 1) := by decide +kernel
theorem d_La_law_594 : decode code 594 = .ok (.invokevirtual 94, 3) := by decide +kernel
theorem d_La_law_597 : decode code 597 = .ok (.aload_n 2, 1) := by decide +kernel
theorem d_La_law_598 : decode code 598 = .ok (.invokevirtual 97, 3) := by decide +kernel
theorem d_La_law_601 : decode code 601 = .ok (.if_icmp .eq 117, 3) := by decide +kernel
theorem d_La_law_604 : decode code 604 = .ok (.iconst 0, 1) := by decide +kernel
theorem d_La_law_605 : decode code 605 = .ok (.ireturn, 1) := by decide +kernel
theorem d_La_law_606 : decode code 606 = .ok (.aload_n 1, 1) := by decide +kernel
theorem d_La_law_607 : decode code 607 = .ok (.aload_n 0, 1) := by decide +kernel
theorem d_La_law_608 : decode code 608 = .ok (.iload 4, 2) := by decide +kernel
theorem d_La_law_610 : decode code 610 = .ok (.iconst 1, 1) := by decide +kernel
theorem d_La_law_611 : decode code 611 = .ok (.iadd, 1) := by decide +kernel
theorem d_La_law_612 : decode code 612 = .ok (.iaload, 1) := by decide +kernel
theorem d_La_law_613 : decode code 613 = .ok (.aload_n 3, 1) := by decide +kernel
theorem d_La_law_614 : decode code 614 = .ok (.invokestatic 98, 3) := by decide +kernel
theorem d_La_law_617 : decode code 617 = .ok (.istore 5, 2) := by decide +kernel
theorem d_La_law_619 : decode code 619 = .ok (.aload_n 2, 1) := by decide +kernel
theorem d_La_law_620 : decode code 620 = .ok (.aload_n 0, 1) := by decide +kernel
theorem d_La_law_621 : decode code 621 = .ok (.iload 4, 2) := by decide +kernel
theorem d_La_law_623 : decode code 623 = .ok (.iconst 1, 1) := by decide +kernel
theorem d_La_law_624 : decode code 624 = .ok (.iadd, 1) := by decide +kernel
theorem d_La_law_625 : decode code 625 = .ok (.iaload, 1) := by decide +kernel
theorem d_La_law_626 : decode code 626 = .ok (.invokevirtual 100, 3) := by decide +kernel
theorem d_La_law_629 : decode code 629 = .ok (.istore 6, 2) := by decide +kernel
theorem d_La_law_631 : decode code 631 = .ok (.aload_n 2, 1) := by decide +kernel
theorem d_La_law_632 : decode code 632 = .ok (.invokevirtual 60, 3) := by decide +kernel
theorem d_La_law_635 : decode code 635 = .ok (.iload 5, 2) := by decide +kernel
theorem d_La_law_637 : decode code 637 = .ok (.if_icmp .eq 5, 3) := by decide +kernel
theorem d_La_law_640 : decode code 640 = .ok (.iconst 0, 1) := by decide +kernel
theorem d_La_law_641 : decode code 641 = .ok (.ireturn, 1) := by decide +kernel
theorem d_La_law_642 : decode code 642 = .ok (.iload 5, 2) := by decide +kernel
theorem d_La_law_644 : decode code 644 = .ok (.ifCond .ne 15, 3) := by decide +kernel
theorem d_La_law_647 : decode code 647 = .ok (.aload_n 3, 1) := by decide +kernel
theorem d_La_law_648 : decode code 648 = .ok (.iconst 0, 1) := by decide +kernel
theorem d_La_law_649 : decode code 649 = .ok (.laload, 1) := by decide +kernel
theorem d_La_law_650 : decode code 650 = .ok (.iload 6, 2) := by decide +kernel
theorem d_La_law_652 : decode code 652 = .ok (.i2l, 1) := by decide +kernel
theorem d_La_law_653 : decode code 653 = .ok (.lcmp, 1) := by decide +kernel
theorem d_La_law_654 : decode code 654 = .ok (.ifCond .eq 5, 3) := by decide +kernel
theorem d_La_law_657 : decode code 657 = .ok (.iconst 0, 1) := by decide +kernel
theorem d_La_law_658 : decode code 658 = .ok (.ireturn, 1) := by decide +kernel
theorem d_La_law_659 : decode code 659 = .ok (.goto 59, 3) := by decide +kernel
theorem d_La_law_662 : decode code 662 = .ok (.aload_n 1, 1) := by decide +kernel
theorem d_La_law_663 : decode code 663 = .ok (.aload_n 0, 1) := by decide +kernel
theorem d_La_law_664 : decode code 664 = .ok (.iload 4, 2) := by decide +kernel
theorem d_La_law_666 : decode code 666 = .ok (.iconst 1, 1) := by decide +kernel
theorem d_La_law_667 : decode code 667 = .ok (.iadd, 1) := by decide +kernel
theorem d_La_law_668 : decode code 668 = .ok (.iaload, 1) := by decide +kernel
theorem d_La_law_669 : decode code 669 = .ok (.aload_n 3, 1) := by decide +kernel
theorem d_La_law_670 : decode code 670 = .ok (.invokestatic 101, 3) := by decide +kernel
theorem d_La_law_673 : decode code 673 = .ok (.istore 5, 2) := by decide +kernel
theorem d_La_law_675 : decode code 675 = .ok (.aload_n 2, 1) := by decide +kernel
theorem d_La_law_676 : decode code 676 = .ok (.aload_n 0, 1) := by decide +kernel
theorem d_La_law_677 : decode code 677 = .ok (.iload 4, 2) := by decide +kernel
theorem d_La_law_679 : decode code 679 = .ok (.iconst 1, 1) := by decide +kernel
theorem d_La_law_680 : decode code 680 = .ok (.iadd, 1) := by decide +kernel
theorem d_La_law_681 : decode code 681 = .ok (.iaload, 1) := by decide +kernel
theorem d_La_law_682 : decode code 682 = .ok (.invokevirtual 103, 3) := by decide +kernel
theorem d_La_law_685 : decode code 685 = .ok (.istore 6, 2) := by decide +kernel
theorem d_La_law_687 : decode code 687 = .ok (.aload_n 2, 1) := by decide +kernel
theorem d_La_law_688 : decode code 688 = .ok (.invokevirtual 60, 3) := by decide +kernel
theorem d_La_law_691 : decode code 691 = .ok (.iload 5, 2) := by decide +kernel
theorem d_La_law_693 : decode code 693 = .ok (.if_icmp .eq 5, 3) := by decide +kernel
theorem d_La_law_696 : decode code 696 = .ok (.iconst 0, 1) := by decide +kernel
theorem d_La_law_697 : decode code 697 = .ok (.ireturn, 1) := by decide +kernel
theorem d_La_law_698 : decode code 698 = .ok (.iload 5, 2) := by decide +kernel
theorem d_La_law_700 : decode code 700 = .ok (.ifCond .ne 15, 3) := by decide +kernel
theorem d_La_law_703 : decode code 703 = .ok (.aload_n 3, 1) := by decide +kernel
theorem d_La_law_704 : decode code 704 = .ok (.iconst 0, 1) := by decide +kernel
theorem d_La_law_705 : decode code 705 = .ok (.laload, 1) := by decide +kernel
theorem d_La_law_706 : decode code 706 = .ok (.iload 6, 2) := by decide +kernel
theorem d_La_law_708 : decode code 708 = .ok (.i2l, 1) := by decide +kernel
theorem d_La_law_709 : decode code 709 = .ok (.lcmp, 1) := by decide +kernel
theorem d_La_law_710 : decode code 710 = .ok (.ifCond .eq 5, 3) := by decide +kernel
theorem d_La_law_713 : decode code 713 = .ok (.iconst 0, 1) := by decide +kernel
theorem d_La_law_714 : decode code 714 = .ok (.ireturn, 1) := by decide +kernel
theorem d_La_law_715 : decode code 715 = .ok (.goto 3, 3) := by decide +kernel
theorem d_La_law_718 : decode code 718 = .ok (.iinc 4 4, 3) := by decide +kernel
theorem d_La_law_721 : decode code 721 = .ok (.goto (-668), 3) := by decide +kernel
theorem d_La_law_724 : decode code 724 = .ok (.iconst 1, 1) := by decide +kernel
theorem d_La_law_725 : decode code 725 = .ok (.ireturn, 1) := by decide +kernel
