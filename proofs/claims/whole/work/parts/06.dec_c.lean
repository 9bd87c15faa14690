theorem d_Lp_init_0 : decode b_Lp_init 0 = .ok (.aload_n 0, 1) := by decide +kernel
theorem d_Lp_init_1 : decode b_Lp_init 1 = .ok (.invokespecial 1, 3) := by decide +kernel
theorem d_Lp_init_4 : decode b_Lp_init 4 = .ok (.iload_n 1, 1) := by decide +kernel
theorem d_Lp_init_5 : decode b_Lp_init 5 = .ok (.iconst 1, 1) := by decide +kernel
theorem d_Lp_init_6 : decode b_Lp_init 6 = .ok (.ldc 7, 2) := by decide +kernel
theorem d_Lp_init_8 : decode b_Lp_init 8 = .ok (.invokestatic 8, 3) := by decide +kernel
theorem d_Lp_init_11 : decode b_Lp_init 11 = .ok (.istore 4, 2) := by decide +kernel
theorem d_Lp_init_13 : decode b_Lp_init 13 = .ok (.aload_n 0, 1) := by decide +kernel
theorem d_Lp_init_14 : decode b_Lp_init 14 = .ok (.new 14, 3) := by decide +kernel
theorem d_Lp_init_17 : decode b_Lp_init 17 = .ok (.dup, 1) := by decide +kernel
theorem d_Lp_init_18 : decode b_Lp_init 18 = .ok (.iload_n 2, 1) := by decide +kernel
theorem d_Lp_init_19 : decode b_Lp_init 19 = .ok (.iload_n 3, 1) := by decide +kernel
theorem d_Lp_init_20 : decode b_Lp_init 20 = .ok (.invokespecial 16, 3) := by decide +kernel
theorem d_Lp_init_23 : decode b_Lp_init 23 = .ok (.putfield 19, 3) := by decide +kernel
theorem d_Lp_init_26 : decode b_Lp_init 26 = .ok (.aload_n 0, 1) := by decide +kernel
theorem d_Lp_init_27 : decode b_Lp_init 27 = .ok (.new 23, 3) := by decide +kernel
theorem d_Lp_init_30 : decode b_Lp_init 30 = .ok (.dup, 1) := by decide +kernel
theorem d_Lp_init_31 : decode b_Lp_init 31 = .ok (.iload 4, 2) := by decide +kernel
theorem d_Lp_init_33 : decode b_Lp_init 33 = .ok (.aload_n 0, 1) := by decide +kernel
theorem d_Lp_init_34 : decode b_Lp_init 34 = .ok (.getfield 19, 3) := by decide +kernel
theorem d_Lp_init_37 : decode b_Lp_init 37 = .ok (.invokespecial 25, 3) := by decide +kernel
theorem d_Lp_init_40 : decode b_Lp_init 40 = .ok (.putfield 28, 3) := by decide +kernel
theorem d_Lp_init_43 : decode b_Lp_init 43 = .ok (.aload_n 0, 1) := by decide +kernel
theorem d_Lp_init_44 : decode b_Lp_init 44 = .ok (.new 23, 3) := by decide +kernel
theorem d_Lp_init_47 : decode b_Lp_init 47 = .ok (.dup, 1) := by decide +kernel
theorem d_Lp_init_48 : decode b_Lp_init 48 = .ok (.iload 4, 2) := by decide +kernel
theorem d_Lp_init_50 : decode b_Lp_init 50 = .ok (.aload_n 0, 1) := by decide +kernel
theorem d_Lp_init_51 : decode b_Lp_init 51 = .ok (.getfield 19, 3) := by decide +kernel
theorem d_Lp_init_54 : decode b_Lp_init 54 = .ok (.invokespecial 25, 3) := by decide +kernel
theorem d_Lp_init_57 : decode b_Lp_init 57 = .ok (.putfield 32, 3) := by decide +kernel
theorem d_Lp_init_60 : decode b_Lp_init 60 = .ok (.aload_n 0, 1) := by decide +kernel
theorem d_Lp_init_61 : decode b_Lp_init 61 = .ok (.new 35, 3) := by decide +kernel
theorem d_Lp_init_64 : decode b_Lp_init 64 = .ok (.dup, 1) := by decide +kernel
theorem d_Lp_init_65 : decode b_Lp_init 65 = .ok (.invokespecial 37, 3) := by decide +kernel
theorem d_Lp_init_68 : decode b_Lp_init 68 = .ok (.putfield 38, 3) := by decide +kernel
theorem d_Lp_init_71 : decode b_Lp_init 71 = .ok (.aload_n 0, 1) := by decide +kernel
theorem d_Lp_init_72 : decode b_Lp_init 72 = .ok (.new 35, 3) := by decide +kernel
theorem d_Lp_init_75 : decode b_Lp_init 75 = .ok (.dup, 1) := by decide +kernel
theorem d_Lp_init_76 : decode b_Lp_init 76 = .ok (.invokespecial 37, 3) := by decide +kernel
theorem d_Lp_init_79 : decode b_Lp_init 79 = .ok (.putfield 42, 3) := by decide +kernel
theorem d_Lp_init_82 : decode b_Lp_init 82 = .ok (.aload_n 0, 1) := by decide +kernel
theorem d_Lp_init_83 : decode b_Lp_init 83 = .ok (.iconst 0, 1) := by decide +kernel
theorem d_Lp_init_84 : decode b_Lp_init 84 = .ok (.putfield 45, 3) := by decide +kernel
theorem d_Lp_init_87 : decode b_Lp_init 87 = .ok (.aload_n 0, 1) := by decide +kernel
theorem d_Lp_init_88 : decode b_Lp_init 88 = .ok (.iconst 0, 1) := by decide +kernel
theorem d_Lp_init_89 : decode b_Lp_init 89 = .ok (.putfield 49, 3) := by decide +kernel
theorem d_Lp_init_92 : decode b_Lp_init 92 = .ok (.return_, 1) := by decide +kernel
theorem d_Lp_thresholds_0 : decode b_Lp_thresholds 0 = .ok (.aload_n 0, 1) := by decide +kernel
theorem d_Lp_thresholds_1 : decode b_Lp_thresholds 1 = .ok (.getfield 49, 3) := by decide +kernel
theorem d_Lp_thresholds_4 : decode b_Lp_thresholds 4 = .ok (.ifCond .eq 13, 3) := by decide +kernel
theorem d_Lp_thresholds_7 : decode b_Lp_thresholds 7 = .ok (.new 53, 3) := by decide +kernel
theorem d_Lp_thresholds_10 : decode b_Lp_thresholds 10 = .ok (.dup, 1) := by decide +kernel
theorem d_Lp_thresholds_11 : decode b_Lp_thresholds 11 = .ok (.ldc 55, 2) := by decide +kernel
theorem d_Lp_thresholds_13 : decode b_Lp_thresholds 13 = .ok (.invokespecial 57, 3) := by decide +kernel
theorem d_Lp_thresholds_16 : decode b_Lp_thresholds 16 = .ok (.athrow, 1) := by decide +kernel
theorem d_Lp_thresholds_17 : decode b_Lp_thresholds 17 = .ok (.iload_n 1, 1) := by decide +kernel
theorem d_Lp_thresholds_18 : decode b_Lp_thresholds 18 = .ok (.aload_n 0, 1) := by decide +kernel
theorem d_Lp_thresholds_19 : decode b_Lp_thresholds 19 = .ok (.getfield 19, 3) := by decide +kernel
theorem d_Lp_thresholds_22 : decode b_Lp_thresholds 22 = .ok (.getfield 60, 3) := by decide +kernel
theorem d_Lp_thresholds_25 : decode b_Lp_thresholds 25 = .ok (.iconst 1, 1) := by decide +kernel
theorem d_Lp_thresholds_26 : decode b_Lp_thresholds 26 = .ok (.iadd, 1) := by decide +kernel
theorem d_Lp_thresholds_27 : decode b_Lp_thresholds 27 = .ok (.if_icmp .lt 24, 3) := by decide +kernel
theorem d_Lp_thresholds_30 : decode b_Lp_thresholds 30 = .ok (.iload_n 2, 1) := by decide +kernel
theorem d_Lp_thresholds_31 : decode b_Lp_thresholds 31 = .ok (.iload_n 1, 1) := by decide +kernel
theorem d_Lp_thresholds_32 : decode b_Lp_thresholds 32 = .ok (.if_icmp .lt 19, 3) := by decide +kernel
theorem d_Lp_thresholds_35 : decode b_Lp_thresholds 35 = .ok (.iload_n 3, 1) := by decide +kernel
theorem d_Lp_thresholds_36 : decode b_Lp_thresholds 36 = .ok (.iload_n 2, 1) := by decide +kernel
theorem d_Lp_thresholds_37 : decode b_Lp_thresholds 37 = .ok (.if_icmp .lt 14, 3) := by decide +kernel
theorem d_Lp_thresholds_40 : decode b_Lp_thresholds 40 = .ok (.iload_n 3, 1) := by decide +kernel
theorem d_Lp_thresholds_41 : decode b_Lp_thresholds 41 = .ok (.aload_n 0, 1) := by decide +kernel
theorem d_Lp_thresholds_42 : decode b_Lp_thresholds 42 = .ok (.getfield 19, 3) := by decide +kernel
theorem d_Lp_thresholds_45 : decode b_Lp_thresholds 45 = .ok (.getfield 63, 3) := by decide +kernel
theorem d_Lp_thresholds_48 : decode b_Lp_thresholds 48 = .ok (.if_icmp .le 5, 3) := by decide +kernel
theorem d_Lp_thresholds_51 : decode b_Lp_thresholds 51 = .ok (.iconst 0, 1) := by decide +kernel
theorem d_Lp_thresholds_52 : decode b_Lp_thresholds 52 = .ok (.ireturn, 1) := by decide +kernel
theorem d_Lp_thresholds_53 : decode b_Lp_thresholds 53 = .ok (.aload_n 0, 1) := by decide +kernel
theorem d_Lp_thresholds_54 : decode b_Lp_thresholds 54 = .ok (.getfield 19, 3) := by decide +kernel
theorem d_Lp_thresholds_57 : decode b_Lp_thresholds 57 = .ok (.iload_n 1, 1) := by decide +kernel
theorem d_Lp_thresholds_58 : decode b_Lp_thresholds 58 = .ok (.putfield 66, 3) := by decide +kernel
theorem d_Lp_thresholds_61 : decode b_Lp_thresholds 61 = .ok (.aload_n 0, 1) := by decide +kernel
theorem d_Lp_thresholds_62 : decode b_Lp_thresholds 62 = .ok (.getfield 19, 3) := by decide +kernel
theorem d_Lp_thresholds_65 : decode b_Lp_thresholds 65 = .ok (.iload_n 2, 1) := by decide +kernel
theorem d_Lp_thresholds_66 : decode b_Lp_thresholds 66 = .ok (.putfield 69, 3) := by decide +kernel
theorem d_Lp_thresholds_69 : decode b_Lp_thresholds 69 = .ok (.aload_n 0, 1) := by decide +kernel
theorem d_Lp_thresholds_70 : decode b_Lp_thresholds 70 = .ok (.getfield 19, 3) := by decide +kernel
theorem d_Lp_thresholds_73 : decode b_Lp_thresholds 73 = .ok (.iload_n 3, 1) := by decide +kernel
theorem d_Lp_thresholds_74 : decode b_Lp_thresholds 74 = .ok (.putfield 72, 3) := by decide +kernel
theorem d_Lp_thresholds_77 : decode b_Lp_thresholds 77 = .ok (.iconst 1, 1) := by decide +kernel
theorem d_Lp_thresholds_78 : decode b_Lp_thresholds 78 = .ok (.ireturn, 1) := by decide +kernel
theorem d_Lp_reset_0 : decode b_Lp_reset 0 = .ok (.aload_n 0, 1) := by decide +kernel
theorem d_Lp_reset_1 : decode b_Lp_reset 1 = .ok (.getfield 49, 3) := by decide +kernel
theorem d_Lp_reset_4 : decode b_Lp_reset 4 = .ok (.ifCond .eq 13, 3) := by decide +kernel
theorem d_Lp_reset_7 : decode b_Lp_reset 7 = .ok (.new 53, 3) := by decide +kernel
theorem d_Lp_reset_10 : decode b_Lp_reset 10 = .ok (.dup, 1) := by decide +kernel
theorem d_Lp_reset_11 : decode b_Lp_reset 11 = .ok (.ldc 55, 2) := by decide +kernel
theorem d_Lp_reset_13 : decode b_Lp_reset 13 = .ok (.invokespecial 57, 3) := by decide +kernel
theorem d_Lp_reset_16 : decode b_Lp_reset 16 = .ok (.athrow, 1) := by decide +kernel
theorem d_Lp_reset_17 : decode b_Lp_reset 17 = .ok (.iload_n 1, 1) := by decide +kernel
theorem d_Lp_reset_18 : decode b_Lp_reset 18 = .ok (.iconst 3, 1) := by decide +kernel
theorem d_Lp_reset_19 : decode b_Lp_reset 19 = .ok (.if_icmp .lt 10, 3) := by decide +kernel
theorem d_Lp_reset_22 : decode b_Lp_reset 22 = .ok (.iload_n 1, 1) := by decide +kernel
theorem d_Lp_reset_23 : decode b_Lp_reset 23 = .ok (.sipush 255, 3) := by decide +kernel
theorem d_Lp_reset_26 : decode b_Lp_reset 26 = .ok (.if_icmp .le 5, 3) := by decide +kernel
theorem d_Lp_reset_29 : decode b_Lp_reset 29 = .ok (.iconst 0, 1) := by decide +kernel
theorem d_Lp_reset_30 : decode b_Lp_reset 30 = .ok (.ireturn, 1) := by decide +kernel
theorem d_Lp_reset_31 : decode b_Lp_reset 31 = .ok (.aload_n 0, 1) := by decide +kernel
theorem d_Lp_reset_32 : decode b_Lp_reset 32 = .ok (.getfield 19, 3) := by decide +kernel
theorem d_Lp_reset_35 : decode b_Lp_reset 35 = .ok (.iload_n 1, 1) := by decide +kernel
theorem d_Lp_reset_36 : decode b_Lp_reset 36 = .ok (.putfield 75, 3) := by decide +kernel
theorem d_Lp_reset_39 : decode b_Lp_reset 39 = .ok (.iconst 1, 1) := by decide +kernel
theorem d_Lp_reset_40 : decode b_Lp_reset 40 = .ok (.ireturn, 1) := by decide +kernel
theorem d_Lp_sample_0 : decode b_Lp_sample 0 = .ok (.aload_n 0, 1) := by decide +kernel
theorem d_Lp_sample_1 : decode b_Lp_sample 1 = .ok (.getfield 28, 3) := by decide +kernel
theorem d_Lp_sample_4 : decode b_Lp_sample 4 = .ok (.iload_n 1, 1) := by decide +kernel
theorem d_Lp_sample_5 : decode b_Lp_sample 5 = .ok (.invokevirtual 78, 3) := by decide +kernel
theorem d_Lp_sample_8 : decode b_Lp_sample 8 = .ok (.ifCond .ne 13, 3) := by decide +kernel
theorem d_Lp_sample_11 : decode b_Lp_sample 11 = .ok (.new 53, 3) := by decide +kernel
theorem d_Lp_sample_14 : decode b_Lp_sample 14 = .ok (.dup, 1) := by decide +kernel
theorem d_Lp_sample_15 : decode b_Lp_sample 15 = .ok (.ldc 82, 2) := by decide +kernel
theorem d_Lp_sample_17 : decode b_Lp_sample 17 = .ok (.invokespecial 57, 3) := by decide +kernel
theorem d_Lp_sample_20 : decode b_Lp_sample 20 = .ok (.athrow, 1) := by decide +kernel
theorem d_Lp_sample_21 : decode b_Lp_sample 21 = .ok (.iload_n 2, 1) := by decide +kernel
theorem d_Lp_sample_22 : decode b_Lp_sample 22 = .ok (.ifCond .lt 14, 3) := by decide +kernel
theorem d_Lp_sample_25 : decode b_Lp_sample 25 = .ok (.iload_n 2, 1) := by decide +kernel
theorem d_Lp_sample_26 : decode b_Lp_sample 26 = .ok (.aload_n 0, 1) := by decide +kernel
theorem d_Lp_sample_27 : decode b_Lp_sample 27 = .ok (.getfield 19, 3) := by decide +kernel
theorem d_Lp_sample_30 : decode b_Lp_sample 30 = .ok (.getfield 63, 3) := by decide +kernel
theorem d_Lp_sample_33 : decode b_Lp_sample 33 = .ok (.if_icmp .le 13, 3) := by decide +kernel
theorem d_Lp_sample_36 : decode b_Lp_sample 36 = .ok (.new 84, 3) := by decide +kernel
theorem d_Lp_sample_39 : decode b_Lp_sample 39 = .ok (.dup, 1) := by decide +kernel
theorem d_Lp_sample_40 : decode b_Lp_sample 40 = .ok (.ldc 86, 2) := by decide +kernel
theorem d_Lp_sample_42 : decode b_Lp_sample 42 = .ok (.invokespecial 88, 3) := by decide +kernel
theorem d_Lp_sample_45 : decode b_Lp_sample 45 = .ok (.athrow, 1) := by decide +kernel
theorem d_Lp_sample_46 : decode b_Lp_sample 46 = .ok (.aload_n 0, 1) := by decide +kernel
theorem d_Lp_sample_47 : decode b_Lp_sample 47 = .ok (.getfield 42, 3) := by decide +kernel
theorem d_Lp_sample_50 : decode b_Lp_sample 50 = .ok (.astore_n 3, 1) := by decide +kernel
theorem d_Lp_sample_51 : decode b_Lp_sample 51 = .ok (.aload_n 0, 1) := by decide +kernel
theorem d_Lp_sample_52 : decode b_Lp_sample 52 = .ok (.getfield 28, 3) := by decide +kernel
theorem d_Lp_sample_55 : decode b_Lp_sample 55 = .ok (.aload_n 3, 1) := by decide +kernel
theorem d_Lp_sample_56 : decode b_Lp_sample 56 = .ok (.invokevirtual 89, 3) := by decide +kernel
theorem d_Lp_sample_59 : decode b_Lp_sample 59 = .ok (.aload_n 3, 1) := by decide +kernel
theorem d_Lp_sample_60 : decode b_Lp_sample 60 = .ok (.getfield 93, 3) := by decide +kernel
theorem d_Lp_sample_63 : decode b_Lp_sample 63 = .ok (.ifCond .eq 47, 3) := by decide +kernel
theorem d_Lp_sample_66 : decode b_Lp_sample 66 = .ok (.iload_n 2, 1) := by decide +kernel
theorem d_Lp_sample_67 : decode b_Lp_sample 67 = .ok (.aload_n 3, 1) := by decide +kernel
theorem d_Lp_sample_68 : decode b_Lp_sample 68 = .ok (.getfield 96, 3) := by decide +kernel
theorem d_Lp_sample_71 : decode b_Lp_sample 71 = .ok (.isub, 1) := by decide +kernel
theorem d_Lp_sample_72 : decode b_Lp_sample 72 = .ok (.invokestatic 99, 3) := by decide +kernel
theorem d_Lp_sample_75 : decode b_Lp_sample 75 = .ok (.aload_n 0, 1) := by decide +kernel
theorem d_Lp_sample_76 : decode b_Lp_sample 76 = .ok (.getfield 19, 3) := by decide +kernel
theorem d_Lp_sample_79 : decode b_Lp_sample 79 = .ok (.getfield 60, 3) := by decide +kernel
theorem d_Lp_sample_82 : decode b_Lp_sample 82 = .ok (.if_icmp .gt 20, 3) := by decide +kernel
theorem d_Lp_sample_85 : decode b_Lp_sample 85 = .ok (.aload_n 0, 1) := by decide +kernel
theorem d_Lp_sample_86 : decode b_Lp_sample 86 = .ok (.aload_n 0, 1) := by decide +kernel
theorem d_Lp_sample_87 : decode b_Lp_sample 87 = .ok (.getfield 28, 3) := by decide +kernel
theorem d_Lp_sample_90 : decode b_Lp_sample 90 = .ok (.aload_n 3, 1) := by decide +kernel
theorem d_Lp_sample_91 : decode b_Lp_sample 91 = .ok (.aload_n 3, 1) := by decide +kernel
theorem d_Lp_sample_92 : decode b_Lp_sample 92 = .ok (.getfield 96, 3) := by decide +kernel
theorem d_Lp_sample_95 : decode b_Lp_sample 95 = .ok (.iconst 1, 1) := by decide +kernel
theorem d_Lp_sample_96 : decode b_Lp_sample 96 = .ok (.invokevirtual 105, 3) := by decide +kernel
theorem d_Lp_sample_99 : decode b_Lp_sample 99 = .ok (.ldc 109, 2) := by decide +kernel
theorem d_Lp_sample_101 : decode b_Lp_sample 101 = .ok (.ireturn, 1) := by decide +kernel
theorem d_Lp_sample_102 : decode b_Lp_sample 102 = .ok (.aload_n 3, 1) := by decide +kernel
theorem d_Lp_sample_103 : decode b_Lp_sample 103 = .ok (.aload_n 0, 1) := by decide +kernel
theorem d_Lp_sample_104 : decode b_Lp_sample 104 = .ok (.getfield 19, 3) := by decide +kernel
theorem d_Lp_sample_107 : decode b_Lp_sample 107 = .ok (.invokevirtual 110, 3) := by decide +kernel
theorem d_Lp_sample_110 : decode b_Lp_sample 110 = .ok (.aload_n 0, 1) := by decide +kernel
theorem d_Lp_sample_111 : decode b_Lp_sample 111 = .ok (.getfield 19, 3) := by decide +kernel
theorem d_Lp_sample_114 : decode b_Lp_sample 114 = .ok (.aload_n 3, 1) := by decide +kernel
theorem d_Lp_sample_115 : decode b_Lp_sample 115 = .ok (.getfield 114, 3) := by decide +kernel
theorem d_Lp_sample_118 : decode b_Lp_sample 118 = .ok (.iload_n 2, 1) := by decide +kernel
theorem d_Lp_sample_119 : decode b_Lp_sample 119 = .ok (.aload_n 3, 1) := by decide +kernel
theorem d_Lp_sample_120 : decode b_Lp_sample 120 = .ok (.getfield 117, 3) := by decide +kernel
theorem d_Lp_sample_123 : decode b_Lp_sample 123 = .ok (.isub, 1) := by decide +kernel
theorem d_Lp_sample_124 : decode b_Lp_sample 124 = .ok (.imul, 1) := by decide +kernel
theorem d_Lp_sample_125 : decode b_Lp_sample 125 = .ok (.invokevirtual 120, 3) := by decide +kernel
theorem d_Lp_sample_128 : decode b_Lp_sample 128 = .ok (.istore 4, 2) := by decide +kernel
theorem d_Lp_sample_130 : decode b_Lp_sample 130 = .ok (.aload_n 0, 1) := by decide +kernel
theorem d_Lp_sample_131 : decode b_Lp_sample 131 = .ok (.getfield 19, 3) := by decide +kernel
theorem d_Lp_sample_134 : decode b_Lp_sample 134 = .ok (.iload 4, 2) := by decide +kernel
theorem d_Lp_sample_136 : decode b_Lp_sample 136 = .ok (.invokevirtual 123, 3) := by decide +kernel
theorem d_Lp_sample_139 : decode b_Lp_sample 139 = .ok (.istore 5, 2) := by decide +kernel
theorem d_Lp_sample_141 : decode b_Lp_sample 141 = .ok (.aload_n 0, 1) := by decide +kernel
theorem d_Lp_sample_142 : decode b_Lp_sample 142 = .ok (.getfield 28, 3) := by decide +kernel
theorem d_Lp_sample_145 : decode b_Lp_sample 145 = .ok (.getfield 126, 3) := by decide +kernel
theorem d_Lp_sample_148 : decode b_Lp_sample 148 = .ok (.aload_n 3, 1) := by decide +kernel
theorem d_Lp_sample_149 : decode b_Lp_sample 149 = .ok (.getfield 130, 3) := by decide +kernel
theorem d_Lp_sample_152 : decode b_Lp_sample 152 = .ok (.iload 5, 2) := by decide +kernel
theorem d_Lp_sample_154 : decode b_Lp_sample 154 = .ok (.invokevirtual 133, 3) := by decide +kernel
theorem d_Lp_sample_157 : decode b_Lp_sample 157 = .ok (.istore 6, 2) := by decide +kernel
theorem d_Lp_sample_159 : decode b_Lp_sample 159 = .ok (.aload_n 0, 1) := by decide +kernel
theorem d_Lp_sample_160 : decode b_Lp_sample 160 = .ok (.getfield 28, 3) := by decide +kernel
theorem d_Lp_sample_163 : decode b_Lp_sample 163 = .ok (.getfield 126, 3) := by decide +kernel
theorem d_Lp_sample_166 : decode b_Lp_sample 166 = .ok (.aload_n 3, 1) := by decide +kernel
theorem d_Lp_sample_167 : decode b_Lp_sample 167 = .ok (.getfield 130, 3) := by decide +kernel
theorem d_Lp_sample_170 : decode b_Lp_sample 170 = .ok (.iload 5, 2) := by decide +kernel
theorem d_Lp_sample_172 : decode b_Lp_sample 172 = .ok (.iload 6, 2) := by decide +kernel
theorem d_Lp_sample_174 : decode b_Lp_sample 174 = .ok (.invokevirtual 139, 3) := by decide +kernel
theorem d_Lp_sample_177 : decode b_Lp_sample 177 = .ok (.aload_n 0, 1) := by decide +kernel
theorem d_Lp_sample_178 : decode b_Lp_sample 178 = .ok (.aload_n 0, 1) := by decide +kernel
theorem d_Lp_sample_179 : decode b_Lp_sample 179 = .ok (.getfield 28, 3) := by decide +kernel
theorem d_Lp_sample_182 : decode b_Lp_sample 182 = .ok (.aload_n 3, 1) := by decide +kernel
theorem d_Lp_sample_183 : decode b_Lp_sample 183 = .ok (.aload_n 0, 1) := by decide +kernel
theorem d_Lp_sample_184 : decode b_Lp_sample 184 = .ok (.getfield 19, 3) := by decide +kernel
theorem d_Lp_sample_187 : decode b_Lp_sample 187 = .ok (.aload_n 3, 1) := by decide +kernel
theorem d_Lp_sample_188 : decode b_Lp_sample 188 = .ok (.iload 4, 2) := by decide +kernel
theorem d_Lp_sample_190 : decode b_Lp_sample 190 = .ok (.aload_n 0, 1) := by decide +kernel
theorem d_Lp_sample_191 : decode b_Lp_sample 191 = .ok (.getfield 19, 3) := by decide +kernel
theorem d_Lp_sample_194 : decode b_Lp_sample 194 = .ok (.invokevirtual 143, 3) := by decide +kernel
theorem d_Lp_sample_197 : decode b_Lp_sample 197 = .ok (.invokevirtual 147, 3) := by decide +kernel
theorem d_Lp_sample_200 : decode b_Lp_sample 200 = .ok (.iconst 0, 1) := by decide +kernel
theorem d_Lp_sample_201 : decode b_Lp_sample 201 = .ok (.invokevirtual 105, 3) := by decide +kernel
theorem d_Lp_sample_204 : decode b_Lp_sample 204 = .ok (.iload 6, 2) := by decide +kernel
theorem d_Lp_sample_206 : decode b_Lp_sample 206 = .ok (.ireturn, 1) := by decide +kernel
theorem d_Lp_back_0 : decode b_Lp_back 0 = .ok (.aload_n 0, 1) := by decide +kernel
theorem d_Lp_back_1 : decode b_Lp_back 1 = .ok (.getfield 32, 3) := by decide +kernel
theorem d_Lp_back_4 : decode b_Lp_back 4 = .ok (.iload_n 1, 1) := by decide +kernel
theorem d_Lp_back_5 : decode b_Lp_back 5 = .ok (.invokevirtual 78, 3) := by decide +kernel
theorem d_Lp_back_8 : decode b_Lp_back 8 = .ok (.ifCond .ne 13, 3) := by decide +kernel
theorem d_Lp_back_11 : decode b_Lp_back 11 = .ok (.new 53, 3) := by decide +kernel
theorem d_Lp_back_14 : decode b_Lp_back 14 = .ok (.dup, 1) := by decide +kernel
theorem d_Lp_back_15 : decode b_Lp_back 15 = .ok (.ldc 82, 2) := by decide +kernel
theorem d_Lp_back_17 : decode b_Lp_back 17 = .ok (.invokespecial 57, 3) := by decide +kernel
theorem d_Lp_back_20 : decode b_Lp_back 20 = .ok (.athrow, 1) := by decide +kernel
theorem d_Lp_back_21 : decode b_Lp_back 21 = .ok (.iload_n 2, 1) := by decide +kernel
theorem d_Lp_back_22 : decode b_Lp_back 22 = .ok (.ldc 109, 2) := by decide +kernel
theorem d_Lp_back_24 : decode b_Lp_back 24 = .ok (.if_icmp .eq 28, 3) := by decide +kernel
theorem d_Lp_back_27 : decode b_Lp_back 27 = .ok (.iload_n 2, 1) := by decide +kernel
theorem d_Lp_back_28 : decode b_Lp_back 28 = .ok (.ifCond .lt 14, 3) := by decide +kernel
theorem d_Lp_back_31 : decode b_Lp_back 31 = .ok (.iload_n 2, 1) := by decide +kernel
theorem d_Lp_back_32 : decode b_Lp_back 32 = .ok (.aload_n 0, 1) := by decide +kernel
theorem d_Lp_back_33 : decode b_Lp_back 33 = .ok (.getfield 19, 3) := by decide +kernel
theorem d_Lp_back_36 : decode b_Lp_back 36 = .ok (.getfield 150, 3) := by decide +kernel
theorem d_Lp_back_39 : decode b_Lp_back 39 = .ok (.if_icmp .le 13, 3) := by decide +kernel
theorem d_Lp_back_42 : decode b_Lp_back 42 = .ok (.new 84, 3) := by decide +kernel
theorem d_Lp_back_45 : decode b_Lp_back 45 = .ok (.dup, 1) := by decide +kernel
theorem d_Lp_back_46 : decode b_Lp_back 46 = .ok (.ldc 153, 2) := by decide +kernel
theorem d_Lp_back_48 : decode b_Lp_back 48 = .ok (.invokespecial 88, 3) := by decide +kernel
theorem d_Lp_back_51 : decode b_Lp_back 51 = .ok (.athrow, 1) := by decide +kernel
theorem d_Lp_back_52 : decode b_Lp_back 52 = .ok (.aload_n 0, 1) := by decide +kernel
theorem d_Lp_back_53 : decode b_Lp_back 53 = .ok (.getfield 42, 3) := by decide +kernel
theorem d_Lp_back_56 : decode b_Lp_back 56 = .ok (.astore_n 3, 1) := by decide +kernel
theorem d_Lp_back_57 : decode b_Lp_back 57 = .ok (.aload_n 0, 1) := by decide +kernel
theorem d_Lp_back_58 : decode b_Lp_back 58 = .ok (.getfield 32, 3) := by decide +kernel
theorem d_Lp_back_61 : decode b_Lp_back 61 = .ok (.aload_n 3, 1) := by decide +kernel
theorem d_Lp_back_62 : decode b_Lp_back 62 = .ok (.invokevirtual 89, 3) := by decide +kernel
theorem d_Lp_back_65 : decode b_Lp_back 65 = .ok (.iload_n 2, 1) := by decide +kernel
theorem d_Lp_back_66 : decode b_Lp_back 66 = .ok (.ldc 109, 2) := by decide +kernel
theorem d_Lp_back_68 : decode b_Lp_back 68 = .ok (.if_icmp .ne 39, 3) := by decide +kernel
theorem d_Lp_back_71 : decode b_Lp_back 71 = .ok (.aload_n 3, 1) := by decide +kernel
theorem d_Lp_back_72 : decode b_Lp_back 72 = .ok (.getfield 93, 3) := by decide +kernel
theorem d_Lp_back_75 : decode b_Lp_back 75 = .ok (.ifCond .ne 13, 3) := by decide +kernel
theorem d_Lp_back_78 : decode b_Lp_back 78 = .ok (.new 84, 3) := by decide +kernel
theorem d_Lp_back_81 : decode b_Lp_back 81 = .ok (.dup, 1) := by decide +kernel
theorem d_Lp_back_82 : decode b_Lp_back 82 = .ok (.ldc 155, 2) := by decide +kernel
theorem d_Lp_back_84 : decode b_Lp_back 84 = .ok (.invokespecial 88, 3) := by decide +kernel
theorem d_Lp_back_87 : decode b_Lp_back 87 = .ok (.athrow, 1) := by decide +kernel
theorem d_Lp_back_88 : decode b_Lp_back 88 = .ok (.aload_n 0, 1) := by decide +kernel
theorem d_Lp_back_89 : decode b_Lp_back 89 = .ok (.aload_n 0, 1) := by decide +kernel
theorem d_Lp_back_90 : decode b_Lp_back 90 = .ok (.getfield 32, 3) := by decide +kernel
theorem d_Lp_back_93 : decode b_Lp_back 93 = .ok (.aload_n 3, 1) := by decide +kernel
theorem d_Lp_back_94 : decode b_Lp_back 94 = .ok (.aload_n 3, 1) := by decide +kernel
theorem d_Lp_back_95 : decode b_Lp_back 95 = .ok (.getfield 96, 3) := by decide +kernel
theorem d_Lp_back_98 : decode b_Lp_back 98 = .ok (.iconst 1, 1) := by decide +kernel
theorem d_Lp_back_99 : decode b_Lp_back 99 = .ok (.invokevirtual 105, 3) := by decide +kernel
theorem d_Lp_back_102 : decode b_Lp_back 102 = .ok (.aload_n 3, 1) := by decide +kernel
theorem d_Lp_back_103 : decode b_Lp_back 103 = .ok (.getfield 96, 3) := by decide +kernel
theorem d_Lp_back_106 : decode b_Lp_back 106 = .ok (.ireturn, 1) := by decide +kernel
theorem d_Lp_back_107 : decode b_Lp_back 107 = .ok (.aload_n 3, 1) := by decide +kernel
theorem d_Lp_back_108 : decode b_Lp_back 108 = .ok (.getfield 93, 3) := by decide +kernel
theorem d_Lp_back_111 : decode b_Lp_back 111 = .ok (.ifCond .eq 11, 3) := by decide +kernel
theorem d_Lp_back_114 : decode b_Lp_back 114 = .ok (.aload_n 3, 1) := by decide +kernel
theorem d_Lp_back_115 : decode b_Lp_back 115 = .ok (.aload_n 0, 1) := by decide +kernel
theorem d_Lp_back_116 : decode b_Lp_back 116 = .ok (.getfield 19, 3) := by decide +kernel
theorem d_Lp_back_119 : decode b_Lp_back 119 = .ok (.invokevirtual 110, 3) := by decide +kernel
theorem d_Lp_back_122 : decode b_Lp_back 122 = .ok (.aload_n 0, 1) := by decide +kernel
theorem d_Lp_back_123 : decode b_Lp_back 123 = .ok (.getfield 32, 3) := by decide +kernel
theorem d_Lp_back_126 : decode b_Lp_back 126 = .ok (.getfield 126, 3) := by decide +kernel
theorem d_Lp_back_129 : decode b_Lp_back 129 = .ok (.aload_n 3, 1) := by decide +kernel
theorem d_Lp_back_130 : decode b_Lp_back 130 = .ok (.getfield 130, 3) := by decide +kernel
theorem d_Lp_back_133 : decode b_Lp_back 133 = .ok (.iload_n 2, 1) := by decide +kernel
theorem d_Lp_back_134 : decode b_Lp_back 134 = .ok (.invokevirtual 157, 3) := by decide +kernel
theorem d_Lp_back_137 : decode b_Lp_back 137 = .ok (.istore 4, 2) := by decide +kernel
theorem d_Lp_back_139 : decode b_Lp_back 139 = .ok (.aload_n 0, 1) := by decide +kernel
theorem d_Lp_back_140 : decode b_Lp_back 140 = .ok (.getfield 19, 3) := by decide +kernel
theorem d_Lp_back_143 : decode b_Lp_back 143 = .ok (.iload 4, 2) := by decide +kernel
theorem d_Lp_back_145 : decode b_Lp_back 145 = .ok (.invokevirtual 123, 3) := by decide +kernel
theorem d_Lp_back_148 : decode b_Lp_back 148 = .ok (.iload 4, 2) := by decide +kernel
theorem d_Lp_back_150 : decode b_Lp_back 150 = .ok (.if_icmp .ne 23, 3) := by decide +kernel
theorem d_Lp_back_153 : decode b_Lp_back 153 = .ok (.aload_n 0, 1) := by decide +kernel
theorem d_Lp_back_154 : decode b_Lp_back 154 = .ok (.getfield 32, 3) := by decide +kernel
theorem d_Lp_back_157 : decode b_Lp_back 157 = .ok (.getfield 126, 3) := by decide +kernel
theorem d_Lp_back_160 : decode b_Lp_back 160 = .ok (.aload_n 3, 1) := by decide +kernel
theorem d_Lp_back_161 : decode b_Lp_back 161 = .ok (.getfield 130, 3) := by decide +kernel
theorem d_Lp_back_164 : decode b_Lp_back 164 = .ok (.iload 4, 2) := by decide +kernel
theorem d_Lp_back_166 : decode b_Lp_back 166 = .ok (.invokevirtual 133, 3) := by decide +kernel
theorem d_Lp_back_169 : decode b_Lp_back 169 = .ok (.iload_n 2, 1) := by decide +kernel
theorem d_Lp_back_170 : decode b_Lp_back 170 = .ok (.if_icmp .eq 13, 3) := by decide +kernel
theorem d_Lp_back_173 : decode b_Lp_back 173 = .ok (.new 84, 3) := by decide +kernel
theorem d_Lp_back_176 : decode b_Lp_back 176 = .ok (.dup, 1) := by decide +kernel
theorem d_Lp_back_177 : decode b_Lp_back 177 = .ok (.ldc 160, 2) := by decide +kernel
theorem d_Lp_back_179 : decode b_Lp_back 179 = .ok (.invokespecial 88, 3) := by decide +kernel
theorem d_Lp_back_182 : decode b_Lp_back 182 = .ok (.athrow, 1) := by decide +kernel
theorem d_Lp_back_183 : decode b_Lp_back 183 = .ok (.aload_n 0, 1) := by decide +kernel
theorem d_Lp_back_184 : decode b_Lp_back 184 = .ok (.getfield 32, 3) := by decide +kernel
theorem d_Lp_back_187 : decode b_Lp_back 187 = .ok (.getfield 126, 3) := by decide +kernel
theorem d_Lp_back_190 : decode b_Lp_back 190 = .ok (.aload_n 3, 1) := by decide +kernel
theorem d_Lp_back_191 : decode b_Lp_back 191 = .ok (.getfield 130, 3) := by decide +kernel
theorem d_Lp_back_194 : decode b_Lp_back 194 = .ok (.iload 4, 2) := by decide +kernel
theorem d_Lp_back_196 : decode b_Lp_back 196 = .ok (.iload_n 2, 1) := by decide +kernel
theorem d_Lp_back_197 : decode b_Lp_back 197 = .ok (.invokevirtual 139, 3) := by decide +kernel
theorem d_Lp_back_200 : decode b_Lp_back 200 = .ok (.aload_n 0, 1) := by decide +kernel
theorem d_Lp_back_201 : decode b_Lp_back 201 = .ok (.getfield 19, 3) := by decide +kernel
theorem d_Lp_back_204 : decode b_Lp_back 204 = .ok (.aload_n 0, 1) := by decide +kernel
theorem d_Lp_back_205 : decode b_Lp_back 205 = .ok (.getfield 19, 3) := by decide +kernel
theorem d_Lp_back_208 : decode b_Lp_back 208 = .ok (.aload_n 3, 1) := by decide +kernel
theorem d_Lp_back_209 : decode b_Lp_back 209 = .ok (.iload 4, 2) := by decide +kernel
theorem d_Lp_back_211 : decode b_Lp_back 211 = .ok (.aload_n 0, 1) := by decide +kernel
theorem d_Lp_back_212 : decode b_Lp_back 212 = .ok (.getfield 19, 3) := by decide +kernel
theorem d_Lp_back_215 : decode b_Lp_back 215 = .ok (.invokevirtual 143, 3) := by decide +kernel
theorem d_Lp_back_218 : decode b_Lp_back 218 = .ok (.invokevirtual 162, 3) := by decide +kernel
theorem d_Lp_back_221 : decode b_Lp_back 221 = .ok (.invokevirtual 147, 3) := by decide +kernel
theorem d_Lp_back_224 : decode b_Lp_back 224 = .ok (.istore 5, 2) := by decide +kernel
theorem d_Lp_back_226 : decode b_Lp_back 226 = .ok (.aload_n 0, 1) := by decide +kernel
theorem d_Lp_back_227 : decode b_Lp_back 227 = .ok (.aload_n 0, 1) := by decide +kernel
theorem d_Lp_back_228 : decode b_Lp_back 228 = .ok (.getfield 32, 3) := by decide +kernel
theorem d_Lp_back_231 : decode b_Lp_back 231 = .ok (.aload_n 3, 1) := by decide +kernel
theorem d_Lp_back_232 : decode b_Lp_back 232 = .ok (.iload 5, 2) := by decide +kernel
theorem d_Lp_back_234 : decode b_Lp_back 234 = .ok (.iconst 0, 1) := by decide +kernel
theorem d_Lp_back_235 : decode b_Lp_back 235 = .ok (.invokevirtual 105, 3) := by decide +kernel
theorem d_Lp_back_238 : decode b_Lp_back 238 = .ok (.iload 5, 2) := by decide +kernel
theorem d_Lp_back_240 : decode b_Lp_back 240 = .ok (.ireturn, 1) := by decide +kernel
theorem d_Lp_endRow_0 : decode b_Lp_endRow 0 = .ok (.aload_n 0, 1) := by decide +kernel
theorem d_Lp_endRow_1 : decode b_Lp_endRow 1 = .ok (.getfield 28, 3) := by decide +kernel
theorem d_Lp_endRow_4 : decode b_Lp_endRow 4 = .ok (.invokevirtual 165, 3) := by decide +kernel
theorem d_Lp_endRow_7 : decode b_Lp_endRow 7 = .ok (.istore_n 1, 1) := by decide +kernel
theorem d_Lp_endRow_8 : decode b_Lp_endRow 8 = .ok (.aload_n 0, 1) := by decide +kernel
theorem d_Lp_endRow_9 : decode b_Lp_endRow 9 = .ok (.getfield 32, 3) := by decide +kernel
theorem d_Lp_endRow_12 : decode b_Lp_endRow 12 = .ok (.invokevirtual 165, 3) := by decide +kernel
theorem d_Lp_endRow_15 : decode b_Lp_endRow 15 = .ok (.istore_n 2, 1) := by decide +kernel
theorem d_Lp_endRow_16 : decode b_Lp_endRow 16 = .ok (.iload_n 1, 1) := by decide +kernel
theorem d_Lp_endRow_17 : decode b_Lp_endRow 17 = .ok (.ifCond .ne 7, 3) := by decide +kernel
theorem d_Lp_endRow_20 : decode b_Lp_endRow 20 = .ok (.iload_n 2, 1) := by decide +kernel
theorem d_Lp_endRow_21 : decode b_Lp_endRow 21 = .ok (.ifCond .eq 7, 3) := by decide +kernel
theorem d_Lp_endRow_24 : decode b_Lp_endRow 24 = .ok (.iconst 1, 1) := by decide +kernel
theorem d_Lp_endRow_25 : decode b_Lp_endRow 25 = .ok (.goto 4, 3) := by decide +kernel
theorem d_Lp_endRow_28 : decode b_Lp_endRow 28 = .ok (.iconst 0, 1) := by decide +kernel
theorem d_Lp_endRow_29 : decode b_Lp_endRow 29 = .ok (.ireturn, 1) := by decide +kernel
theorem d_Lp_context_0 : decode b_Lp_context 0 = .ok (.aload_n 0, 1) := by decide +kernel
theorem d_Lp_context_1 : decode b_Lp_context 1 = .ok (.getfield 38, 3) := by decide +kernel
theorem d_Lp_context_4 : decode b_Lp_context 4 = .ok (.getfield 130, 3) := by decide +kernel
theorem d_Lp_context_7 : decode b_Lp_context 7 = .ok (.ireturn, 1) := by decide +kernel
theorem d_Lp_predicted_0 : decode b_Lp_predicted 0 = .ok (.aload_n 0, 1) := by decide +kernel
theorem d_Lp_predicted_1 : decode b_Lp_predicted 1 = .ok (.getfield 38, 3) := by decide +kernel
theorem d_Lp_predicted_4 : decode b_Lp_predicted 4 = .ok (.getfield 117, 3) := by decide +kernel
theorem d_Lp_predicted_7 : decode b_Lp_predicted 7 = .ok (.ireturn, 1) := by decide +kernel
theorem d_Lp_neighbour_0 : decode b_Lp_neighbour 0 = .ok (.iload_n 1, 1) := by decide +kernel
theorem d_Lp_neighbour_1 : decode b_Lp_neighbour 1 = .ok (.tableswitch 75 0 4 #[35, 43, 51, 59, 67], 35) := by decide +kernel
theorem d_Lp_neighbour_36 : decode b_Lp_neighbour 36 = .ok (.aload_n 0, 1) := by decide +kernel
theorem d_Lp_neighbour_37 : decode b_Lp_neighbour 37 = .ok (.getfield 38, 3) := by decide +kernel
theorem d_Lp_neighbour_40 : decode b_Lp_neighbour 40 = .ok (.getfield 96, 3) := by decide +kernel
theorem d_Lp_neighbour_43 : decode b_Lp_neighbour 43 = .ok (.ireturn, 1) := by decide +kernel
theorem d_Lp_neighbour_44 : decode b_Lp_neighbour 44 = .ok (.aload_n 0, 1) := by decide +kernel
theorem d_Lp_neighbour_45 : decode b_Lp_neighbour 45 = .ok (.getfield 38, 3) := by decide +kernel
theorem d_Lp_neighbour_48 : decode b_Lp_neighbour 48 = .ok (.getfield 169, 3) := by decide +kernel
theorem d_Lp_neighbour_51 : decode b_Lp_neighbour 51 = .ok (.ireturn, 1) := by decide +kernel
theorem d_Lp_neighbour_52 : decode b_Lp_neighbour 52 = .ok (.aload_n 0, 1) := by decide +kernel
theorem d_Lp_neighbour_53 : decode b_Lp_neighbour 53 = .ok (.getfield 38, 3) := by decide +kernel
theorem d_Lp_neighbour_56 : decode b_Lp_neighbour 56 = .ok (.getfield 172, 3) := by decide +kernel
theorem d_Lp_neighbour_59 : decode b_Lp_neighbour 59 = .ok (.ireturn, 1) := by decide +kernel
theorem d_Lp_neighbour_60 : decode b_Lp_neighbour 60 = .ok (.aload_n 0, 1) := by decide +kernel
theorem d_Lp_neighbour_61 : decode b_Lp_neighbour 61 = .ok (.getfield 38, 3) := by decide +kernel
theorem d_Lp_neighbour_64 : decode b_Lp_neighbour 64 = .ok (.getfield 175, 3) := by decide +kernel
theorem d_Lp_neighbour_67 : decode b_Lp_neighbour 67 = .ok (.ireturn, 1) := by decide +kernel
theorem d_Lp_neighbour_68 : decode b_Lp_neighbour 68 = .ok (.aload_n 0, 1) := by decide +kernel
theorem d_Lp_neighbour_69 : decode b_Lp_neighbour 69 = .ok (.getfield 38, 3) := by decide +kernel
theorem d_Lp_neighbour_72 : decode b_Lp_neighbour 72 = .ok (.getfield 178, 3) := by decide +kernel
theorem d_Lp_neighbour_75 : decode b_Lp_neighbour 75 = .ok (.ireturn, 1) := by decide +kernel
theorem d_Lp_neighbour_76 : decode b_Lp_neighbour 76 = .ok (.new 181, 3) := by decide +kernel
theorem d_Lp_neighbour_79 : decode b_Lp_neighbour 79 = .ok (.dup, 1) := by decide +kernel
theorem d_Lp_neighbour_80 : decode b_Lp_neighbour 80 = .ok (.ldc 183, 2) := by decide +kernel
theorem d_Lp_neighbour_82 : decode b_Lp_neighbour 82 = .ok (.invokespecial 185, 3) := by decide +kernel
theorem d_Lp_neighbour_85 : decode b_Lp_neighbour 85 = .ok (.athrow, 1) := by decide +kernel
theorem d_Lp_state_0 : decode b_Lp_state 0 = .ok (.iload_n 1, 1) := by decide +kernel
theorem d_Lp_state_1 : decode b_Lp_state 1 = .ok (.ifCond .lt 8, 3) := by decide +kernel
theorem d_Lp_state_4 : decode b_Lp_state 4 = .ok (.iload_n 1, 1) := by decide +kernel
theorem d_Lp_state_5 : decode b_Lp_state 5 = .ok (.iconst 1, 1) := by decide +kernel
theorem d_Lp_state_6 : decode b_Lp_state 6 = .ok (.if_icmp .le 13, 3) := by decide +kernel
theorem d_Lp_state_9 : decode b_Lp_state 9 = .ok (.new 181, 3) := by decide +kernel
theorem d_Lp_state_12 : decode b_Lp_state 12 = .ok (.dup, 1) := by decide +kernel
theorem d_Lp_state_13 : decode b_Lp_state 13 = .ok (.ldc 186, 2) := by decide +kernel
theorem d_Lp_state_15 : decode b_Lp_state 15 = .ok (.invokespecial 185, 3) := by decide +kernel
theorem d_Lp_state_18 : decode b_Lp_state 18 = .ok (.athrow, 1) := by decide +kernel
theorem d_Lp_state_19 : decode b_Lp_state 19 = .ok (.iload_n 2, 1) := by decide +kernel
theorem d_Lp_state_20 : decode b_Lp_state 20 = .ok (.invokestatic 188, 3) := by decide +kernel
theorem d_Lp_state_23 : decode b_Lp_state 23 = .ok (.ifCond .ne 13, 3) := by decide +kernel
theorem d_Lp_state_26 : decode b_Lp_state 26 = .ok (.new 181, 3) := by decide +kernel
theorem d_Lp_state_29 : decode b_Lp_state 29 = .ok (.dup, 1) := by decide +kernel
theorem d_Lp_state_30 : decode b_Lp_state 30 = .ok (.ldc 191, 2) := by decide +kernel
theorem d_Lp_state_32 : decode b_Lp_state 32 = .ok (.invokespecial 185, 3) := by decide +kernel
theorem d_Lp_state_35 : decode b_Lp_state 35 = .ok (.athrow, 1) := by decide +kernel
theorem d_Lp_state_36 : decode b_Lp_state 36 = .ok (.iload_n 3, 1) := by decide +kernel
theorem d_Lp_state_37 : decode b_Lp_state 37 = .ok (.ifCond .lt 8, 3) := by decide +kernel
theorem d_Lp_state_40 : decode b_Lp_state 40 = .ok (.iload_n 3, 1) := by decide +kernel
theorem d_Lp_state_41 : decode b_Lp_state 41 = .ok (.iconst 3, 1) := by decide +kernel
theorem d_Lp_state_42 : decode b_Lp_state 42 = .ok (.if_icmp .le 13, 3) := by decide +kernel
theorem d_Lp_state_45 : decode b_Lp_state 45 = .ok (.new 181, 3) := by decide +kernel
theorem d_Lp_state_48 : decode b_Lp_state 48 = .ok (.dup, 1) := by decide +kernel
theorem d_Lp_state_49 : decode b_Lp_state 49 = .ok (.ldc 193, 2) := by decide +kernel
theorem d_Lp_state_51 : decode b_Lp_state 51 = .ok (.invokespecial 185, 3) := by decide +kernel
theorem d_Lp_state_54 : decode b_Lp_state 54 = .ok (.athrow, 1) := by decide +kernel
theorem d_Lp_state_55 : decode b_Lp_state 55 = .ok (.iload_n 1, 1) := by decide +kernel
theorem d_Lp_state_56 : decode b_Lp_state 56 = .ok (.ifCond .ne 18, 3) := by decide +kernel
theorem d_Lp_state_59 : decode b_Lp_state 59 = .ok (.aload_n 0, 1) := by decide +kernel
theorem d_Lp_state_60 : decode b_Lp_state 60 = .ok (.getfield 28, 3) := by decide +kernel
theorem d_Lp_state_63 : decode b_Lp_state 63 = .ok (.getfield 126, 3) := by decide +kernel
theorem d_Lp_state_66 : decode b_Lp_state 66 = .ok (.iload_n 2, 1) := by decide +kernel
theorem d_Lp_state_67 : decode b_Lp_state 67 = .ok (.iload_n 3, 1) := by decide +kernel
theorem d_Lp_state_68 : decode b_Lp_state 68 = .ok (.invokevirtual 195, 3) := by decide +kernel
theorem d_Lp_state_71 : decode b_Lp_state 71 = .ok (.goto 15, 3) := by decide +kernel
theorem d_Lp_state_74 : decode b_Lp_state 74 = .ok (.aload_n 0, 1) := by decide +kernel
theorem d_Lp_state_75 : decode b_Lp_state 75 = .ok (.getfield 32, 3) := by decide +kernel
theorem d_Lp_state_78 : decode b_Lp_state 78 = .ok (.getfield 126, 3) := by decide +kernel
theorem d_Lp_state_81 : decode b_Lp_state 81 = .ok (.iload_n 2, 1) := by decide +kernel
theorem d_Lp_state_82 : decode b_Lp_state 82 = .ok (.iload_n 3, 1) := by decide +kernel
theorem d_Lp_state_83 : decode b_Lp_state 83 = .ok (.invokevirtual 195, 3) := by decide +kernel
theorem d_Lp_state_86 : decode b_Lp_state 86 = .ok (.ireturn, 1) := by decide +kernel
theorem d_Lp_runs_0 : decode b_Lp_runs 0 = .ok (.aload_n 0, 1) := by decide +kernel
theorem d_Lp_runs_1 : decode b_Lp_runs 1 = .ok (.getfield 45, 3) := by decide +kernel
theorem d_Lp_runs_4 : decode b_Lp_runs 4 = .ok (.ireturn, 1) := by decide +kernel
theorem d_Lp_quantised_0 : decode b_Lp_quantised 0 = .ok (.iload_n 1, 1) := by decide +kernel
theorem d_Lp_quantised_1 : decode b_Lp_quantised 1 = .ok (.ldc 198, 2) := by decide +kernel
theorem d_Lp_quantised_3 : decode b_Lp_quantised 3 = .ok (.if_icmp .lt 9, 3) := by decide +kernel
theorem d_Lp_quantised_6 : decode b_Lp_quantised 6 = .ok (.iload_n 1, 1) := by decide +kernel
theorem d_Lp_quantised_7 : decode b_Lp_quantised 7 = .ok (.ldc 199, 2) := by decide +kernel
theorem d_Lp_quantised_9 : decode b_Lp_quantised 9 = .ok (.if_icmp .le 13, 3) := by decide +kernel
theorem d_Lp_quantised_12 : decode b_Lp_quantised 12 = .ok (.new 84, 3) := by decide +kernel
theorem d_Lp_quantised_15 : decode b_Lp_quantised 15 = .ok (.dup, 1) := by decide +kernel
theorem d_Lp_quantised_16 : decode b_Lp_quantised 16 = .ok (.ldc 200, 2) := by decide +kernel
theorem d_Lp_quantised_18 : decode b_Lp_quantised 18 = .ok (.invokespecial 88, 3) := by decide +kernel
theorem d_Lp_quantised_21 : decode b_Lp_quantised 21 = .ok (.athrow, 1) := by decide +kernel
theorem d_Lp_quantised_22 : decode b_Lp_quantised 22 = .ok (.aload_n 0, 1) := by decide +kernel
theorem d_Lp_quantised_23 : decode b_Lp_quantised 23 = .ok (.getfield 19, 3) := by decide +kernel
theorem d_Lp_quantised_26 : decode b_Lp_quantised 26 = .ok (.iload_n 1, 1) := by decide +kernel
theorem d_Lp_quantised_27 : decode b_Lp_quantised 27 = .ok (.invokevirtual 120, 3) := by decide +kernel
theorem d_Lp_quantised_30 : decode b_Lp_quantised 30 = .ok (.ireturn, 1) := by decide +kernel
theorem d_Lp_setting_0 : decode b_Lp_setting 0 = .ok (.iload_n 1, 1) := by decide +kernel
theorem d_Lp_setting_1 : decode b_Lp_setting 1 = .ok (.tableswitch 147 0 10 #[59, 67, 75, 83, 91, 99, 107, 115, 123, 131, 139], 59) := by decide +kernel
theorem d_Lp_setting_60 : decode b_Lp_setting 60 = .ok (.aload_n 0, 1) := by decide +kernel
theorem d_Lp_setting_61 : decode b_Lp_setting 61 = .ok (.getfield 19, 3) := by decide +kernel
theorem d_Lp_setting_64 : decode b_Lp_setting 64 = .ok (.getfield 63, 3) := by decide +kernel
theorem d_Lp_setting_67 : decode b_Lp_setting 67 = .ok (.ireturn, 1) := by decide +kernel
theorem d_Lp_setting_68 : decode b_Lp_setting 68 = .ok (.aload_n 0, 1) := by decide +kernel
theorem d_Lp_setting_69 : decode b_Lp_setting 69 = .ok (.getfield 19, 3) := by decide +kernel
theorem d_Lp_setting_72 : decode b_Lp_setting 72 = .ok (.getfield 150, 3) := by decide +kernel
theorem d_Lp_setting_75 : decode b_Lp_setting 75 = .ok (.ireturn, 1) := by decide +kernel
theorem d_Lp_setting_76 : decode b_Lp_setting 76 = .ok (.aload_n 0, 1) := by decide +kernel
theorem d_Lp_setting_77 : decode b_Lp_setting 77 = .ok (.getfield 19, 3) := by decide +kernel
theorem d_Lp_setting_80 : decode b_Lp_setting 80 = .ok (.getfield 60, 3) := by decide +kernel
theorem d_Lp_setting_83 : decode b_Lp_setting 83 = .ok (.ireturn, 1) := by decide +kernel
theorem d_Lp_setting_84 : decode b_Lp_setting 84 = .ok (.aload_n 0, 1) := by decide +kernel
theorem d_Lp_setting_85 : decode b_Lp_setting 85 = .ok (.getfield 19, 3) := by decide +kernel
theorem d_Lp_setting_88 : decode b_Lp_setting 88 = .ok (.getfield 66, 3) := by decide +kernel
theorem d_Lp_setting_91 : decode b_Lp_setting 91 = .ok (.ireturn, 1) := by decide +kernel
theorem d_Lp_setting_92 : decode b_Lp_setting 92 = .ok (.aload_n 0, 1) := by decide +kernel
theorem d_Lp_setting_93 : decode b_Lp_setting 93 = .ok (.getfield 19, 3) := by decide +kernel
theorem d_Lp_setting_96 : decode b_Lp_setting 96 = .ok (.getfield 69, 3) := by decide +kernel
theorem d_Lp_setting_99 : decode b_Lp_setting 99 = .ok (.ireturn, 1) := by decide +kernel
theorem d_Lp_setting_100 : decode b_Lp_setting 100 = .ok (.aload_n 0, 1) := by decide +kernel
theorem d_Lp_setting_101 : decode b_Lp_setting 101 = .ok (.getfield 19, 3) := by decide +kernel
theorem d_Lp_setting_104 : decode b_Lp_setting 104 = .ok (.getfield 72, 3) := by decide +kernel
theorem d_Lp_setting_107 : decode b_Lp_setting 107 = .ok (.ireturn, 1) := by decide +kernel
theorem d_Lp_setting_108 : decode b_Lp_setting 108 = .ok (.aload_n 0, 1) := by decide +kernel
theorem d_Lp_setting_109 : decode b_Lp_setting 109 = .ok (.getfield 19, 3) := by decide +kernel
theorem d_Lp_setting_112 : decode b_Lp_setting 112 = .ok (.getfield 75, 3) := by decide +kernel
theorem d_Lp_setting_115 : decode b_Lp_setting 115 = .ok (.ireturn, 1) := by decide +kernel
theorem d_Lp_setting_116 : decode b_Lp_setting 116 = .ok (.aload_n 0, 1) := by decide +kernel
theorem d_Lp_setting_117 : decode b_Lp_setting 117 = .ok (.getfield 28, 3) := by decide +kernel
theorem d_Lp_setting_120 : decode b_Lp_setting 120 = .ok (.getfield 202, 3) := by decide +kernel
theorem d_Lp_setting_123 : decode b_Lp_setting 123 = .ok (.ireturn, 1) := by decide +kernel
theorem d_Lp_setting_124 : decode b_Lp_setting 124 = .ok (.aload_n 0, 1) := by decide +kernel
theorem d_Lp_setting_125 : decode b_Lp_setting 125 = .ok (.getfield 28, 3) := by decide +kernel
theorem d_Lp_setting_128 : decode b_Lp_setting 128 = .ok (.getfield 205, 3) := by decide +kernel
theorem d_Lp_setting_131 : decode b_Lp_setting 131 = .ok (.ireturn, 1) := by decide +kernel
theorem d_Lp_setting_132 : decode b_Lp_setting 132 = .ok (.aload_n 0, 1) := by decide +kernel
theorem d_Lp_setting_133 : decode b_Lp_setting 133 = .ok (.getfield 32, 3) := by decide +kernel
theorem d_Lp_setting_136 : decode b_Lp_setting 136 = .ok (.getfield 202, 3) := by decide +kernel
theorem d_Lp_setting_139 : decode b_Lp_setting 139 = .ok (.ireturn, 1) := by decide +kernel
theorem d_Lp_setting_140 : decode b_Lp_setting 140 = .ok (.aload_n 0, 1) := by decide +kernel
theorem d_Lp_setting_141 : decode b_Lp_setting 141 = .ok (.getfield 32, 3) := by decide +kernel
theorem d_Lp_setting_144 : decode b_Lp_setting 144 = .ok (.getfield 205, 3) := by decide +kernel
theorem d_Lp_setting_147 : decode b_Lp_setting 147 = .ok (.ireturn, 1) := by decide +kernel
theorem d_Lp_setting_148 : decode b_Lp_setting 148 = .ok (.new 181, 3) := by decide +kernel
theorem d_Lp_setting_151 : decode b_Lp_setting 151 = .ok (.dup, 1) := by decide +kernel
theorem d_Lp_setting_152 : decode b_Lp_setting 152 = .ok (.ldc 208, 2) := by decide +kernel
theorem d_Lp_setting_154 : decode b_Lp_setting 154 = .ok (.invokespecial 185, 3) := by decide +kernel
theorem d_Lp_setting_157 : decode b_Lp_setting 157 = .ok (.athrow, 1) := by decide +kernel
theorem d_Lp_tell_0 : decode b_Lp_tell 0 = .ok (.aload_n 2, 1) := by decide +kernel
theorem d_Lp_tell_1 : decode b_Lp_tell 1 = .ok (.getfield 93, 3) := by decide +kernel
theorem d_Lp_tell_4 : decode b_Lp_tell 4 = .ok (.ifCond .eq 20, 3) := by decide +kernel
theorem d_Lp_tell_7 : decode b_Lp_tell 7 = .ok (.aload_n 1, 1) := by decide +kernel
theorem d_Lp_tell_8 : decode b_Lp_tell 8 = .ok (.getfield 210, 3) := by decide +kernel
theorem d_Lp_tell_11 : decode b_Lp_tell 11 = .ok (.ifCond .ne 13, 3) := by decide +kernel
theorem d_Lp_tell_14 : decode b_Lp_tell 14 = .ok (.aload_n 0, 1) := by decide +kernel
theorem d_Lp_tell_15 : decode b_Lp_tell 15 = .ok (.dup, 1) := by decide +kernel
theorem d_Lp_tell_16 : decode b_Lp_tell 16 = .ok (.getfield 45, 3) := by decide +kernel
theorem d_Lp_tell_19 : decode b_Lp_tell 19 = .ok (.iconst 1, 1) := by decide +kernel
theorem d_Lp_tell_20 : decode b_Lp_tell 20 = .ok (.iadd, 1) := by decide +kernel
theorem d_Lp_tell_21 : decode b_Lp_tell 21 = .ok (.putfield 45, 3) := by decide +kernel
theorem d_Lp_tell_24 : decode b_Lp_tell 24 = .ok (.aload_n 1, 1) := by decide +kernel
theorem d_Lp_tell_25 : decode b_Lp_tell 25 = .ok (.iload_n 3, 1) := by decide +kernel
theorem d_Lp_tell_26 : decode b_Lp_tell 26 = .ok (.iload 4, 2) := by decide +kernel
theorem d_Lp_tell_28 : decode b_Lp_tell 28 = .ok (.invokevirtual 213, 3) := by decide +kernel
theorem d_Lp_tell_31 : decode b_Lp_tell 31 = .ok (.aload_n 2, 1) := by decide +kernel
theorem d_Lp_tell_32 : decode b_Lp_tell 32 = .ok (.iload_n 3, 1) := by decide +kernel
theorem d_Lp_tell_33 : decode b_Lp_tell 33 = .ok (.putfield 178, 3) := by decide +kernel
theorem d_Lp_tell_36 : decode b_Lp_tell 36 = .ok (.aload_n 0, 1) := by decide +kernel
theorem d_Lp_tell_37 : decode b_Lp_tell 37 = .ok (.aload_n 0, 1) := by decide +kernel
theorem d_Lp_tell_38 : decode b_Lp_tell 38 = .ok (.getfield 38, 3) := by decide +kernel
theorem d_Lp_tell_41 : decode b_Lp_tell 41 = .ok (.putfield 42, 3) := by decide +kernel
theorem d_Lp_tell_44 : decode b_Lp_tell 44 = .ok (.aload_n 0, 1) := by decide +kernel
theorem d_Lp_tell_45 : decode b_Lp_tell 45 = .ok (.aload_n 2, 1) := by decide +kernel
theorem d_Lp_tell_46 : decode b_Lp_tell 46 = .ok (.putfield 38, 3) := by decide +kernel
theorem d_Lp_tell_49 : decode b_Lp_tell 49 = .ok (.aload_n 0, 1) := by decide +kernel
theorem d_Lp_tell_50 : decode b_Lp_tell 50 = .ok (.iconst 1, 1) := by decide +kernel
theorem d_Lp_tell_51 : decode b_Lp_tell 51 = .ok (.putfield 49, 3) := by decide +kernel
theorem d_Lp_tell_54 : decode b_Lp_tell 54 = .ok (.return_, 1) := by decide +kernel
theorem d_Lp_within_0 : decode b_Lp_within 0 = .ok (.iload_n 1, 1) := by decide +kernel
theorem d_Lp_within_1 : decode b_Lp_within 1 = .ok (.iload_n 2, 1) := by decide +kernel
theorem d_Lp_within_2 : decode b_Lp_within 2 = .ok (.iload_n 0, 1) := by decide +kernel
theorem d_Lp_within_3 : decode b_Lp_within 3 = .ok (.invokestatic 217, 3) := by decide +kernel
theorem d_Lp_within_6 : decode b_Lp_within 6 = .ok (.invokestatic 220, 3) := by decide +kernel
theorem d_Lp_within_9 : decode b_Lp_within 9 = .ok (.ireturn, 1) := by decide +kernel
theorem d_Lp_divided_0 : decode b_Lp_divided 0 = .ok (.iload_n 1, 1) := by decide +kernel
theorem d_Lp_divided_1 : decode b_Lp_divided 1 = .ok (.ifCond .le 9, 3) := by decide +kernel
theorem d_Lp_divided_4 : decode b_Lp_divided 4 = .ok (.iload_n 0, 1) := by decide +kernel
theorem d_Lp_divided_5 : decode b_Lp_divided 5 = .ok (.iload_n 1, 1) := by decide +kernel
theorem d_Lp_divided_6 : decode b_Lp_divided 6 = .ok (.idiv, 1) := by decide +kernel
theorem d_Lp_divided_7 : decode b_Lp_divided 7 = .ok (.goto 4, 3) := by decide +kernel
theorem d_Lp_divided_10 : decode b_Lp_divided 10 = .ok (.iconst 0, 1) := by decide +kernel
theorem d_Lp_divided_11 : decode b_Lp_divided 11 = .ok (.ireturn, 1) := by decide +kernel
