theorem d_Co_init_0 : decode b_Co_init 0 = .ok (.aload_n 0, 1) := by decide +kernel
theorem d_Co_init_1 : decode b_Co_init 1 = .ok (.invokespecial 3, 3) := by decide +kernel
theorem d_Co_init_4 : decode b_Co_init 4 = .ok (.aload_n 0, 1) := by decide +kernel
theorem d_Co_init_5 : decode b_Co_init 5 = .ok (.aload_n 1, 1) := by decide +kernel
theorem d_Co_init_6 : decode b_Co_init 6 = .ok (.putfield 9, 3) := by decide +kernel
theorem d_Co_init_9 : decode b_Co_init 9 = .ok (.aload_n 0, 1) := by decide +kernel
theorem d_Co_init_10 : decode b_Co_init 10 = .ok (.sipush 367, 3) := by decide +kernel
theorem d_Co_init_13 : decode b_Co_init 13 = .ok (.newarray .int, 2) := by decide +kernel
theorem d_Co_init_15 : decode b_Co_init 15 = .ok (.putfield 15, 3) := by decide +kernel
theorem d_Co_init_18 : decode b_Co_init 18 = .ok (.aload_n 0, 1) := by decide +kernel
theorem d_Co_init_19 : decode b_Co_init 19 = .ok (.sipush 367, 3) := by decide +kernel
theorem d_Co_init_22 : decode b_Co_init 22 = .ok (.newarray .int, 2) := by decide +kernel
theorem d_Co_init_24 : decode b_Co_init 24 = .ok (.putfield 19, 3) := by decide +kernel
theorem d_Co_init_27 : decode b_Co_init 27 = .ok (.aload_n 0, 1) := by decide +kernel
theorem d_Co_init_28 : decode b_Co_init 28 = .ok (.sipush 367, 3) := by decide +kernel
theorem d_Co_init_31 : decode b_Co_init 31 = .ok (.newarray .int, 2) := by decide +kernel
theorem d_Co_init_33 : decode b_Co_init 33 = .ok (.putfield 22, 3) := by decide +kernel
theorem d_Co_init_36 : decode b_Co_init 36 = .ok (.aload_n 0, 1) := by decide +kernel
theorem d_Co_init_37 : decode b_Co_init 37 = .ok (.sipush 367, 3) := by decide +kernel
theorem d_Co_init_40 : decode b_Co_init 40 = .ok (.newarray .int, 2) := by decide +kernel
theorem d_Co_init_42 : decode b_Co_init 42 = .ok (.putfield 25, 3) := by decide +kernel
theorem d_Co_init_45 : decode b_Co_init 45 = .ok (.aload_n 0, 1) := by decide +kernel
theorem d_Co_init_46 : decode b_Co_init 46 = .ok (.getfield 15, 3) := by decide +kernel
theorem d_Co_init_49 : decode b_Co_init 49 = .ok (.iconst 2, 1) := by decide +kernel
theorem d_Co_init_50 : decode b_Co_init 50 = .ok (.aload_n 1, 1) := by decide +kernel
theorem d_Co_init_51 : decode b_Co_init 51 = .ok (.getfield 28, 3) := by decide +kernel
theorem d_Co_init_54 : decode b_Co_init 54 = .ok (.bipush 32, 2) := by decide +kernel
theorem d_Co_init_56 : decode b_Co_init 56 = .ok (.iadd, 1) := by decide +kernel
theorem d_Co_init_57 : decode b_Co_init 57 = .ok (.bipush 64, 2) := by decide +kernel
theorem d_Co_init_59 : decode b_Co_init 59 = .ok (.idiv, 1) := by decide +kernel
theorem d_Co_init_60 : decode b_Co_init 60 = .ok (.invokestatic 34, 3) := by decide +kernel
theorem d_Co_init_63 : decode b_Co_init 63 = .ok (.invokestatic 40, 3) := by decide +kernel
theorem d_Co_init_66 : decode b_Co_init 66 = .ok (.aload_n 0, 1) := by decide +kernel
theorem d_Co_init_67 : decode b_Co_init 67 = .ok (.getfield 25, 3) := by decide +kernel
theorem d_Co_init_70 : decode b_Co_init 70 = .ok (.iconst 1, 1) := by decide +kernel
theorem d_Co_init_71 : decode b_Co_init 71 = .ok (.invokestatic 40, 3) := by decide +kernel
theorem d_Co_init_74 : decode b_Co_init 74 = .ok (.return_, 1) := by decide +kernel
theorem d_Co_has_0 : decode b_Co_has 0 = .ok (.iload_n 0, 1) := by decide +kernel
theorem d_Co_has_1 : decode b_Co_has 1 = .ok (.iconst 1, 1) := by decide +kernel
theorem d_Co_has_2 : decode b_Co_has 2 = .ok (.if_icmp .lt 14, 3) := by decide +kernel
theorem d_Co_has_5 : decode b_Co_has 5 = .ok (.iload_n 0, 1) := by decide +kernel
theorem d_Co_has_6 : decode b_Co_has 6 = .ok (.sipush 366, 3) := by decide +kernel
theorem d_Co_has_9 : decode b_Co_has 9 = .ok (.if_icmp .gt 7, 3) := by decide +kernel
theorem d_Co_has_12 : decode b_Co_has 12 = .ok (.iconst 1, 1) := by decide +kernel
theorem d_Co_has_13 : decode b_Co_has 13 = .ok (.goto 4, 3) := by decide +kernel
theorem d_Co_has_16 : decode b_Co_has 16 = .ok (.iconst 0, 1) := by decide +kernel
theorem d_Co_has_17 : decode b_Co_has 17 = .ok (.ireturn, 1) := by decide +kernel
theorem d_Co_held_0 : decode b_Co_held 0 = .ok (.iload_n 1, 1) := by decide +kernel
theorem d_Co_held_1 : decode b_Co_held 1 = .ok (.invokestatic 46, 3) := by decide +kernel
theorem d_Co_held_4 : decode b_Co_held 4 = .ok (.ifCond .ne 5, 3) := by decide +kernel
theorem d_Co_held_7 : decode b_Co_held 7 = .ok (.iconst 0, 1) := by decide +kernel
theorem d_Co_held_8 : decode b_Co_held 8 = .ok (.ireturn, 1) := by decide +kernel
theorem d_Co_held_9 : decode b_Co_held 9 = .ok (.iload_n 2, 1) := by decide +kernel
theorem d_Co_held_10 : decode b_Co_held 10 = .ok (.tableswitch 47 0 2 #[26, 33, 40], 26) := by decide +kernel
theorem d_Co_held_36 : decode b_Co_held 36 = .ok (.aload_n 0, 1) := by decide +kernel
theorem d_Co_held_37 : decode b_Co_held 37 = .ok (.getfield 15, 3) := by decide +kernel
theorem d_Co_held_40 : decode b_Co_held 40 = .ok (.iload_n 1, 1) := by decide +kernel
theorem d_Co_held_41 : decode b_Co_held 41 = .ok (.iaload, 1) := by decide +kernel
theorem d_Co_held_42 : decode b_Co_held 42 = .ok (.ireturn, 1) := by decide +kernel
theorem d_Co_held_43 : decode b_Co_held 43 = .ok (.aload_n 0, 1) := by decide +kernel
theorem d_Co_held_44 : decode b_Co_held 44 = .ok (.getfield 19, 3) := by decide +kernel
theorem d_Co_held_47 : decode b_Co_held 47 = .ok (.iload_n 1, 1) := by decide +kernel
theorem d_Co_held_48 : decode b_Co_held 48 = .ok (.iaload, 1) := by decide +kernel
theorem d_Co_held_49 : decode b_Co_held 49 = .ok (.ireturn, 1) := by decide +kernel
theorem d_Co_held_50 : decode b_Co_held 50 = .ok (.aload_n 0, 1) := by decide +kernel
theorem d_Co_held_51 : decode b_Co_held 51 = .ok (.getfield 22, 3) := by decide +kernel
theorem d_Co_held_54 : decode b_Co_held 54 = .ok (.iload_n 1, 1) := by decide +kernel
theorem d_Co_held_55 : decode b_Co_held 55 = .ok (.iaload, 1) := by decide +kernel
theorem d_Co_held_56 : decode b_Co_held 56 = .ok (.ireturn, 1) := by decide +kernel
theorem d_Co_held_57 : decode b_Co_held 57 = .ok (.aload_n 0, 1) := by decide +kernel
theorem d_Co_held_58 : decode b_Co_held 58 = .ok (.getfield 25, 3) := by decide +kernel
theorem d_Co_held_61 : decode b_Co_held 61 = .ok (.iload_n 1, 1) := by decide +kernel
theorem d_Co_held_62 : decode b_Co_held 62 = .ok (.iaload, 1) := by decide +kernel
theorem d_Co_held_63 : decode b_Co_held 63 = .ok (.ireturn, 1) := by decide +kernel
theorem d_Co_correction_0 : decode b_Co_correction 0 = .ok (.iload_n 1, 1) := by decide +kernel
theorem d_Co_correction_1 : decode b_Co_correction 1 = .ok (.invokestatic 46, 3) := by decide +kernel
theorem d_Co_correction_4 : decode b_Co_correction 4 = .ok (.ifCond .eq 12, 3) := by decide +kernel
theorem d_Co_correction_7 : decode b_Co_correction 7 = .ok (.aload_n 0, 1) := by decide +kernel
theorem d_Co_correction_8 : decode b_Co_correction 8 = .ok (.getfield 22, 3) := by decide +kernel
theorem d_Co_correction_11 : decode b_Co_correction 11 = .ok (.iload_n 1, 1) := by decide +kernel
theorem d_Co_correction_12 : decode b_Co_correction 12 = .ok (.iaload, 1) := by decide +kernel
theorem d_Co_correction_13 : decode b_Co_correction 13 = .ok (.goto 4, 3) := by decide +kernel
theorem d_Co_correction_16 : decode b_Co_correction 16 = .ok (.iconst 0, 1) := by decide +kernel
theorem d_Co_correction_17 : decode b_Co_correction 17 = .ok (.ireturn, 1) := by decide +kernel
theorem d_Co_fold_0 : decode b_Co_fold 0 = .ok (.iload_n 1, 1) := by decide +kernel
theorem d_Co_fold_1 : decode b_Co_fold 1 = .ok (.invokestatic 50, 3) := by decide +kernel
theorem d_Co_fold_4 : decode b_Co_fold 4 = .ok (.ifCond .eq 22, 3) := by decide +kernel
theorem d_Co_fold_7 : decode b_Co_fold 7 = .ok (.iconst 2, 1) := by decide +kernel
theorem d_Co_fold_8 : decode b_Co_fold 8 = .ok (.iload_n 2, 1) := by decide +kernel
theorem d_Co_fold_9 : decode b_Co_fold 9 = .ok (.invokestatic 53, 3) := by decide +kernel
theorem d_Co_fold_12 : decode b_Co_fold 12 = .ok (.imul, 1) := by decide +kernel
theorem d_Co_fold_13 : decode b_Co_fold 13 = .ok (.aload_n 0, 1) := by decide +kernel
theorem d_Co_fold_14 : decode b_Co_fold 14 = .ok (.iload_n 1, 1) := by decide +kernel
theorem d_Co_fold_15 : decode b_Co_fold 15 = .ok (.iload_n 2, 1) := by decide +kernel
theorem d_Co_fold_16 : decode b_Co_fold 16 = .ok (.invokevirtual 57, 3) := by decide +kernel
theorem d_Co_fold_19 : decode b_Co_fold 19 = .ok (.isub, 1) := by decide +kernel
theorem d_Co_fold_20 : decode b_Co_fold 20 = .ok (.iload_n 1, 1) := by decide +kernel
theorem d_Co_fold_21 : decode b_Co_fold 21 = .ok (.invokestatic 60, 3) := by decide +kernel
theorem d_Co_fold_24 : decode b_Co_fold 24 = .ok (.isub, 1) := by decide +kernel
theorem d_Co_fold_25 : decode b_Co_fold 25 = .ok (.ireturn, 1) := by decide +kernel
theorem d_Co_fold_26 : decode b_Co_fold 26 = .ok (.aload_n 0, 1) := by decide +kernel
theorem d_Co_fold_27 : decode b_Co_fold 27 = .ok (.iload_n 1, 1) := by decide +kernel
theorem d_Co_fold_28 : decode b_Co_fold 28 = .ok (.invokevirtual 63, 3) := by decide +kernel
theorem d_Co_fold_31 : decode b_Co_fold 31 = .ok (.ifCond .eq 22, 3) := by decide +kernel
theorem d_Co_fold_34 : decode b_Co_fold 34 = .ok (.iload_n 2, 1) := by decide +kernel
theorem d_Co_fold_35 : decode b_Co_fold 35 = .ok (.ifCond .ge 12, 3) := by decide +kernel
theorem d_Co_fold_38 : decode b_Co_fold 38 = .ok (.bipush (-2), 2) := by decide +kernel
theorem d_Co_fold_40 : decode b_Co_fold 40 = .ok (.iload_n 2, 1) := by decide +kernel
theorem d_Co_fold_41 : decode b_Co_fold 41 = .ok (.iconst 1, 1) := by decide +kernel
theorem d_Co_fold_42 : decode b_Co_fold 42 = .ok (.iadd, 1) := by decide +kernel
theorem d_Co_fold_43 : decode b_Co_fold 43 = .ok (.imul, 1) := by decide +kernel
theorem d_Co_fold_44 : decode b_Co_fold 44 = .ok (.goto 8, 3) := by decide +kernel
theorem d_Co_fold_47 : decode b_Co_fold 47 = .ok (.iconst 2, 1) := by decide +kernel
theorem d_Co_fold_48 : decode b_Co_fold 48 = .ok (.iload_n 2, 1) := by decide +kernel
theorem d_Co_fold_49 : decode b_Co_fold 49 = .ok (.imul, 1) := by decide +kernel
theorem d_Co_fold_50 : decode b_Co_fold 50 = .ok (.iconst 1, 1) := by decide +kernel
theorem d_Co_fold_51 : decode b_Co_fold 51 = .ok (.iadd, 1) := by decide +kernel
theorem d_Co_fold_52 : decode b_Co_fold 52 = .ok (.ireturn, 1) := by decide +kernel
theorem d_Co_fold_53 : decode b_Co_fold 53 = .ok (.iload_n 2, 1) := by decide +kernel
theorem d_Co_fold_54 : decode b_Co_fold 54 = .ok (.ifCond .ge 12, 3) := by decide +kernel
theorem d_Co_fold_57 : decode b_Co_fold 57 = .ok (.bipush (-2), 2) := by decide +kernel
theorem d_Co_fold_59 : decode b_Co_fold 59 = .ok (.iload_n 2, 1) := by decide +kernel
theorem d_Co_fold_60 : decode b_Co_fold 60 = .ok (.imul, 1) := by decide +kernel
theorem d_Co_fold_61 : decode b_Co_fold 61 = .ok (.iconst 1, 1) := by decide +kernel
theorem d_Co_fold_62 : decode b_Co_fold 62 = .ok (.isub, 1) := by decide +kernel
theorem d_Co_fold_63 : decode b_Co_fold 63 = .ok (.goto 6, 3) := by decide +kernel
theorem d_Co_fold_66 : decode b_Co_fold 66 = .ok (.iconst 2, 1) := by decide +kernel
theorem d_Co_fold_67 : decode b_Co_fold 67 = .ok (.iload_n 2, 1) := by decide +kernel
theorem d_Co_fold_68 : decode b_Co_fold 68 = .ok (.imul, 1) := by decide +kernel
theorem d_Co_fold_69 : decode b_Co_fold 69 = .ok (.ireturn, 1) := by decide +kernel
theorem d_Co_unfold_0 : decode b_Co_unfold 0 = .ok (.iload_n 1, 1) := by decide +kernel
theorem d_Co_unfold_1 : decode b_Co_unfold 1 = .ok (.invokestatic 50, 3) := by decide +kernel
theorem d_Co_unfold_4 : decode b_Co_unfold 4 = .ok (.ifCond .eq 10, 3) := by decide +kernel
theorem d_Co_unfold_7 : decode b_Co_unfold 7 = .ok (.aload_n 0, 1) := by decide +kernel
theorem d_Co_unfold_8 : decode b_Co_unfold 8 = .ok (.iload_n 1, 1) := by decide +kernel
theorem d_Co_unfold_9 : decode b_Co_unfold 9 = .ok (.iload_n 2, 1) := by decide +kernel
theorem d_Co_unfold_10 : decode b_Co_unfold 10 = .ok (.invokevirtual 66, 3) := by decide +kernel
theorem d_Co_unfold_13 : decode b_Co_unfold 13 = .ok (.ireturn, 1) := by decide +kernel
theorem d_Co_unfold_14 : decode b_Co_unfold 14 = .ok (.iload_n 2, 1) := by decide +kernel
theorem d_Co_unfold_15 : decode b_Co_unfold 15 = .ok (.iconst 2, 1) := by decide +kernel
theorem d_Co_unfold_16 : decode b_Co_unfold 16 = .ok (.irem, 1) := by decide +kernel
theorem d_Co_unfold_17 : decode b_Co_unfold 17 = .ok (.ifCond .eq 7, 3) := by decide +kernel
theorem d_Co_unfold_20 : decode b_Co_unfold 20 = .ok (.iconst 1, 1) := by decide +kernel
theorem d_Co_unfold_21 : decode b_Co_unfold 21 = .ok (.goto 4, 3) := by decide +kernel
theorem d_Co_unfold_24 : decode b_Co_unfold 24 = .ok (.iconst 0, 1) := by decide +kernel
theorem d_Co_unfold_25 : decode b_Co_unfold 25 = .ok (.istore_n 3, 1) := by decide +kernel
theorem d_Co_unfold_26 : decode b_Co_unfold 26 = .ok (.iload_n 2, 1) := by decide +kernel
theorem d_Co_unfold_27 : decode b_Co_unfold 27 = .ok (.iconst 2, 1) := by decide +kernel
theorem d_Co_unfold_28 : decode b_Co_unfold 28 = .ok (.idiv, 1) := by decide +kernel
theorem d_Co_unfold_29 : decode b_Co_unfold 29 = .ok (.istore 4, 2) := by decide +kernel
theorem d_Co_unfold_31 : decode b_Co_unfold 31 = .ok (.iload_n 3, 1) := by decide +kernel
theorem d_Co_unfold_32 : decode b_Co_unfold 32 = .ok (.aload_n 0, 1) := by decide +kernel
theorem d_Co_unfold_33 : decode b_Co_unfold 33 = .ok (.iload_n 1, 1) := by decide +kernel
theorem d_Co_unfold_34 : decode b_Co_unfold 34 = .ok (.invokevirtual 63, 3) := by decide +kernel
theorem d_Co_unfold_37 : decode b_Co_unfold 37 = .ok (.if_icmp .ne 8, 3) := by decide +kernel
theorem d_Co_unfold_40 : decode b_Co_unfold 40 = .ok (.iload 4, 2) := by decide +kernel
theorem d_Co_unfold_42 : decode b_Co_unfold 42 = .ok (.goto 8, 3) := by decide +kernel
theorem d_Co_unfold_45 : decode b_Co_unfold 45 = .ok (.iload 4, 2) := by decide +kernel
theorem d_Co_unfold_47 : decode b_Co_unfold 47 = .ok (.ineg, 1) := by decide +kernel
theorem d_Co_unfold_48 : decode b_Co_unfold 48 = .ok (.iconst 1, 1) := by decide +kernel
theorem d_Co_unfold_49 : decode b_Co_unfold 49 = .ok (.isub, 1) := by decide +kernel
theorem d_Co_unfold_50 : decode b_Co_unfold 50 = .ok (.ireturn, 1) := by decide +kernel
theorem d_Co_unfoldEnd_0 : decode b_Co_unfoldEnd 0 = .ok (.iload_n 2, 1) := by decide +kernel
theorem d_Co_unfoldEnd_1 : decode b_Co_unfoldEnd 1 = .ok (.iload_n 1, 1) := by decide +kernel
theorem d_Co_unfoldEnd_2 : decode b_Co_unfoldEnd 2 = .ok (.invokestatic 60, 3) := by decide +kernel
theorem d_Co_unfoldEnd_5 : decode b_Co_unfoldEnd 5 = .ok (.iadd, 1) := by decide +kernel
theorem d_Co_unfoldEnd_6 : decode b_Co_unfoldEnd 6 = .ok (.istore_n 3, 1) := by decide +kernel
theorem d_Co_unfoldEnd_7 : decode b_Co_unfoldEnd 7 = .ok (.iload_n 3, 1) := by decide +kernel
theorem d_Co_unfoldEnd_8 : decode b_Co_unfoldEnd 8 = .ok (.iconst 2, 1) := by decide +kernel
theorem d_Co_unfoldEnd_9 : decode b_Co_unfoldEnd 9 = .ok (.irem, 1) := by decide +kernel
theorem d_Co_unfoldEnd_10 : decode b_Co_unfoldEnd 10 = .ok (.ifCond .eq 7, 3) := by decide +kernel
theorem d_Co_unfoldEnd_13 : decode b_Co_unfoldEnd 13 = .ok (.iconst 1, 1) := by decide +kernel
theorem d_Co_unfoldEnd_14 : decode b_Co_unfoldEnd 14 = .ok (.goto 4, 3) := by decide +kernel
theorem d_Co_unfoldEnd_17 : decode b_Co_unfoldEnd 17 = .ok (.iconst 0, 1) := by decide +kernel
theorem d_Co_unfoldEnd_18 : decode b_Co_unfoldEnd 18 = .ok (.istore 4, 2) := by decide +kernel
theorem d_Co_unfoldEnd_20 : decode b_Co_unfoldEnd 20 = .ok (.iload_n 3, 1) := by decide +kernel
theorem d_Co_unfoldEnd_21 : decode b_Co_unfoldEnd 21 = .ok (.iconst 1, 1) := by decide +kernel
theorem d_Co_unfoldEnd_22 : decode b_Co_unfoldEnd 22 = .ok (.iadd, 1) := by decide +kernel
theorem d_Co_unfoldEnd_23 : decode b_Co_unfoldEnd 23 = .ok (.iconst 2, 1) := by decide +kernel
theorem d_Co_unfoldEnd_24 : decode b_Co_unfoldEnd 24 = .ok (.idiv, 1) := by decide +kernel
theorem d_Co_unfoldEnd_25 : decode b_Co_unfoldEnd 25 = .ok (.istore 5, 2) := by decide +kernel
theorem d_Co_unfoldEnd_27 : decode b_Co_unfoldEnd 27 = .ok (.iload 4, 2) := by decide +kernel
theorem d_Co_unfoldEnd_29 : decode b_Co_unfoldEnd 29 = .ok (.aload_n 0, 1) := by decide +kernel
theorem d_Co_unfoldEnd_30 : decode b_Co_unfoldEnd 30 = .ok (.iload_n 1, 1) := by decide +kernel
theorem d_Co_unfoldEnd_31 : decode b_Co_unfoldEnd 31 = .ok (.invokevirtual 69, 3) := by decide +kernel
theorem d_Co_unfoldEnd_34 : decode b_Co_unfoldEnd 34 = .ok (.if_icmp .ne 8, 3) := by decide +kernel
theorem d_Co_unfoldEnd_37 : decode b_Co_unfoldEnd 37 = .ok (.iload 5, 2) := by decide +kernel
theorem d_Co_unfoldEnd_39 : decode b_Co_unfoldEnd 39 = .ok (.goto 6, 3) := by decide +kernel
theorem d_Co_unfoldEnd_42 : decode b_Co_unfoldEnd 42 = .ok (.iload 5, 2) := by decide +kernel
theorem d_Co_unfoldEnd_44 : decode b_Co_unfoldEnd 44 = .ok (.ineg, 1) := by decide +kernel
theorem d_Co_unfoldEnd_45 : decode b_Co_unfoldEnd 45 = .ok (.ireturn, 1) := by decide +kernel
theorem d_Co_learn_0 : decode b_Co_learn 0 = .ok (.iload_n 1, 1) := by decide +kernel
theorem d_Co_learn_1 : decode b_Co_learn 1 = .ok (.invokestatic 46, 3) := by decide +kernel
theorem d_Co_learn_4 : decode b_Co_learn 4 = .ok (.ifCond .ne 4, 3) := by decide +kernel
theorem d_Co_learn_7 : decode b_Co_learn 7 = .ok (.return_, 1) := by decide +kernel
theorem d_Co_learn_8 : decode b_Co_learn 8 = .ok (.iload_n 1, 1) := by decide +kernel
theorem d_Co_learn_9 : decode b_Co_learn 9 = .ok (.invokestatic 50, 3) := by decide +kernel
theorem d_Co_learn_12 : decode b_Co_learn 12 = .ok (.ifCond .eq 11, 3) := by decide +kernel
theorem d_Co_learn_15 : decode b_Co_learn 15 = .ok (.aload_n 0, 1) := by decide +kernel
theorem d_Co_learn_16 : decode b_Co_learn 16 = .ok (.iload_n 1, 1) := by decide +kernel
theorem d_Co_learn_17 : decode b_Co_learn 17 = .ok (.iload_n 2, 1) := by decide +kernel
theorem d_Co_learn_18 : decode b_Co_learn 18 = .ok (.iload_n 3, 1) := by decide +kernel
theorem d_Co_learn_19 : decode b_Co_learn 19 = .ok (.invokevirtual 72, 3) := by decide +kernel
theorem d_Co_learn_22 : decode b_Co_learn 22 = .ok (.return_, 1) := by decide +kernel
theorem d_Co_learn_23 : decode b_Co_learn 23 = .ok (.aload_n 0, 1) := by decide +kernel
theorem d_Co_learn_24 : decode b_Co_learn 24 = .ok (.getfield 19, 3) := by decide +kernel
theorem d_Co_learn_27 : decode b_Co_learn 27 = .ok (.iload_n 1, 1) := by decide +kernel
theorem d_Co_learn_28 : decode b_Co_learn 28 = .ok (.dup2, 1) := by decide +kernel
theorem d_Co_learn_29 : decode b_Co_learn 29 = .ok (.iaload, 1) := by decide +kernel
theorem d_Co_learn_30 : decode b_Co_learn 30 = .ok (.iload_n 2, 1) := by decide +kernel
theorem d_Co_learn_31 : decode b_Co_learn 31 = .ok (.aload_n 0, 1) := by decide +kernel
theorem d_Co_learn_32 : decode b_Co_learn 32 = .ok (.getfield 9, 3) := by decide +kernel
theorem d_Co_learn_35 : decode b_Co_learn 35 = .ok (.getfield 76, 3) := by decide +kernel
theorem d_Co_learn_38 : decode b_Co_learn 38 = .ok (.imul, 1) := by decide +kernel
theorem d_Co_learn_39 : decode b_Co_learn 39 = .ok (.iadd, 1) := by decide +kernel
theorem d_Co_learn_40 : decode b_Co_learn 40 = .ok (.iastore, 1) := by decide +kernel
theorem d_Co_learn_41 : decode b_Co_learn 41 = .ok (.aload_n 0, 1) := by decide +kernel
theorem d_Co_learn_42 : decode b_Co_learn 42 = .ok (.getfield 15, 3) := by decide +kernel
theorem d_Co_learn_45 : decode b_Co_learn 45 = .ok (.iload_n 1, 1) := by decide +kernel
theorem d_Co_learn_46 : decode b_Co_learn 46 = .ok (.dup2, 1) := by decide +kernel
theorem d_Co_learn_47 : decode b_Co_learn 47 = .ok (.iaload, 1) := by decide +kernel
theorem d_Co_learn_48 : decode b_Co_learn 48 = .ok (.iload_n 2, 1) := by decide +kernel
theorem d_Co_learn_49 : decode b_Co_learn 49 = .ok (.invokestatic 53, 3) := by decide +kernel
theorem d_Co_learn_52 : decode b_Co_learn 52 = .ok (.iadd, 1) := by decide +kernel
theorem d_Co_learn_53 : decode b_Co_learn 53 = .ok (.iastore, 1) := by decide +kernel
theorem d_Co_learn_54 : decode b_Co_learn 54 = .ok (.aload_n 0, 1) := by decide +kernel
theorem d_Co_learn_55 : decode b_Co_learn 55 = .ok (.getfield 25, 3) := by decide +kernel
theorem d_Co_learn_58 : decode b_Co_learn 58 = .ok (.iload_n 1, 1) := by decide +kernel
theorem d_Co_learn_59 : decode b_Co_learn 59 = .ok (.iaload, 1) := by decide +kernel
theorem d_Co_learn_60 : decode b_Co_learn 60 = .ok (.aload_n 0, 1) := by decide +kernel
theorem d_Co_learn_61 : decode b_Co_learn 61 = .ok (.getfield 9, 3) := by decide +kernel
theorem d_Co_learn_64 : decode b_Co_learn 64 = .ok (.getfield 79, 3) := by decide +kernel
theorem d_Co_learn_67 : decode b_Co_learn 67 = .ok (.if_icmp .ne 60, 3) := by decide +kernel
theorem d_Co_learn_70 : decode b_Co_learn 70 = .ok (.aload_n 0, 1) := by decide +kernel
theorem d_Co_learn_71 : decode b_Co_learn 71 = .ok (.getfield 15, 3) := by decide +kernel
theorem d_Co_learn_74 : decode b_Co_learn 74 = .ok (.iload_n 1, 1) := by decide +kernel
theorem d_Co_learn_75 : decode b_Co_learn 75 = .ok (.dup2, 1) := by decide +kernel
theorem d_Co_learn_76 : decode b_Co_learn 76 = .ok (.iaload, 1) := by decide +kernel
theorem d_Co_learn_77 : decode b_Co_learn 77 = .ok (.iconst 2, 1) := by decide +kernel
theorem d_Co_learn_78 : decode b_Co_learn 78 = .ok (.idiv, 1) := by decide +kernel
theorem d_Co_learn_79 : decode b_Co_learn 79 = .ok (.iastore, 1) := by decide +kernel
theorem d_Co_learn_80 : decode b_Co_learn 80 = .ok (.aload_n 0, 1) := by decide +kernel
theorem d_Co_learn_81 : decode b_Co_learn 81 = .ok (.getfield 25, 3) := by decide +kernel
theorem d_Co_learn_84 : decode b_Co_learn 84 = .ok (.iload_n 1, 1) := by decide +kernel
theorem d_Co_learn_85 : decode b_Co_learn 85 = .ok (.dup2, 1) := by decide +kernel
theorem d_Co_learn_86 : decode b_Co_learn 86 = .ok (.iaload, 1) := by decide +kernel
theorem d_Co_learn_87 : decode b_Co_learn 87 = .ok (.iconst 2, 1) := by decide +kernel
theorem d_Co_learn_88 : decode b_Co_learn 88 = .ok (.idiv, 1) := by decide +kernel
theorem d_Co_learn_89 : decode b_Co_learn 89 = .ok (.iastore, 1) := by decide +kernel
theorem d_Co_learn_90 : decode b_Co_learn 90 = .ok (.aload_n 0, 1) := by decide +kernel
theorem d_Co_learn_91 : decode b_Co_learn 91 = .ok (.getfield 19, 3) := by decide +kernel
theorem d_Co_learn_94 : decode b_Co_learn 94 = .ok (.iload_n 1, 1) := by decide +kernel
theorem d_Co_learn_95 : decode b_Co_learn 95 = .ok (.aload_n 0, 1) := by decide +kernel
theorem d_Co_learn_96 : decode b_Co_learn 96 = .ok (.getfield 19, 3) := by decide +kernel
theorem d_Co_learn_99 : decode b_Co_learn 99 = .ok (.iload_n 1, 1) := by decide +kernel
theorem d_Co_learn_100 : decode b_Co_learn 100 = .ok (.iaload, 1) := by decide +kernel
theorem d_Co_learn_101 : decode b_Co_learn 101 = .ok (.ifCond .ge 17, 3) := by decide +kernel
theorem d_Co_learn_104 : decode b_Co_learn 104 = .ok (.iconst 1, 1) := by decide +kernel
theorem d_Co_learn_105 : decode b_Co_learn 105 = .ok (.aload_n 0, 1) := by decide +kernel
theorem d_Co_learn_106 : decode b_Co_learn 106 = .ok (.getfield 19, 3) := by decide +kernel
theorem d_Co_learn_109 : decode b_Co_learn 109 = .ok (.iload_n 1, 1) := by decide +kernel
theorem d_Co_learn_110 : decode b_Co_learn 110 = .ok (.iaload, 1) := by decide +kernel
theorem d_Co_learn_111 : decode b_Co_learn 111 = .ok (.isub, 1) := by decide +kernel
theorem d_Co_learn_112 : decode b_Co_learn 112 = .ok (.iconst 2, 1) := by decide +kernel
theorem d_Co_learn_113 : decode b_Co_learn 113 = .ok (.idiv, 1) := by decide +kernel
theorem d_Co_learn_114 : decode b_Co_learn 114 = .ok (.ineg, 1) := by decide +kernel
theorem d_Co_learn_115 : decode b_Co_learn 115 = .ok (.goto 11, 3) := by decide +kernel
theorem d_Co_learn_118 : decode b_Co_learn 118 = .ok (.aload_n 0, 1) := by decide +kernel
theorem d_Co_learn_119 : decode b_Co_learn 119 = .ok (.getfield 19, 3) := by decide +kernel
theorem d_Co_learn_122 : decode b_Co_learn 122 = .ok (.iload_n 1, 1) := by decide +kernel
theorem d_Co_learn_123 : decode b_Co_learn 123 = .ok (.iaload, 1) := by decide +kernel
theorem d_Co_learn_124 : decode b_Co_learn 124 = .ok (.iconst 2, 1) := by decide +kernel
theorem d_Co_learn_125 : decode b_Co_learn 125 = .ok (.idiv, 1) := by decide +kernel
theorem d_Co_learn_126 : decode b_Co_learn 126 = .ok (.iastore, 1) := by decide +kernel
theorem d_Co_learn_127 : decode b_Co_learn 127 = .ok (.aload_n 0, 1) := by decide +kernel
theorem d_Co_learn_128 : decode b_Co_learn 128 = .ok (.getfield 25, 3) := by decide +kernel
theorem d_Co_learn_131 : decode b_Co_learn 131 = .ok (.iload_n 1, 1) := by decide +kernel
theorem d_Co_learn_132 : decode b_Co_learn 132 = .ok (.dup2, 1) := by decide +kernel
theorem d_Co_learn_133 : decode b_Co_learn 133 = .ok (.iaload, 1) := by decide +kernel
theorem d_Co_learn_134 : decode b_Co_learn 134 = .ok (.iconst 1, 1) := by decide +kernel
theorem d_Co_learn_135 : decode b_Co_learn 135 = .ok (.iadd, 1) := by decide +kernel
theorem d_Co_learn_136 : decode b_Co_learn 136 = .ok (.iastore, 1) := by decide +kernel
theorem d_Co_learn_137 : decode b_Co_learn 137 = .ok (.aload_n 0, 1) := by decide +kernel
theorem d_Co_learn_138 : decode b_Co_learn 138 = .ok (.iload_n 1, 1) := by decide +kernel
theorem d_Co_learn_139 : decode b_Co_learn 139 = .ok (.invokevirtual 82, 3) := by decide +kernel
theorem d_Co_learn_142 : decode b_Co_learn 142 = .ok (.return_, 1) := by decide +kernel
theorem d_Co_correct_0 : decode b_Co_correct 0 = .ok (.iload_n 1, 1) := by decide +kernel
theorem d_Co_correct_1 : decode b_Co_correct 1 = .ok (.invokestatic 46, 3) := by decide +kernel
theorem d_Co_correct_4 : decode b_Co_correct 4 = .ok (.ifCond .ne 4, 3) := by decide +kernel
theorem d_Co_correct_7 : decode b_Co_correct 7 = .ok (.return_, 1) := by decide +kernel
theorem d_Co_correct_8 : decode b_Co_correct 8 = .ok (.aload_n 0, 1) := by decide +kernel
theorem d_Co_correct_9 : decode b_Co_correct 9 = .ok (.getfield 25, 3) := by decide +kernel
theorem d_Co_correct_12 : decode b_Co_correct 12 = .ok (.iload_n 1, 1) := by decide +kernel
theorem d_Co_correct_13 : decode b_Co_correct 13 = .ok (.iaload, 1) := by decide +kernel
theorem d_Co_correct_14 : decode b_Co_correct 14 = .ok (.istore_n 2, 1) := by decide +kernel
theorem d_Co_correct_15 : decode b_Co_correct 15 = .ok (.aload_n 0, 1) := by decide +kernel
theorem d_Co_correct_16 : decode b_Co_correct 16 = .ok (.getfield 19, 3) := by decide +kernel
theorem d_Co_correct_19 : decode b_Co_correct 19 = .ok (.iload_n 1, 1) := by decide +kernel
theorem d_Co_correct_20 : decode b_Co_correct 20 = .ok (.iaload, 1) := by decide +kernel
theorem d_Co_correct_21 : decode b_Co_correct 21 = .ok (.iload_n 2, 1) := by decide +kernel
theorem d_Co_correct_22 : decode b_Co_correct 22 = .ok (.ineg, 1) := by decide +kernel
theorem d_Co_correct_23 : decode b_Co_correct 23 = .ok (.if_icmp .gt 45, 3) := by decide +kernel
theorem d_Co_correct_26 : decode b_Co_correct 26 = .ok (.aload_n 0, 1) := by decide +kernel
theorem d_Co_correct_27 : decode b_Co_correct 27 = .ok (.getfield 19, 3) := by decide +kernel
theorem d_Co_correct_30 : decode b_Co_correct 30 = .ok (.iload_n 1, 1) := by decide +kernel
theorem d_Co_correct_31 : decode b_Co_correct 31 = .ok (.aload_n 0, 1) := by decide +kernel
theorem d_Co_correct_32 : decode b_Co_correct 32 = .ok (.getfield 19, 3) := by decide +kernel
theorem d_Co_correct_35 : decode b_Co_correct 35 = .ok (.iload_n 1, 1) := by decide +kernel
theorem d_Co_correct_36 : decode b_Co_correct 36 = .ok (.iaload, 1) := by decide +kernel
theorem d_Co_correct_37 : decode b_Co_correct 37 = .ok (.iload_n 2, 1) := by decide +kernel
theorem d_Co_correct_38 : decode b_Co_correct 38 = .ok (.iadd, 1) := by decide +kernel
theorem d_Co_correct_39 : decode b_Co_correct 39 = .ok (.iconst 1, 1) := by decide +kernel
theorem d_Co_correct_40 : decode b_Co_correct 40 = .ok (.iload_n 2, 1) := by decide +kernel
theorem d_Co_correct_41 : decode b_Co_correct 41 = .ok (.isub, 1) := by decide +kernel
theorem d_Co_correct_42 : decode b_Co_correct 42 = .ok (.invokestatic 34, 3) := by decide +kernel
theorem d_Co_correct_45 : decode b_Co_correct 45 = .ok (.iastore, 1) := by decide +kernel
theorem d_Co_correct_46 : decode b_Co_correct 46 = .ok (.aload_n 0, 1) := by decide +kernel
theorem d_Co_correct_47 : decode b_Co_correct 47 = .ok (.getfield 22, 3) := by decide +kernel
theorem d_Co_correct_50 : decode b_Co_correct 50 = .ok (.iload_n 1, 1) := by decide +kernel
theorem d_Co_correct_51 : decode b_Co_correct 51 = .ok (.aload_n 0, 1) := by decide +kernel
theorem d_Co_correct_52 : decode b_Co_correct 52 = .ok (.getfield 22, 3) := by decide +kernel
theorem d_Co_correct_55 : decode b_Co_correct 55 = .ok (.iload_n 1, 1) := by decide +kernel
theorem d_Co_correct_56 : decode b_Co_correct 56 = .ok (.iaload, 1) := by decide +kernel
theorem d_Co_correct_57 : decode b_Co_correct 57 = .ok (.iconst 1, 1) := by decide +kernel
theorem d_Co_correct_58 : decode b_Co_correct 58 = .ok (.isub, 1) := by decide +kernel
theorem d_Co_correct_59 : decode b_Co_correct 59 = .ok (.bipush (-128), 2) := by decide +kernel
theorem d_Co_correct_61 : decode b_Co_correct 61 = .ok (.invokestatic 34, 3) := by decide +kernel
theorem d_Co_correct_64 : decode b_Co_correct 64 = .ok (.iastore, 1) := by decide +kernel
theorem d_Co_correct_65 : decode b_Co_correct 65 = .ok (.goto 49, 3) := by decide +kernel
theorem d_Co_correct_68 : decode b_Co_correct 68 = .ok (.aload_n 0, 1) := by decide +kernel
theorem d_Co_correct_69 : decode b_Co_correct 69 = .ok (.getfield 19, 3) := by decide +kernel
theorem d_Co_correct_72 : decode b_Co_correct 72 = .ok (.iload_n 1, 1) := by decide +kernel
theorem d_Co_correct_73 : decode b_Co_correct 73 = .ok (.iaload, 1) := by decide +kernel
theorem d_Co_correct_74 : decode b_Co_correct 74 = .ok (.ifCond .le 40, 3) := by decide +kernel
theorem d_Co_correct_77 : decode b_Co_correct 77 = .ok (.aload_n 0, 1) := by decide +kernel
theorem d_Co_correct_78 : decode b_Co_correct 78 = .ok (.getfield 19, 3) := by decide +kernel
theorem d_Co_correct_81 : decode b_Co_correct 81 = .ok (.iload_n 1, 1) := by decide +kernel
theorem d_Co_correct_82 : decode b_Co_correct 82 = .ok (.aload_n 0, 1) := by decide +kernel
theorem d_Co_correct_83 : decode b_Co_correct 83 = .ok (.getfield 19, 3) := by decide +kernel
theorem d_Co_correct_86 : decode b_Co_correct 86 = .ok (.iload_n 1, 1) := by decide +kernel
theorem d_Co_correct_87 : decode b_Co_correct 87 = .ok (.iaload, 1) := by decide +kernel
theorem d_Co_correct_88 : decode b_Co_correct 88 = .ok (.iload_n 2, 1) := by decide +kernel
theorem d_Co_correct_89 : decode b_Co_correct 89 = .ok (.isub, 1) := by decide +kernel
theorem d_Co_correct_90 : decode b_Co_correct 90 = .ok (.iconst 0, 1) := by decide +kernel
theorem d_Co_correct_91 : decode b_Co_correct 91 = .ok (.invokestatic 86, 3) := by decide +kernel
theorem d_Co_correct_94 : decode b_Co_correct 94 = .ok (.iastore, 1) := by decide +kernel
theorem d_Co_correct_95 : decode b_Co_correct 95 = .ok (.aload_n 0, 1) := by decide +kernel
theorem d_Co_correct_96 : decode b_Co_correct 96 = .ok (.getfield 22, 3) := by decide +kernel
theorem d_Co_correct_99 : decode b_Co_correct 99 = .ok (.iload_n 1, 1) := by decide +kernel
theorem d_Co_correct_100 : decode b_Co_correct 100 = .ok (.aload_n 0, 1) := by decide +kernel
theorem d_Co_correct_101 : decode b_Co_correct 101 = .ok (.getfield 22, 3) := by decide +kernel
theorem d_Co_correct_104 : decode b_Co_correct 104 = .ok (.iload_n 1, 1) := by decide +kernel
theorem d_Co_correct_105 : decode b_Co_correct 105 = .ok (.iaload, 1) := by decide +kernel
theorem d_Co_correct_106 : decode b_Co_correct 106 = .ok (.iconst 1, 1) := by decide +kernel
theorem d_Co_correct_107 : decode b_Co_correct 107 = .ok (.iadd, 1) := by decide +kernel
theorem d_Co_correct_108 : decode b_Co_correct 108 = .ok (.bipush 127, 2) := by decide +kernel
theorem d_Co_correct_110 : decode b_Co_correct 110 = .ok (.invokestatic 86, 3) := by decide +kernel
theorem d_Co_correct_113 : decode b_Co_correct 113 = .ok (.iastore, 1) := by decide +kernel
theorem d_Co_correct_114 : decode b_Co_correct 114 = .ok (.return_, 1) := by decide +kernel
theorem d_Co_learnEnd_0 : decode b_Co_learnEnd 0 = .ok (.iload_n 1, 1) := by decide +kernel
theorem d_Co_learnEnd_1 : decode b_Co_learnEnd 1 = .ok (.invokestatic 46, 3) := by decide +kernel
theorem d_Co_learnEnd_4 : decode b_Co_learnEnd 4 = .ok (.ifCond .ne 4, 3) := by decide +kernel
theorem d_Co_learnEnd_7 : decode b_Co_learnEnd 7 = .ok (.return_, 1) := by decide +kernel
theorem d_Co_learnEnd_8 : decode b_Co_learnEnd 8 = .ok (.iload_n 2, 1) := by decide +kernel
theorem d_Co_learnEnd_9 : decode b_Co_learnEnd 9 = .ok (.ifCond .ge 13, 3) := by decide +kernel
theorem d_Co_learnEnd_12 : decode b_Co_learnEnd 12 = .ok (.aload_n 0, 1) := by decide +kernel
theorem d_Co_learnEnd_13 : decode b_Co_learnEnd 13 = .ok (.getfield 19, 3) := by decide +kernel
theorem d_Co_learnEnd_16 : decode b_Co_learnEnd 16 = .ok (.iload_n 1, 1) := by decide +kernel
theorem d_Co_learnEnd_17 : decode b_Co_learnEnd 17 = .ok (.dup2, 1) := by decide +kernel
theorem d_Co_learnEnd_18 : decode b_Co_learnEnd 18 = .ok (.iaload, 1) := by decide +kernel
theorem d_Co_learnEnd_19 : decode b_Co_learnEnd 19 = .ok (.iconst 1, 1) := by decide +kernel
theorem d_Co_learnEnd_20 : decode b_Co_learnEnd 20 = .ok (.iadd, 1) := by decide +kernel
theorem d_Co_learnEnd_21 : decode b_Co_learnEnd 21 = .ok (.iastore, 1) := by decide +kernel
theorem d_Co_learnEnd_22 : decode b_Co_learnEnd 22 = .ok (.aload_n 0, 1) := by decide +kernel
theorem d_Co_learnEnd_23 : decode b_Co_learnEnd 23 = .ok (.getfield 15, 3) := by decide +kernel
theorem d_Co_learnEnd_26 : decode b_Co_learnEnd 26 = .ok (.iload_n 1, 1) := by decide +kernel
theorem d_Co_learnEnd_27 : decode b_Co_learnEnd 27 = .ok (.dup2, 1) := by decide +kernel
theorem d_Co_learnEnd_28 : decode b_Co_learnEnd 28 = .ok (.iaload, 1) := by decide +kernel
theorem d_Co_learnEnd_29 : decode b_Co_learnEnd 29 = .ok (.iload_n 3, 1) := by decide +kernel
theorem d_Co_learnEnd_30 : decode b_Co_learnEnd 30 = .ok (.iconst 1, 1) := by decide +kernel
theorem d_Co_learnEnd_31 : decode b_Co_learnEnd 31 = .ok (.iadd, 1) := by decide +kernel
theorem d_Co_learnEnd_32 : decode b_Co_learnEnd 32 = .ok (.iload_n 1, 1) := by decide +kernel
theorem d_Co_learnEnd_33 : decode b_Co_learnEnd 33 = .ok (.invokestatic 60, 3) := by decide +kernel
theorem d_Co_learnEnd_36 : decode b_Co_learnEnd 36 = .ok (.isub, 1) := by decide +kernel
theorem d_Co_learnEnd_37 : decode b_Co_learnEnd 37 = .ok (.iconst 2, 1) := by decide +kernel
theorem d_Co_learnEnd_38 : decode b_Co_learnEnd 38 = .ok (.idiv, 1) := by decide +kernel
theorem d_Co_learnEnd_39 : decode b_Co_learnEnd 39 = .ok (.iadd, 1) := by decide +kernel
theorem d_Co_learnEnd_40 : decode b_Co_learnEnd 40 = .ok (.iastore, 1) := by decide +kernel
theorem d_Co_learnEnd_41 : decode b_Co_learnEnd 41 = .ok (.aload_n 0, 1) := by decide +kernel
theorem d_Co_learnEnd_42 : decode b_Co_learnEnd 42 = .ok (.getfield 25, 3) := by decide +kernel
theorem d_Co_learnEnd_45 : decode b_Co_learnEnd 45 = .ok (.iload_n 1, 1) := by decide +kernel
theorem d_Co_learnEnd_46 : decode b_Co_learnEnd 46 = .ok (.iaload, 1) := by decide +kernel
theorem d_Co_learnEnd_47 : decode b_Co_learnEnd 47 = .ok (.aload_n 0, 1) := by decide +kernel
theorem d_Co_learnEnd_48 : decode b_Co_learnEnd 48 = .ok (.getfield 9, 3) := by decide +kernel
theorem d_Co_learnEnd_51 : decode b_Co_learnEnd 51 = .ok (.getfield 79, 3) := by decide +kernel
theorem d_Co_learnEnd_54 : decode b_Co_learnEnd 54 = .ok (.if_icmp .ne 33, 3) := by decide +kernel
theorem d_Co_learnEnd_57 : decode b_Co_learnEnd 57 = .ok (.aload_n 0, 1) := by decide +kernel
theorem d_Co_learnEnd_58 : decode b_Co_learnEnd 58 = .ok (.getfield 15, 3) := by decide +kernel
theorem d_Co_learnEnd_61 : decode b_Co_learnEnd 61 = .ok (.iload_n 1, 1) := by decide +kernel
theorem d_Co_learnEnd_62 : decode b_Co_learnEnd 62 = .ok (.dup2, 1) := by decide +kernel
theorem d_Co_learnEnd_63 : decode b_Co_learnEnd 63 = .ok (.iaload, 1) := by decide +kernel
theorem d_Co_learnEnd_64 : decode b_Co_learnEnd 64 = .ok (.iconst 2, 1) := by decide +kernel
theorem d_Co_learnEnd_65 : decode b_Co_learnEnd 65 = .ok (.idiv, 1) := by decide +kernel
theorem d_Co_learnEnd_66 : decode b_Co_learnEnd 66 = .ok (.iastore, 1) := by decide +kernel
theorem d_Co_learnEnd_67 : decode b_Co_learnEnd 67 = .ok (.aload_n 0, 1) := by decide +kernel
theorem d_Co_learnEnd_68 : decode b_Co_learnEnd 68 = .ok (.getfield 25, 3) := by decide +kernel
theorem d_Co_learnEnd_71 : decode b_Co_learnEnd 71 = .ok (.iload_n 1, 1) := by decide +kernel
theorem d_Co_learnEnd_72 : decode b_Co_learnEnd 72 = .ok (.dup2, 1) := by decide +kernel
theorem d_Co_learnEnd_73 : decode b_Co_learnEnd 73 = .ok (.iaload, 1) := by decide +kernel
theorem d_Co_learnEnd_74 : decode b_Co_learnEnd 74 = .ok (.iconst 2, 1) := by decide +kernel
theorem d_Co_learnEnd_75 : decode b_Co_learnEnd 75 = .ok (.idiv, 1) := by decide +kernel
theorem d_Co_learnEnd_76 : decode b_Co_learnEnd 76 = .ok (.iastore, 1) := by decide +kernel
theorem d_Co_learnEnd_77 : decode b_Co_learnEnd 77 = .ok (.aload_n 0, 1) := by decide +kernel
theorem d_Co_learnEnd_78 : decode b_Co_learnEnd 78 = .ok (.getfield 19, 3) := by decide +kernel
theorem d_Co_learnEnd_81 : decode b_Co_learnEnd 81 = .ok (.iload_n 1, 1) := by decide +kernel
theorem d_Co_learnEnd_82 : decode b_Co_learnEnd 82 = .ok (.dup2, 1) := by decide +kernel
theorem d_Co_learnEnd_83 : decode b_Co_learnEnd 83 = .ok (.iaload, 1) := by decide +kernel
theorem d_Co_learnEnd_84 : decode b_Co_learnEnd 84 = .ok (.iconst 2, 1) := by decide +kernel
theorem d_Co_learnEnd_85 : decode b_Co_learnEnd 85 = .ok (.idiv, 1) := by decide +kernel
theorem d_Co_learnEnd_86 : decode b_Co_learnEnd 86 = .ok (.iastore, 1) := by decide +kernel
theorem d_Co_learnEnd_87 : decode b_Co_learnEnd 87 = .ok (.aload_n 0, 1) := by decide +kernel
theorem d_Co_learnEnd_88 : decode b_Co_learnEnd 88 = .ok (.getfield 25, 3) := by decide +kernel
theorem d_Co_learnEnd_91 : decode b_Co_learnEnd 91 = .ok (.iload_n 1, 1) := by decide +kernel
theorem d_Co_learnEnd_92 : decode b_Co_learnEnd 92 = .ok (.dup2, 1) := by decide +kernel
theorem d_Co_learnEnd_93 : decode b_Co_learnEnd 93 = .ok (.iaload, 1) := by decide +kernel
theorem d_Co_learnEnd_94 : decode b_Co_learnEnd 94 = .ok (.iconst 1, 1) := by decide +kernel
theorem d_Co_learnEnd_95 : decode b_Co_learnEnd 95 = .ok (.iadd, 1) := by decide +kernel
theorem d_Co_learnEnd_96 : decode b_Co_learnEnd 96 = .ok (.iastore, 1) := by decide +kernel
theorem d_Co_learnEnd_97 : decode b_Co_learnEnd 97 = .ok (.return_, 1) := by decide +kernel
theorem d_Co_endsRun_0 : decode b_Co_endsRun 0 = .ok (.iload_n 0, 1) := by decide +kernel
theorem d_Co_endsRun_1 : decode b_Co_endsRun 1 = .ok (.sipush 364, 3) := by decide +kernel
theorem d_Co_endsRun_4 : decode b_Co_endsRun 4 = .ok (.if_icmp .le 7, 3) := by decide +kernel
theorem d_Co_endsRun_7 : decode b_Co_endsRun 7 = .ok (.iconst 1, 1) := by decide +kernel
theorem d_Co_endsRun_8 : decode b_Co_endsRun 8 = .ok (.goto 4, 3) := by decide +kernel
theorem d_Co_endsRun_11 : decode b_Co_endsRun 11 = .ok (.iconst 0, 1) := by decide +kernel
theorem d_Co_endsRun_12 : decode b_Co_endsRun 12 = .ok (.ireturn, 1) := by decide +kernel
theorem d_Co_likeness_0 : decode b_Co_likeness 0 = .ok (.iload_n 0, 1) := by decide +kernel
theorem d_Co_likeness_1 : decode b_Co_likeness 1 = .ok (.sipush 366, 3) := by decide +kernel
theorem d_Co_likeness_4 : decode b_Co_likeness 4 = .ok (.if_icmp .ne 7, 3) := by decide +kernel
theorem d_Co_likeness_7 : decode b_Co_likeness 7 = .ok (.iconst 1, 1) := by decide +kernel
theorem d_Co_likeness_8 : decode b_Co_likeness 8 = .ok (.goto 4, 3) := by decide +kernel
theorem d_Co_likeness_11 : decode b_Co_likeness 11 = .ok (.iconst 0, 1) := by decide +kernel
theorem d_Co_likeness_12 : decode b_Co_likeness 12 = .ok (.ireturn, 1) := by decide +kernel
theorem d_Co_turn_0 : decode b_Co_turn 0 = .ok (.aload_n 0, 1) := by decide +kernel
theorem d_Co_turn_1 : decode b_Co_turn 1 = .ok (.iload_n 1, 1) := by decide +kernel
theorem d_Co_turn_2 : decode b_Co_turn 2 = .ok (.invokevirtual 69, 3) := by decide +kernel
theorem d_Co_turn_5 : decode b_Co_turn 5 = .ok (.ifCond .eq 15, 3) := by decide +kernel
theorem d_Co_turn_8 : decode b_Co_turn 8 = .ok (.iload_n 2, 1) := by decide +kernel
theorem d_Co_turn_9 : decode b_Co_turn 9 = .ok (.ifCond .le 7, 3) := by decide +kernel
theorem d_Co_turn_12 : decode b_Co_turn 12 = .ok (.iconst 1, 1) := by decide +kernel
theorem d_Co_turn_13 : decode b_Co_turn 13 = .ok (.goto 16, 3) := by decide +kernel
theorem d_Co_turn_16 : decode b_Co_turn 16 = .ok (.iconst 0, 1) := by decide +kernel
theorem d_Co_turn_17 : decode b_Co_turn 17 = .ok (.goto 12, 3) := by decide +kernel
theorem d_Co_turn_20 : decode b_Co_turn 20 = .ok (.iload_n 2, 1) := by decide +kernel
theorem d_Co_turn_21 : decode b_Co_turn 21 = .ok (.ifCond .ge 7, 3) := by decide +kernel
theorem d_Co_turn_24 : decode b_Co_turn 24 = .ok (.iconst 1, 1) := by decide +kernel
theorem d_Co_turn_25 : decode b_Co_turn 25 = .ok (.goto 4, 3) := by decide +kernel
theorem d_Co_turn_28 : decode b_Co_turn 28 = .ok (.iconst 0, 1) := by decide +kernel
theorem d_Co_turn_29 : decode b_Co_turn 29 = .ok (.istore_n 3, 1) := by decide +kernel
theorem d_Co_turn_30 : decode b_Co_turn 30 = .ok (.iload_n 3, 1) := by decide +kernel
theorem d_Co_turn_31 : decode b_Co_turn 31 = .ok (.ifCond .eq 7, 3) := by decide +kernel
theorem d_Co_turn_34 : decode b_Co_turn 34 = .ok (.iconst 1, 1) := by decide +kernel
theorem d_Co_turn_35 : decode b_Co_turn 35 = .ok (.goto 4, 3) := by decide +kernel
theorem d_Co_turn_38 : decode b_Co_turn 38 = .ok (.iconst 0, 1) := by decide +kernel
theorem d_Co_turn_39 : decode b_Co_turn 39 = .ok (.ireturn, 1) := by decide +kernel
theorem d_Co_turnsAbove_0 : decode b_Co_turnsAbove 0 = .ok (.iload_n 1, 1) := by decide +kernel
theorem d_Co_turnsAbove_1 : decode b_Co_turnsAbove 1 = .ok (.invokestatic 46, 3) := by decide +kernel
theorem d_Co_turnsAbove_4 : decode b_Co_turnsAbove 4 = .ok (.ifCond .eq 32, 3) := by decide +kernel
theorem d_Co_turnsAbove_7 : decode b_Co_turnsAbove 7 = .ok (.iconst 2, 1) := by decide +kernel
theorem d_Co_turnsAbove_8 : decode b_Co_turnsAbove 8 = .ok (.aload_n 0, 1) := by decide +kernel
theorem d_Co_turnsAbove_9 : decode b_Co_turnsAbove 9 = .ok (.getfield 19, 3) := by decide +kernel
theorem d_Co_turnsAbove_12 : decode b_Co_turnsAbove 12 = .ok (.iload_n 1, 1) := by decide +kernel
theorem d_Co_turnsAbove_13 : decode b_Co_turnsAbove 13 = .ok (.iaload, 1) := by decide +kernel
theorem d_Co_turnsAbove_14 : decode b_Co_turnsAbove 14 = .ok (.imul, 1) := by decide +kernel
theorem d_Co_turnsAbove_15 : decode b_Co_turnsAbove 15 = .ok (.aload_n 0, 1) := by decide +kernel
theorem d_Co_turnsAbove_16 : decode b_Co_turnsAbove 16 = .ok (.getfield 25, 3) := by decide +kernel
theorem d_Co_turnsAbove_19 : decode b_Co_turnsAbove 19 = .ok (.iload_n 1, 1) := by decide +kernel
theorem d_Co_turnsAbove_20 : decode b_Co_turnsAbove 20 = .ok (.iaload, 1) := by decide +kernel
theorem d_Co_turnsAbove_21 : decode b_Co_turnsAbove 21 = .ok (.if_icmp .ge 15, 3) := by decide +kernel
theorem d_Co_turnsAbove_24 : decode b_Co_turnsAbove 24 = .ok (.aload_n 0, 1) := by decide +kernel
theorem d_Co_turnsAbove_25 : decode b_Co_turnsAbove 25 = .ok (.iload_n 1, 1) := by decide +kernel
theorem d_Co_turnsAbove_26 : decode b_Co_turnsAbove 26 = .ok (.invokevirtual 89, 3) := by decide +kernel
theorem d_Co_turnsAbove_29 : decode b_Co_turnsAbove 29 = .ok (.ifCond .eq 7, 3) := by decide +kernel
theorem d_Co_turnsAbove_32 : decode b_Co_turnsAbove 32 = .ok (.iconst 1, 1) := by decide +kernel
theorem d_Co_turnsAbove_33 : decode b_Co_turnsAbove 33 = .ok (.goto 4, 3) := by decide +kernel
theorem d_Co_turnsAbove_36 : decode b_Co_turnsAbove 36 = .ok (.iconst 0, 1) := by decide +kernel
theorem d_Co_turnsAbove_37 : decode b_Co_turnsAbove 37 = .ok (.ireturn, 1) := by decide +kernel
theorem d_Co_leansBelow_0 : decode b_Co_leansBelow 0 = .ok (.iload_n 1, 1) := by decide +kernel
theorem d_Co_leansBelow_1 : decode b_Co_leansBelow 1 = .ok (.invokestatic 46, 3) := by decide +kernel
theorem d_Co_leansBelow_4 : decode b_Co_leansBelow 4 = .ok (.ifCond .eq 43, 3) := by decide +kernel
theorem d_Co_leansBelow_7 : decode b_Co_leansBelow 7 = .ok (.aload_n 0, 1) := by decide +kernel
theorem d_Co_leansBelow_8 : decode b_Co_leansBelow 8 = .ok (.getfield 9, 3) := by decide +kernel
theorem d_Co_leansBelow_11 : decode b_Co_leansBelow 11 = .ok (.getfield 92, 3) := by decide +kernel
theorem d_Co_leansBelow_14 : decode b_Co_leansBelow 14 = .ok (.ifCond .ne 33, 3) := by decide +kernel
theorem d_Co_leansBelow_17 : decode b_Co_leansBelow 17 = .ok (.iconst 2, 1) := by decide +kernel
theorem d_Co_leansBelow_18 : decode b_Co_leansBelow 18 = .ok (.aload_n 0, 1) := by decide +kernel
theorem d_Co_leansBelow_19 : decode b_Co_leansBelow 19 = .ok (.getfield 19, 3) := by decide +kernel
theorem d_Co_leansBelow_22 : decode b_Co_leansBelow 22 = .ok (.iload_n 1, 1) := by decide +kernel
theorem d_Co_leansBelow_23 : decode b_Co_leansBelow 23 = .ok (.iaload, 1) := by decide +kernel
theorem d_Co_leansBelow_24 : decode b_Co_leansBelow 24 = .ok (.imul, 1) := by decide +kernel
theorem d_Co_leansBelow_25 : decode b_Co_leansBelow 25 = .ok (.aload_n 0, 1) := by decide +kernel
theorem d_Co_leansBelow_26 : decode b_Co_leansBelow 26 = .ok (.getfield 25, 3) := by decide +kernel
theorem d_Co_leansBelow_29 : decode b_Co_leansBelow 29 = .ok (.iload_n 1, 1) := by decide +kernel
theorem d_Co_leansBelow_30 : decode b_Co_leansBelow 30 = .ok (.iaload, 1) := by decide +kernel
theorem d_Co_leansBelow_31 : decode b_Co_leansBelow 31 = .ok (.ineg, 1) := by decide +kernel
theorem d_Co_leansBelow_32 : decode b_Co_leansBelow 32 = .ok (.if_icmp .gt 15, 3) := by decide +kernel
theorem d_Co_leansBelow_35 : decode b_Co_leansBelow 35 = .ok (.aload_n 0, 1) := by decide +kernel
theorem d_Co_leansBelow_36 : decode b_Co_leansBelow 36 = .ok (.iload_n 1, 1) := by decide +kernel
theorem d_Co_leansBelow_37 : decode b_Co_leansBelow 37 = .ok (.invokevirtual 89, 3) := by decide +kernel
theorem d_Co_leansBelow_40 : decode b_Co_leansBelow 40 = .ok (.ifCond .eq 7, 3) := by decide +kernel
theorem d_Co_leansBelow_43 : decode b_Co_leansBelow 43 = .ok (.iconst 1, 1) := by decide +kernel
theorem d_Co_leansBelow_44 : decode b_Co_leansBelow 44 = .ok (.goto 4, 3) := by decide +kernel
theorem d_Co_leansBelow_47 : decode b_Co_leansBelow 47 = .ok (.iconst 0, 1) := by decide +kernel
theorem d_Co_leansBelow_48 : decode b_Co_leansBelow 48 = .ok (.ireturn, 1) := by decide +kernel
theorem d_Co_exponentIsZero_0 : decode b_Co_exponentIsZero 0 = .ok (.iload_n 1, 1) := by decide +kernel
theorem d_Co_exponentIsZero_1 : decode b_Co_exponentIsZero 1 = .ok (.invokestatic 46, 3) := by decide +kernel
theorem d_Co_exponentIsZero_4 : decode b_Co_exponentIsZero 4 = .ok (.ifCond .ne 5, 3) := by decide +kernel
theorem d_Co_exponentIsZero_7 : decode b_Co_exponentIsZero 7 = .ok (.iconst 1, 1) := by decide +kernel
theorem d_Co_exponentIsZero_8 : decode b_Co_exponentIsZero 8 = .ok (.ireturn, 1) := by decide +kernel
theorem d_Co_exponentIsZero_9 : decode b_Co_exponentIsZero 9 = .ok (.aload_n 0, 1) := by decide +kernel
theorem d_Co_exponentIsZero_10 : decode b_Co_exponentIsZero 10 = .ok (.getfield 25, 3) := by decide +kernel
theorem d_Co_exponentIsZero_13 : decode b_Co_exponentIsZero 13 = .ok (.iload_n 1, 1) := by decide +kernel
theorem d_Co_exponentIsZero_14 : decode b_Co_exponentIsZero 14 = .ok (.iaload, 1) := by decide +kernel
theorem d_Co_exponentIsZero_15 : decode b_Co_exponentIsZero 15 = .ok (.istore_n 2, 1) := by decide +kernel
theorem d_Co_exponentIsZero_16 : decode b_Co_exponentIsZero 16 = .ok (.aload_n 0, 1) := by decide +kernel
theorem d_Co_exponentIsZero_17 : decode b_Co_exponentIsZero 17 = .ok (.getfield 15, 3) := by decide +kernel
theorem d_Co_exponentIsZero_20 : decode b_Co_exponentIsZero 20 = .ok (.iload_n 1, 1) := by decide +kernel
theorem d_Co_exponentIsZero_21 : decode b_Co_exponentIsZero 21 = .ok (.iaload, 1) := by decide +kernel
theorem d_Co_exponentIsZero_22 : decode b_Co_exponentIsZero 22 = .ok (.iload_n 1, 1) := by decide +kernel
theorem d_Co_exponentIsZero_23 : decode b_Co_exponentIsZero 23 = .ok (.sipush 366, 3) := by decide +kernel
theorem d_Co_exponentIsZero_26 : decode b_Co_exponentIsZero 26 = .ok (.if_icmp .ne 9, 3) := by decide +kernel
theorem d_Co_exponentIsZero_29 : decode b_Co_exponentIsZero 29 = .ok (.iload_n 2, 1) := by decide +kernel
theorem d_Co_exponentIsZero_30 : decode b_Co_exponentIsZero 30 = .ok (.iconst 2, 1) := by decide +kernel
theorem d_Co_exponentIsZero_31 : decode b_Co_exponentIsZero 31 = .ok (.idiv, 1) := by decide +kernel
theorem d_Co_exponentIsZero_32 : decode b_Co_exponentIsZero 32 = .ok (.goto 4, 3) := by decide +kernel
theorem d_Co_exponentIsZero_35 : decode b_Co_exponentIsZero 35 = .ok (.iconst 0, 1) := by decide +kernel
theorem d_Co_exponentIsZero_36 : decode b_Co_exponentIsZero 36 = .ok (.iadd, 1) := by decide +kernel
theorem d_Co_exponentIsZero_37 : decode b_Co_exponentIsZero 37 = .ok (.istore_n 3, 1) := by decide +kernel
theorem d_Co_exponentIsZero_38 : decode b_Co_exponentIsZero 38 = .ok (.iload_n 2, 1) := by decide +kernel
theorem d_Co_exponentIsZero_39 : decode b_Co_exponentIsZero 39 = .ok (.iload_n 3, 1) := by decide +kernel
theorem d_Co_exponentIsZero_40 : decode b_Co_exponentIsZero 40 = .ok (.if_icmp .lt 7, 3) := by decide +kernel
theorem d_Co_exponentIsZero_43 : decode b_Co_exponentIsZero 43 = .ok (.iconst 1, 1) := by decide +kernel
theorem d_Co_exponentIsZero_44 : decode b_Co_exponentIsZero 44 = .ok (.goto 4, 3) := by decide +kernel
theorem d_Co_exponentIsZero_47 : decode b_Co_exponentIsZero 47 = .ok (.iconst 0, 1) := by decide +kernel
theorem d_Co_exponentIsZero_48 : decode b_Co_exponentIsZero 48 = .ok (.ireturn, 1) := by decide +kernel
