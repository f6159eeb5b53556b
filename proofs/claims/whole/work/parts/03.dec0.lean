theorem dX0_init_0 : decode cX0_init 0 = .ok (.aload_n 0, 1) := by decide +kernel
theorem dX0_init_1 : decode cX0_init 1 = .ok (.invokespecial 3, 3) := by decide +kernel
theorem dX0_init_4 : decode cX0_init 4 = .ok (.aload_n 0, 1) := by decide +kernel
theorem dX0_init_5 : decode cX0_init 5 = .ok (.bipush 6, 2) := by decide +kernel
theorem dX0_init_7 : decode cX0_init 7 = .ok (.newarray .int, 2) := by decide +kernel
theorem dX0_init_9 : decode cX0_init 9 = .ok (.putfield 9, 3) := by decide +kernel
theorem dX0_init_12 : decode cX0_init 12 = .ok (.return_, 1) := by decide +kernel
theorem dX0_forget_0 : decode cX0_forget 0 = .ok (.iconst 0, 1) := by decide +kernel
theorem dX0_forget_1 : decode cX0_forget 1 = .ok (.istore_n 1, 1) := by decide +kernel
theorem dX0_forget_2 : decode cX0_forget 2 = .ok (.iload_n 1, 1) := by decide +kernel
theorem dX0_forget_3 : decode cX0_forget 3 = .ok (.bipush 6, 2) := by decide +kernel
theorem dX0_forget_5 : decode cX0_forget 5 = .ok (.if_icmp .ge 16, 3) := by decide +kernel
theorem dX0_forget_8 : decode cX0_forget 8 = .ok (.aload_n 0, 1) := by decide +kernel
theorem dX0_forget_9 : decode cX0_forget 9 = .ok (.getfield 9, 3) := by decide +kernel
theorem dX0_forget_12 : decode cX0_forget 12 = .ok (.iload_n 1, 1) := by decide +kernel
theorem dX0_forget_13 : decode cX0_forget 13 = .ok (.iconst 0, 1) := by decide +kernel
theorem dX0_forget_14 : decode cX0_forget 14 = .ok (.iastore, 1) := by decide +kernel
theorem dX0_forget_15 : decode cX0_forget 15 = .ok (.iinc 1 1, 3) := by decide +kernel
theorem dX0_forget_18 : decode cX0_forget 18 = .ok (.goto (-16), 3) := by decide +kernel
theorem dX0_forget_21 : decode cX0_forget 21 = .ok (.return_, 1) := by decide +kernel
theorem dX0_turn_0 : decode cX0_turn 0 = .ok (.aload_n 0, 1) := by decide +kernel
theorem dX0_turn_1 : decode cX0_turn 1 = .ok (.getfield 9, 3) := by decide +kernel
theorem dX0_turn_4 : decode cX0_turn 4 = .ok (.iload_n 1, 1) := by decide +kernel
theorem dX0_turn_5 : decode cX0_turn 5 = .ok (.dup2, 1) := by decide +kernel
theorem dX0_turn_6 : decode cX0_turn 6 = .ok (.iaload, 1) := by decide +kernel
theorem dX0_turn_7 : decode cX0_turn 7 = .ok (.iconst 1, 1) := by decide +kernel
theorem dX0_turn_8 : decode cX0_turn 8 = .ok (.iload_n 2, 1) := by decide +kernel
theorem dX0_turn_9 : decode cX0_turn 9 = .ok (.ishl, 1) := by decide +kernel
theorem dX0_turn_10 : decode cX0_turn 10 = .ok (.ixor, 1) := by decide +kernel
theorem dX0_turn_11 : decode cX0_turn 11 = .ok (.iastore, 1) := by decide +kernel
theorem dX0_turn_12 : decode cX0_turn 12 = .ok (.aload_n 0, 1) := by decide +kernel
theorem dX0_turn_13 : decode cX0_turn 13 = .ok (.getfield 9, 3) := by decide +kernel
theorem dX0_turn_16 : decode cX0_turn 16 = .ok (.iload_n 1, 1) := by decide +kernel
theorem dX0_turn_17 : decode cX0_turn 17 = .ok (.iaload, 1) := by decide +kernel
theorem dX0_turn_18 : decode cX0_turn 18 = .ok (.iload_n 2, 1) := by decide +kernel
theorem dX0_turn_19 : decode cX0_turn 19 = .ok (.ishr, 1) := by decide +kernel
theorem dX0_turn_20 : decode cX0_turn 20 = .ok (.iconst 1, 1) := by decide +kernel
theorem dX0_turn_21 : decode cX0_turn 21 = .ok (.iand, 1) := by decide +kernel
theorem dX0_turn_22 : decode cX0_turn 22 = .ok (.ireturn, 1) := by decide +kernel
theorem dX0_stepsBetween_0 : decode cX0_stepsBetween 0 = .ok (.iconst 1, 1) := by decide +kernel
theorem dX0_stepsBetween_1 : decode cX0_stepsBetween 1 = .ok (.iload_n 1, 1) := by decide +kernel
theorem dX0_stepsBetween_2 : decode cX0_stepsBetween 2 = .ok (.ishl, 1) := by decide +kernel
theorem dX0_stepsBetween_3 : decode cX0_stepsBetween 3 = .ok (.istore_n 3, 1) := by decide +kernel
theorem dX0_stepsBetween_4 : decode cX0_stepsBetween 4 = .ok (.iconst 0, 1) := by decide +kernel
theorem dX0_stepsBetween_5 : decode cX0_stepsBetween 5 = .ok (.istore 4, 2) := by decide +kernel
theorem dX0_stepsBetween_7 : decode cX0_stepsBetween 7 = .ok (.iload 4, 2) := by decide +kernel
theorem dX0_stepsBetween_9 : decode cX0_stepsBetween 9 = .ok (.bipush 6, 2) := by decide +kernel
theorem dX0_stepsBetween_11 : decode cX0_stepsBetween 11 = .ok (.if_icmp .ge 29, 3) := by decide +kernel
theorem dX0_stepsBetween_14 : decode cX0_stepsBetween 14 = .ok (.iload_n 3, 1) := by decide +kernel
theorem dX0_stepsBetween_15 : decode cX0_stepsBetween 15 = .ok (.iload_n 2, 1) := by decide +kernel
theorem dX0_stepsBetween_16 : decode cX0_stepsBetween 16 = .ok (.ishr, 1) := by decide +kernel
theorem dX0_stepsBetween_17 : decode cX0_stepsBetween 17 = .ok (.iconst 1, 1) := by decide +kernel
theorem dX0_stepsBetween_18 : decode cX0_stepsBetween 18 = .ok (.iand, 1) := by decide +kernel
theorem dX0_stepsBetween_19 : decode cX0_stepsBetween 19 = .ok (.iconst 1, 1) := by decide +kernel
theorem dX0_stepsBetween_20 : decode cX0_stepsBetween 20 = .ok (.if_icmp .ne 6, 3) := by decide +kernel
theorem dX0_stepsBetween_23 : decode cX0_stepsBetween 23 = .ok (.iload 4, 2) := by decide +kernel
theorem dX0_stepsBetween_25 : decode cX0_stepsBetween 25 = .ok (.ireturn, 1) := by decide +kernel
theorem dX0_stepsBetween_26 : decode cX0_stepsBetween 26 = .ok (.iload_n 3, 1) := by decide +kernel
theorem dX0_stepsBetween_27 : decode cX0_stepsBetween 27 = .ok (.aload_n 0, 1) := by decide +kernel
theorem dX0_stepsBetween_28 : decode cX0_stepsBetween 28 = .ok (.iload_n 3, 1) := by decide +kernel
theorem dX0_stepsBetween_29 : decode cX0_stepsBetween 29 = .ok (.invokevirtual 15, 3) := by decide +kernel
theorem dX0_stepsBetween_32 : decode cX0_stepsBetween 32 = .ok (.ior, 1) := by decide +kernel
theorem dX0_stepsBetween_33 : decode cX0_stepsBetween 33 = .ok (.istore_n 3, 1) := by decide +kernel
theorem dX0_stepsBetween_34 : decode cX0_stepsBetween 34 = .ok (.iinc 4 1, 3) := by decide +kernel
theorem dX0_stepsBetween_37 : decode cX0_stepsBetween 37 = .ok (.goto (-30), 3) := by decide +kernel
theorem dX0_stepsBetween_40 : decode cX0_stepsBetween 40 = .ok (.bipush (-9), 2) := by decide +kernel
theorem dX0_stepsBetween_42 : decode cX0_stepsBetween 42 = .ok (.ireturn, 1) := by decide +kernel
theorem dX0_knownToAnyOf_0 : decode cX0_knownToAnyOf 0 = .ok (.iconst 0, 1) := by decide +kernel
theorem dX0_knownToAnyOf_1 : decode cX0_knownToAnyOf 1 = .ok (.istore_n 2, 1) := by decide +kernel
theorem dX0_knownToAnyOf_2 : decode cX0_knownToAnyOf 2 = .ok (.iconst 0, 1) := by decide +kernel
theorem dX0_knownToAnyOf_3 : decode cX0_knownToAnyOf 3 = .ok (.istore_n 3, 1) := by decide +kernel
theorem dX0_knownToAnyOf_4 : decode cX0_knownToAnyOf 4 = .ok (.iload_n 3, 1) := by decide +kernel
theorem dX0_knownToAnyOf_5 : decode cX0_knownToAnyOf 5 = .ok (.bipush 6, 2) := by decide +kernel
theorem dX0_knownToAnyOf_7 : decode cX0_knownToAnyOf 7 = .ok (.if_icmp .ge 27, 3) := by decide +kernel
theorem dX0_knownToAnyOf_10 : decode cX0_knownToAnyOf 10 = .ok (.iload_n 1, 1) := by decide +kernel
theorem dX0_knownToAnyOf_11 : decode cX0_knownToAnyOf 11 = .ok (.iload_n 3, 1) := by decide +kernel
theorem dX0_knownToAnyOf_12 : decode cX0_knownToAnyOf 12 = .ok (.ishr, 1) := by decide +kernel
theorem dX0_knownToAnyOf_13 : decode cX0_knownToAnyOf 13 = .ok (.iconst 1, 1) := by decide +kernel
theorem dX0_knownToAnyOf_14 : decode cX0_knownToAnyOf 14 = .ok (.iand, 1) := by decide +kernel
theorem dX0_knownToAnyOf_15 : decode cX0_knownToAnyOf 15 = .ok (.iconst 1, 1) := by decide +kernel
theorem dX0_knownToAnyOf_16 : decode cX0_knownToAnyOf 16 = .ok (.if_icmp .ne 12, 3) := by decide +kernel
theorem dX0_knownToAnyOf_19 : decode cX0_knownToAnyOf 19 = .ok (.iload_n 2, 1) := by decide +kernel
theorem dX0_knownToAnyOf_20 : decode cX0_knownToAnyOf 20 = .ok (.aload_n 0, 1) := by decide +kernel
theorem dX0_knownToAnyOf_21 : decode cX0_knownToAnyOf 21 = .ok (.getfield 9, 3) := by decide +kernel
theorem dX0_knownToAnyOf_24 : decode cX0_knownToAnyOf 24 = .ok (.iload_n 3, 1) := by decide +kernel
theorem dX0_knownToAnyOf_25 : decode cX0_knownToAnyOf 25 = .ok (.iaload, 1) := by decide +kernel
theorem dX0_knownToAnyOf_26 : decode cX0_knownToAnyOf 26 = .ok (.ior, 1) := by decide +kernel
theorem dX0_knownToAnyOf_27 : decode cX0_knownToAnyOf 27 = .ok (.istore_n 2, 1) := by decide +kernel
theorem dX0_knownToAnyOf_28 : decode cX0_knownToAnyOf 28 = .ok (.iinc 3 1, 3) := by decide +kernel
theorem dX0_knownToAnyOf_31 : decode cX0_knownToAnyOf 31 = .ok (.goto (-27), 3) := by decide +kernel
theorem dX0_knownToAnyOf_34 : decode cX0_knownToAnyOf 34 = .ok (.iload_n 2, 1) := by decide +kernel
theorem dX0_knownToAnyOf_35 : decode cX0_knownToAnyOf 35 = .ok (.ireturn, 1) := by decide +kernel
theorem dX1_init_0 : decode cX1_init 0 = .ok (.aload_n 0, 1) := by decide +kernel
theorem dX1_init_1 : decode cX1_init 1 = .ok (.invokespecial 3, 3) := by decide +kernel
theorem dX1_init_4 : decode cX1_init 4 = .ok (.aload_n 0, 1) := by decide +kernel
theorem dX1_init_5 : decode cX1_init 5 = .ok (.bipush 6, 2) := by decide +kernel
theorem dX1_init_7 : decode cX1_init 7 = .ok (.newarray .int, 2) := by decide +kernel
theorem dX1_init_9 : decode cX1_init 9 = .ok (.putfield 9, 3) := by decide +kernel
theorem dX1_init_12 : decode cX1_init 12 = .ok (.return_, 1) := by decide +kernel
theorem dX1_fewestSteps_0 : decode cX1_fewestSteps 0 = .ok (.iconst 0, 1) := by decide +kernel
theorem dX1_fewestSteps_1 : decode cX1_fewestSteps 1 = .ok (.istore_n 3, 1) := by decide +kernel
theorem dX1_fewestSteps_2 : decode cX1_fewestSteps 2 = .ok (.iload_n 3, 1) := by decide +kernel
theorem dX1_fewestSteps_3 : decode cX1_fewestSteps 3 = .ok (.bipush 6, 2) := by decide +kernel
theorem dX1_fewestSteps_5 : decode cX1_fewestSteps 5 = .ok (.if_icmp .ge 38, 3) := by decide +kernel
theorem dX1_fewestSteps_8 : decode cX1_fewestSteps 8 = .ok (.aload_n 0, 1) := by decide +kernel
theorem dX1_fewestSteps_9 : decode cX1_fewestSteps 9 = .ok (.getfield 9, 3) := by decide +kernel
theorem dX1_fewestSteps_12 : decode cX1_fewestSteps 12 = .ok (.iload_n 3, 1) := by decide +kernel
theorem dX1_fewestSteps_13 : decode cX1_fewestSteps 13 = .ok (.aload_n 1, 1) := by decide +kernel
theorem dX1_fewestSteps_14 : decode cX1_fewestSteps 14 = .ok (.iload_n 3, 1) := by decide +kernel
theorem dX1_fewestSteps_15 : decode cX1_fewestSteps 15 = .ok (.invokevirtual 15, 3) := by decide +kernel
theorem dX1_fewestSteps_18 : decode cX1_fewestSteps 18 = .ok (.ifCond .eq 17, 3) := by decide +kernel
theorem dX1_fewestSteps_21 : decode cX1_fewestSteps 21 = .ok (.iconst 0, 1) := by decide +kernel
theorem dX1_fewestSteps_22 : decode cX1_fewestSteps 22 = .ok (.aload_n 1, 1) := by decide +kernel
theorem dX1_fewestSteps_23 : decode cX1_fewestSteps 23 = .ok (.iload_n 3, 1) := by decide +kernel
theorem dX1_fewestSteps_24 : decode cX1_fewestSteps 24 = .ok (.invokevirtual 21, 3) := by decide +kernel
theorem dX1_fewestSteps_27 : decode cX1_fewestSteps 27 = .ok (.iconst 1, 1) := by decide +kernel
theorem dX1_fewestSteps_28 : decode cX1_fewestSteps 28 = .ok (.isub, 1) := by decide +kernel
theorem dX1_fewestSteps_29 : decode cX1_fewestSteps 29 = .ok (.invokestatic 25, 3) := by decide +kernel
theorem dX1_fewestSteps_32 : decode cX1_fewestSteps 32 = .ok (.goto 4, 3) := by decide +kernel
theorem dX1_fewestSteps_35 : decode cX1_fewestSteps 35 = .ok (.iconst 0, 1) := by decide +kernel
theorem dX1_fewestSteps_36 : decode cX1_fewestSteps 36 = .ok (.iastore, 1) := by decide +kernel
theorem dX1_fewestSteps_37 : decode cX1_fewestSteps 37 = .ok (.iinc 3 1, 3) := by decide +kernel
theorem dX1_fewestSteps_40 : decode cX1_fewestSteps 40 = .ok (.goto (-38), 3) := by decide +kernel
theorem dX1_fewestSteps_43 : decode cX1_fewestSteps 43 = .ok (.iconst 0, 1) := by decide +kernel
theorem dX1_fewestSteps_44 : decode cX1_fewestSteps 44 = .ok (.aload_n 1, 1) := by decide +kernel
theorem dX1_fewestSteps_45 : decode cX1_fewestSteps 45 = .ok (.invokevirtual 31, 3) := by decide +kernel
theorem dX1_fewestSteps_48 : decode cX1_fewestSteps 48 = .ok (.aload_n 0, 1) := by decide +kernel
theorem dX1_fewestSteps_49 : decode cX1_fewestSteps 49 = .ok (.getfield 9, 3) := by decide +kernel
theorem dX1_fewestSteps_52 : decode cX1_fewestSteps 52 = .ok (.aload_n 2, 1) := by decide +kernel
theorem dX1_fewestSteps_53 : decode cX1_fewestSteps 53 = .ok (.invokestatic 35, 3) := by decide +kernel
theorem dX1_fewestSteps_56 : decode cX1_fewestSteps 56 = .ok (.ireturn, 1) := by decide +kernel
theorem dX1_fewestFrom_0 : decode cX1_fewestFrom 0 = .ok (.iload_n 0, 1) := by decide +kernel
theorem dX1_fewestFrom_1 : decode cX1_fewestFrom 1 = .ok (.bipush 6, 2) := by decide +kernel
theorem dX1_fewestFrom_3 : decode cX1_fewestFrom 3 = .ok (.if_icmp .ge 9, 3) := by decide +kernel
theorem dX1_fewestFrom_6 : decode cX1_fewestFrom 6 = .ok (.iload_n 1, 1) := by decide +kernel
theorem dX1_fewestFrom_7 : decode cX1_fewestFrom 7 = .ok (.iload_n 0, 1) := by decide +kernel
theorem dX1_fewestFrom_8 : decode cX1_fewestFrom 8 = .ok (.ishr, 1) := by decide +kernel
theorem dX1_fewestFrom_9 : decode cX1_fewestFrom 9 = .ok (.ifCond .ne 5, 3) := by decide +kernel
theorem dX1_fewestFrom_12 : decode cX1_fewestFrom 12 = .ok (.iconst 0, 1) := by decide +kernel
theorem dX1_fewestFrom_13 : decode cX1_fewestFrom 13 = .ok (.ireturn, 1) := by decide +kernel
theorem dX1_fewestFrom_14 : decode cX1_fewestFrom 14 = .ok (.iload_n 1, 1) := by decide +kernel
theorem dX1_fewestFrom_15 : decode cX1_fewestFrom 15 = .ok (.iload_n 0, 1) := by decide +kernel
theorem dX1_fewestFrom_16 : decode cX1_fewestFrom 16 = .ok (.ishr, 1) := by decide +kernel
theorem dX1_fewestFrom_17 : decode cX1_fewestFrom 17 = .ok (.iconst 1, 1) := by decide +kernel
theorem dX1_fewestFrom_18 : decode cX1_fewestFrom 18 = .ok (.iand, 1) := by decide +kernel
theorem dX1_fewestFrom_19 : decode cX1_fewestFrom 19 = .ok (.ifCond .ne 13, 3) := by decide +kernel
theorem dX1_fewestFrom_22 : decode cX1_fewestFrom 22 = .ok (.iload_n 0, 1) := by decide +kernel
theorem dX1_fewestFrom_23 : decode cX1_fewestFrom 23 = .ok (.iconst 1, 1) := by decide +kernel
theorem dX1_fewestFrom_24 : decode cX1_fewestFrom 24 = .ok (.iadd, 1) := by decide +kernel
theorem dX1_fewestFrom_25 : decode cX1_fewestFrom 25 = .ok (.iload_n 1, 1) := by decide +kernel
theorem dX1_fewestFrom_26 : decode cX1_fewestFrom 26 = .ok (.aload_n 2, 1) := by decide +kernel
theorem dX1_fewestFrom_27 : decode cX1_fewestFrom 27 = .ok (.aload_n 3, 1) := by decide +kernel
theorem dX1_fewestFrom_28 : decode cX1_fewestFrom 28 = .ok (.invokestatic 35, 3) := by decide +kernel
theorem dX1_fewestFrom_31 : decode cX1_fewestFrom 31 = .ok (.ireturn, 1) := by decide +kernel
theorem dX1_fewestFrom_32 : decode cX1_fewestFrom 32 = .ok (.bipush (-9), 2) := by decide +kernel
theorem dX1_fewestFrom_34 : decode cX1_fewestFrom 34 = .ok (.istore 4, 2) := by decide +kernel
theorem dX1_fewestFrom_36 : decode cX1_fewestFrom 36 = .ok (.iconst 0, 1) := by decide +kernel
theorem dX1_fewestFrom_37 : decode cX1_fewestFrom 37 = .ok (.istore 5, 2) := by decide +kernel
theorem dX1_fewestFrom_39 : decode cX1_fewestFrom 39 = .ok (.iload 5, 2) := by decide +kernel
theorem dX1_fewestFrom_41 : decode cX1_fewestFrom 41 = .ok (.bipush 6, 2) := by decide +kernel
theorem dX1_fewestFrom_43 : decode cX1_fewestFrom 43 = .ok (.if_icmp .ge 98, 3) := by decide +kernel
theorem dX1_fewestFrom_46 : decode cX1_fewestFrom 46 = .ok (.aload_n 2, 1) := by decide +kernel
theorem dX1_fewestFrom_47 : decode cX1_fewestFrom 47 = .ok (.iload 5, 2) := by decide +kernel
theorem dX1_fewestFrom_49 : decode cX1_fewestFrom 49 = .ok (.iaload, 1) := by decide +kernel
theorem dX1_fewestFrom_50 : decode cX1_fewestFrom 50 = .ok (.ifCond .le 13, 3) := by decide +kernel
theorem dX1_fewestFrom_53 : decode cX1_fewestFrom 53 = .ok (.aload_n 3, 1) := by decide +kernel
theorem dX1_fewestFrom_54 : decode cX1_fewestFrom 54 = .ok (.iload 5, 2) := by decide +kernel
theorem dX1_fewestFrom_56 : decode cX1_fewestFrom 56 = .ok (.iload_n 0, 1) := by decide +kernel
theorem dX1_fewestFrom_57 : decode cX1_fewestFrom 57 = .ok (.invokevirtual 39, 3) := by decide +kernel
theorem dX1_fewestFrom_60 : decode cX1_fewestFrom 60 = .ok (.goto 5, 3) := by decide +kernel
theorem dX1_fewestFrom_63 : decode cX1_fewestFrom 63 = .ok (.bipush (-9), 2) := by decide +kernel
theorem dX1_fewestFrom_65 : decode cX1_fewestFrom 65 = .ok (.istore 6, 2) := by decide +kernel
theorem dX1_fewestFrom_67 : decode cX1_fewestFrom 67 = .ok (.iload 6, 2) := by decide +kernel
theorem dX1_fewestFrom_69 : decode cX1_fewestFrom 69 = .ok (.bipush (-9), 2) := by decide +kernel
theorem dX1_fewestFrom_71 : decode cX1_fewestFrom 71 = .ok (.if_icmp .ne 6, 3) := by decide +kernel
theorem dX1_fewestFrom_74 : decode cX1_fewestFrom 74 = .ok (.goto 61, 3) := by decide +kernel
theorem dX1_fewestFrom_77 : decode cX1_fewestFrom 77 = .ok (.aload_n 2, 1) := by decide +kernel
theorem dX1_fewestFrom_78 : decode cX1_fewestFrom 78 = .ok (.iload 5, 2) := by decide +kernel
theorem dX1_fewestFrom_80 : decode cX1_fewestFrom 80 = .ok (.dup2, 1) := by decide +kernel
theorem dX1_fewestFrom_81 : decode cX1_fewestFrom 81 = .ok (.iaload, 1) := by decide +kernel
theorem dX1_fewestFrom_82 : decode cX1_fewestFrom 82 = .ok (.iconst 1, 1) := by decide +kernel
theorem dX1_fewestFrom_83 : decode cX1_fewestFrom 83 = .ok (.isub, 1) := by decide +kernel
theorem dX1_fewestFrom_84 : decode cX1_fewestFrom 84 = .ok (.iastore, 1) := by decide +kernel
theorem dX1_fewestFrom_85 : decode cX1_fewestFrom 85 = .ok (.iload_n 0, 1) := by decide +kernel
theorem dX1_fewestFrom_86 : decode cX1_fewestFrom 86 = .ok (.iconst 1, 1) := by decide +kernel
theorem dX1_fewestFrom_87 : decode cX1_fewestFrom 87 = .ok (.iadd, 1) := by decide +kernel
theorem dX1_fewestFrom_88 : decode cX1_fewestFrom 88 = .ok (.iload_n 1, 1) := by decide +kernel
theorem dX1_fewestFrom_89 : decode cX1_fewestFrom 89 = .ok (.aload_n 2, 1) := by decide +kernel
theorem dX1_fewestFrom_90 : decode cX1_fewestFrom 90 = .ok (.aload_n 3, 1) := by decide +kernel
theorem dX1_fewestFrom_91 : decode cX1_fewestFrom 91 = .ok (.invokestatic 35, 3) := by decide +kernel
theorem dX1_fewestFrom_94 : decode cX1_fewestFrom 94 = .ok (.istore 7, 2) := by decide +kernel
theorem dX1_fewestFrom_96 : decode cX1_fewestFrom 96 = .ok (.aload_n 2, 1) := by decide +kernel
theorem dX1_fewestFrom_97 : decode cX1_fewestFrom 97 = .ok (.iload 5, 2) := by decide +kernel
theorem dX1_fewestFrom_99 : decode cX1_fewestFrom 99 = .ok (.dup2, 1) := by decide +kernel
theorem dX1_fewestFrom_100 : decode cX1_fewestFrom 100 = .ok (.iaload, 1) := by decide +kernel
theorem dX1_fewestFrom_101 : decode cX1_fewestFrom 101 = .ok (.iconst 1, 1) := by decide +kernel
theorem dX1_fewestFrom_102 : decode cX1_fewestFrom 102 = .ok (.iadd, 1) := by decide +kernel
theorem dX1_fewestFrom_103 : decode cX1_fewestFrom 103 = .ok (.iastore, 1) := by decide +kernel
theorem dX1_fewestFrom_104 : decode cX1_fewestFrom 104 = .ok (.iload 7, 2) := by decide +kernel
theorem dX1_fewestFrom_106 : decode cX1_fewestFrom 106 = .ok (.bipush (-9), 2) := by decide +kernel
theorem dX1_fewestFrom_108 : decode cX1_fewestFrom 108 = .ok (.if_icmp .eq 27, 3) := by decide +kernel
theorem dX1_fewestFrom_111 : decode cX1_fewestFrom 111 = .ok (.iload 4, 2) := by decide +kernel
theorem dX1_fewestFrom_113 : decode cX1_fewestFrom 113 = .ok (.bipush (-9), 2) := by decide +kernel
theorem dX1_fewestFrom_115 : decode cX1_fewestFrom 115 = .ok (.if_icmp .eq 13, 3) := by decide +kernel
theorem dX1_fewestFrom_118 : decode cX1_fewestFrom 118 = .ok (.iload 6, 2) := by decide +kernel
theorem dX1_fewestFrom_120 : decode cX1_fewestFrom 120 = .ok (.iload 7, 2) := by decide +kernel
theorem dX1_fewestFrom_122 : decode cX1_fewestFrom 122 = .ok (.iadd, 1) := by decide +kernel
theorem dX1_fewestFrom_123 : decode cX1_fewestFrom 123 = .ok (.iload 4, 2) := by decide +kernel
theorem dX1_fewestFrom_125 : decode cX1_fewestFrom 125 = .ok (.if_icmp .ge 10, 3) := by decide +kernel
theorem dX1_fewestFrom_128 : decode cX1_fewestFrom 128 = .ok (.iload 6, 2) := by decide +kernel
theorem dX1_fewestFrom_130 : decode cX1_fewestFrom 130 = .ok (.iload 7, 2) := by decide +kernel
theorem dX1_fewestFrom_132 : decode cX1_fewestFrom 132 = .ok (.iadd, 1) := by decide +kernel
theorem dX1_fewestFrom_133 : decode cX1_fewestFrom 133 = .ok (.istore 4, 2) := by decide +kernel
theorem dX1_fewestFrom_135 : decode cX1_fewestFrom 135 = .ok (.iinc 5 1, 3) := by decide +kernel
theorem dX1_fewestFrom_138 : decode cX1_fewestFrom 138 = .ok (.goto (-99), 3) := by decide +kernel
theorem dX1_fewestFrom_141 : decode cX1_fewestFrom 141 = .ok (.iload 4, 2) := by decide +kernel
theorem dX1_fewestFrom_143 : decode cX1_fewestFrom 143 = .ok (.ireturn, 1) := by decide +kernel
theorem dX2_init_0 : decode cX2_init 0 = .ok (.aload_n 0, 1) := by decide +kernel
theorem dX2_init_1 : decode cX2_init 1 = .ok (.invokespecial 3, 3) := by decide +kernel
theorem dX2_init_4 : decode cX2_init 4 = .ok (.aload_n 0, 1) := by decide +kernel
theorem dX2_init_5 : decode cX2_init 5 = .ok (.iconst 3, 1) := by decide +kernel
theorem dX2_init_6 : decode cX2_init 6 = .ok (.newarray .int, 2) := by decide +kernel
theorem dX2_init_8 : decode cX2_init 8 = .ok (.putfield 9, 3) := by decide +kernel
theorem dX2_init_11 : decode cX2_init 11 = .ok (.aload_n 0, 1) := by decide +kernel
theorem dX2_init_12 : decode cX2_init 12 = .ok (.bipush (-9), 2) := by decide +kernel
theorem dX2_init_14 : decode cX2_init 14 = .ok (.putfield 15, 3) := by decide +kernel
theorem dX2_init_17 : decode cX2_init 17 = .ok (.return_, 1) := by decide +kernel
theorem dX2_seek_0 : decode cX2_seek 0 = .ok (.aload_n 0, 1) := by decide +kernel
theorem dX2_seek_1 : decode cX2_seek 1 = .ok (.bipush (-9), 2) := by decide +kernel
theorem dX2_seek_3 : decode cX2_seek 3 = .ok (.putfield 15, 3) := by decide +kernel
theorem dX2_seek_6 : decode cX2_seek 6 = .ok (.aload_n 1, 1) := by decide +kernel
theorem dX2_seek_7 : decode cX2_seek 7 = .ok (.invokevirtual 19, 3) := by decide +kernel
theorem dX2_seek_10 : decode cX2_seek 10 = .ok (.istore_n 2, 1) := by decide +kernel
theorem dX2_seek_11 : decode cX2_seek 11 = .ok (.iconst 0, 1) := by decide +kernel
theorem dX2_seek_12 : decode cX2_seek 12 = .ok (.istore_n 3, 1) := by decide +kernel
theorem dX2_seek_13 : decode cX2_seek 13 = .ok (.iload_n 3, 1) := by decide +kernel
theorem dX2_seek_14 : decode cX2_seek 14 = .ok (.iconst 0, 1) := by decide +kernel
theorem dX2_seek_15 : decode cX2_seek 15 = .ok (.aload_n 1, 1) := by decide +kernel
theorem dX2_seek_16 : decode cX2_seek 16 = .ok (.invokestatic 25, 3) := by decide +kernel
theorem dX2_seek_19 : decode cX2_seek 19 = .ok (.if_icmp .gt 61, 3) := by decide +kernel
theorem dX2_seek_22 : decode cX2_seek 22 = .ok (.iconst 0, 1) := by decide +kernel
theorem dX2_seek_23 : decode cX2_seek 23 = .ok (.istore 4, 2) := by decide +kernel
theorem dX2_seek_25 : decode cX2_seek 25 = .ok (.iload 4, 2) := by decide +kernel
theorem dX2_seek_27 : decode cX2_seek 27 = .ok (.iconst 1, 1) := by decide +kernel
theorem dX2_seek_28 : decode cX2_seek 28 = .ok (.aload_n 1, 1) := by decide +kernel
theorem dX2_seek_29 : decode cX2_seek 29 = .ok (.invokestatic 25, 3) := by decide +kernel
theorem dX2_seek_32 : decode cX2_seek 32 = .ok (.if_icmp .gt 42, 3) := by decide +kernel
theorem dX2_seek_35 : decode cX2_seek 35 = .ok (.iload_n 2, 1) := by decide +kernel
theorem dX2_seek_36 : decode cX2_seek 36 = .ok (.iload_n 3, 1) := by decide +kernel
theorem dX2_seek_37 : decode cX2_seek 37 = .ok (.isub, 1) := by decide +kernel
theorem dX2_seek_38 : decode cX2_seek 38 = .ok (.iload 4, 2) := by decide +kernel
theorem dX2_seek_40 : decode cX2_seek 40 = .ok (.isub, 1) := by decide +kernel
theorem dX2_seek_41 : decode cX2_seek 41 = .ok (.istore 5, 2) := by decide +kernel
theorem dX2_seek_43 : decode cX2_seek 43 = .ok (.iload 5, 2) := by decide +kernel
theorem dX2_seek_45 : decode cX2_seek 45 = .ok (.ifCond .lt 23, 3) := by decide +kernel
theorem dX2_seek_48 : decode cX2_seek 48 = .ok (.iload 5, 2) := by decide +kernel
theorem dX2_seek_50 : decode cX2_seek 50 = .ok (.iconst 2, 1) := by decide +kernel
theorem dX2_seek_51 : decode cX2_seek 51 = .ok (.aload_n 1, 1) := by decide +kernel
theorem dX2_seek_52 : decode cX2_seek 52 = .ok (.invokestatic 25, 3) := by decide +kernel
theorem dX2_seek_55 : decode cX2_seek 55 = .ok (.if_icmp .gt 13, 3) := by decide +kernel
theorem dX2_seek_58 : decode cX2_seek 58 = .ok (.aload_n 0, 1) := by decide +kernel
theorem dX2_seek_59 : decode cX2_seek 59 = .ok (.aload_n 1, 1) := by decide +kernel
theorem dX2_seek_60 : decode cX2_seek 60 = .ok (.iload_n 3, 1) := by decide +kernel
theorem dX2_seek_61 : decode cX2_seek 61 = .ok (.iload 4, 2) := by decide +kernel
theorem dX2_seek_63 : decode cX2_seek 63 = .ok (.iload 5, 2) := by decide +kernel
theorem dX2_seek_65 : decode cX2_seek 65 = .ok (.invokevirtual 29, 3) := by decide +kernel
theorem dX2_seek_68 : decode cX2_seek 68 = .ok (.iinc 4 1, 3) := by decide +kernel
theorem dX2_seek_71 : decode cX2_seek 71 = .ok (.goto (-46), 3) := by decide +kernel
theorem dX2_seek_74 : decode cX2_seek 74 = .ok (.iinc 3 1, 3) := by decide +kernel
theorem dX2_seek_77 : decode cX2_seek 77 = .ok (.goto (-64), 3) := by decide +kernel
theorem dX2_seek_80 : decode cX2_seek 80 = .ok (.return_, 1) := by decide +kernel
theorem dX2_mostAt_0 : decode cX2_mostAt 0 = .ok (.aload_n 1, 1) := by decide +kernel
theorem dX2_mostAt_1 : decode cX2_mostAt 1 = .ok (.iload_n 0, 1) := by decide +kernel
theorem dX2_mostAt_2 : decode cX2_mostAt 2 = .ok (.invokevirtual 33, 3) := by decide +kernel
theorem dX2_mostAt_5 : decode cX2_mostAt 5 = .ok (.ifCond .eq 8, 3) := by decide +kernel
theorem dX2_mostAt_8 : decode cX2_mostAt 8 = .ok (.bipush 9, 2) := by decide +kernel
theorem dX2_mostAt_10 : decode cX2_mostAt 10 = .ok (.goto 4, 3) := by decide +kernel
theorem dX2_mostAt_13 : decode cX2_mostAt 13 = .ok (.iconst 0, 1) := by decide +kernel
theorem dX2_mostAt_14 : decode cX2_mostAt 14 = .ok (.ireturn, 1) := by decide +kernel
theorem dX2_weigh_0 : decode cX2_weigh 0 = .ok (.aload_n 1, 1) := by decide +kernel
theorem dX2_weigh_1 : decode cX2_weigh 1 = .ok (.getfield 37, 3) := by decide +kernel
theorem dX2_weigh_4 : decode cX2_weigh 4 = .ok (.iconst 0, 1) := by decide +kernel
theorem dX2_weigh_5 : decode cX2_weigh 5 = .ok (.iload_n 2, 1) := by decide +kernel
theorem dX2_weigh_6 : decode cX2_weigh 6 = .ok (.iastore, 1) := by decide +kernel
theorem dX2_weigh_7 : decode cX2_weigh 7 = .ok (.aload_n 1, 1) := by decide +kernel
theorem dX2_weigh_8 : decode cX2_weigh 8 = .ok (.getfield 37, 3) := by decide +kernel
theorem dX2_weigh_11 : decode cX2_weigh 11 = .ok (.iconst 1, 1) := by decide +kernel
theorem dX2_weigh_12 : decode cX2_weigh 12 = .ok (.iload_n 3, 1) := by decide +kernel
theorem dX2_weigh_13 : decode cX2_weigh 13 = .ok (.iastore, 1) := by decide +kernel
theorem dX2_weigh_14 : decode cX2_weigh 14 = .ok (.aload_n 1, 1) := by decide +kernel
theorem dX2_weigh_15 : decode cX2_weigh 15 = .ok (.getfield 37, 3) := by decide +kernel
theorem dX2_weigh_18 : decode cX2_weigh 18 = .ok (.iconst 2, 1) := by decide +kernel
theorem dX2_weigh_19 : decode cX2_weigh 19 = .ok (.iload 4, 2) := by decide +kernel
theorem dX2_weigh_21 : decode cX2_weigh 21 = .ok (.iastore, 1) := by decide +kernel
theorem dX2_weigh_22 : decode cX2_weigh 22 = .ok (.aload_n 1, 1) := by decide +kernel
theorem dX2_weigh_23 : decode cX2_weigh 23 = .ok (.invokevirtual 40, 3) := by decide +kernel
theorem dX2_weigh_26 : decode cX2_weigh 26 = .ok (.invokestatic 43, 3) := by decide +kernel
theorem dX2_weigh_29 : decode cX2_weigh 29 = .ok (.istore 5, 2) := by decide +kernel
theorem dX2_weigh_31 : decode cX2_weigh 31 = .ok (.aload_n 0, 1) := by decide +kernel
theorem dX2_weigh_32 : decode cX2_weigh 32 = .ok (.getfield 15, 3) := by decide +kernel
theorem dX2_weigh_35 : decode cX2_weigh 35 = .ok (.bipush (-9), 2) := by decide +kernel
theorem dX2_weigh_37 : decode cX2_weigh 37 = .ok (.if_icmp .eq 13, 3) := by decide +kernel
theorem dX2_weigh_40 : decode cX2_weigh 40 = .ok (.iload 5, 2) := by decide +kernel
theorem dX2_weigh_42 : decode cX2_weigh 42 = .ok (.aload_n 0, 1) := by decide +kernel
theorem dX2_weigh_43 : decode cX2_weigh 43 = .ok (.getfield 15, 3) := by decide +kernel
theorem dX2_weigh_46 : decode cX2_weigh 46 = .ok (.if_icmp .lt 4, 3) := by decide +kernel
theorem dX2_weigh_49 : decode cX2_weigh 49 = .ok (.return_, 1) := by decide +kernel
theorem dX2_weigh_50 : decode cX2_weigh 50 = .ok (.aload_n 0, 1) := by decide +kernel
theorem dX2_weigh_51 : decode cX2_weigh 51 = .ok (.iload 5, 2) := by decide +kernel
theorem dX2_weigh_53 : decode cX2_weigh 53 = .ok (.putfield 15, 3) := by decide +kernel
theorem dX2_weigh_56 : decode cX2_weigh 56 = .ok (.aload_n 1, 1) := by decide +kernel
theorem dX2_weigh_57 : decode cX2_weigh 57 = .ok (.getfield 37, 3) := by decide +kernel
theorem dX2_weigh_60 : decode cX2_weigh 60 = .ok (.iconst 0, 1) := by decide +kernel
theorem dX2_weigh_61 : decode cX2_weigh 61 = .ok (.aload_n 0, 1) := by decide +kernel
theorem dX2_weigh_62 : decode cX2_weigh 62 = .ok (.getfield 9, 3) := by decide +kernel
theorem dX2_weigh_65 : decode cX2_weigh 65 = .ok (.iconst 0, 1) := by decide +kernel
theorem dX2_weigh_66 : decode cX2_weigh 66 = .ok (.iconst 3, 1) := by decide +kernel
theorem dX2_weigh_67 : decode cX2_weigh 67 = .ok (.invokestatic 49, 3) := by decide +kernel
theorem dX2_weigh_70 : decode cX2_weigh 70 = .ok (.return_, 1) := by decide +kernel
theorem dX3_init_0 : decode cX3_init 0 = .ok (.aload_n 0, 1) := by decide +kernel
theorem dX3_init_1 : decode cX3_init 1 = .ok (.invokespecial 3, 3) := by decide +kernel
theorem dX3_init_4 : decode cX3_init 4 = .ok (.aload_n 0, 1) := by decide +kernel
theorem dX3_init_5 : decode cX3_init 5 = .ok (.bipush 8, 2) := by decide +kernel
theorem dX3_init_7 : decode cX3_init 7 = .ok (.newarray .int, 2) := by decide +kernel
theorem dX3_init_9 : decode cX3_init 9 = .ok (.putfield 9, 3) := by decide +kernel
theorem dX3_init_12 : decode cX3_init 12 = .ok (.aload_n 0, 1) := by decide +kernel
theorem dX3_init_13 : decode cX3_init 13 = .ok (.bipush 8, 2) := by decide +kernel
theorem dX3_init_15 : decode cX3_init 15 = .ok (.newarray .int, 2) := by decide +kernel
theorem dX3_init_17 : decode cX3_init 17 = .ok (.putfield 15, 3) := by decide +kernel
theorem dX3_init_20 : decode cX3_init 20 = .ok (.aload_n 0, 1) := by decide +kernel
theorem dX3_init_21 : decode cX3_init 21 = .ok (.iconst 0, 1) := by decide +kernel
theorem dX3_init_22 : decode cX3_init 22 = .ok (.putfield 18, 3) := by decide +kernel
theorem dX3_init_25 : decode cX3_init 25 = .ok (.return_, 1) := by decide +kernel
theorem dX3_note_0 : decode cX3_note 0 = .ok (.aload_n 0, 1) := by decide +kernel
theorem dX3_note_1 : decode cX3_note 1 = .ok (.getfield 18, 3) := by decide +kernel
theorem dX3_note_4 : decode cX3_note 4 = .ok (.bipush 8, 2) := by decide +kernel
theorem dX3_note_6 : decode cX3_note 6 = .ok (.if_icmp .lt 6, 3) := by decide +kernel
theorem dX3_note_9 : decode cX3_note 9 = .ok (.bipush (-4), 2) := by decide +kernel
theorem dX3_note_11 : decode cX3_note 11 = .ok (.ireturn, 1) := by decide +kernel
theorem dX3_note_12 : decode cX3_note 12 = .ok (.aload_n 0, 1) := by decide +kernel
theorem dX3_note_13 : decode cX3_note 13 = .ok (.getfield 9, 3) := by decide +kernel
theorem dX3_note_16 : decode cX3_note 16 = .ok (.aload_n 0, 1) := by decide +kernel
theorem dX3_note_17 : decode cX3_note 17 = .ok (.getfield 18, 3) := by decide +kernel
theorem dX3_note_20 : decode cX3_note 20 = .ok (.iload_n 1, 1) := by decide +kernel
theorem dX3_note_21 : decode cX3_note 21 = .ok (.iastore, 1) := by decide +kernel
theorem dX3_note_22 : decode cX3_note 22 = .ok (.aload_n 0, 1) := by decide +kernel
theorem dX3_note_23 : decode cX3_note 23 = .ok (.getfield 15, 3) := by decide +kernel
theorem dX3_note_26 : decode cX3_note 26 = .ok (.aload_n 0, 1) := by decide +kernel
theorem dX3_note_27 : decode cX3_note 27 = .ok (.getfield 18, 3) := by decide +kernel
theorem dX3_note_30 : decode cX3_note 30 = .ok (.iload_n 2, 1) := by decide +kernel
theorem dX3_note_31 : decode cX3_note 31 = .ok (.iastore, 1) := by decide +kernel
theorem dX3_note_32 : decode cX3_note 32 = .ok (.aload_n 0, 1) := by decide +kernel
theorem dX3_note_33 : decode cX3_note 33 = .ok (.dup, 1) := by decide +kernel
theorem dX3_note_34 : decode cX3_note 34 = .ok (.getfield 18, 3) := by decide +kernel
theorem dX3_note_37 : decode cX3_note 37 = .ok (.iconst 1, 1) := by decide +kernel
theorem dX3_note_38 : decode cX3_note 38 = .ok (.iadd, 1) := by decide +kernel
theorem dX3_note_39 : decode cX3_note 39 = .ok (.putfield 18, 3) := by decide +kernel
theorem dX3_note_42 : decode cX3_note 42 = .ok (.aload_n 0, 1) := by decide +kernel
theorem dX3_note_43 : decode cX3_note 43 = .ok (.getfield 18, 3) := by decide +kernel
theorem dX3_note_46 : decode cX3_note 46 = .ok (.iconst 1, 1) := by decide +kernel
theorem dX3_note_47 : decode cX3_note 47 = .ok (.isub, 1) := by decide +kernel
theorem dX3_note_48 : decode cX3_note 48 = .ok (.ireturn, 1) := by decide +kernel
theorem dX3_areSoIn_0 : decode cX3_areSoIn 0 = .ok (.iconst 0, 1) := by decide +kernel
theorem dX3_areSoIn_1 : decode cX3_areSoIn 1 = .ok (.istore_n 2, 1) := by decide +kernel
theorem dX3_areSoIn_2 : decode cX3_areSoIn 2 = .ok (.iload_n 2, 1) := by decide +kernel
theorem dX3_areSoIn_3 : decode cX3_areSoIn 3 = .ok (.aload_n 0, 1) := by decide +kernel
theorem dX3_areSoIn_4 : decode cX3_areSoIn 4 = .ok (.getfield 18, 3) := by decide +kernel
theorem dX3_areSoIn_7 : decode cX3_areSoIn 7 = .ok (.if_icmp .ge 30, 3) := by decide +kernel
theorem dX3_areSoIn_10 : decode cX3_areSoIn 10 = .ok (.aload_n 1, 1) := by decide +kernel
theorem dX3_areSoIn_11 : decode cX3_areSoIn 11 = .ok (.aload_n 0, 1) := by decide +kernel
theorem dX3_areSoIn_12 : decode cX3_areSoIn 12 = .ok (.getfield 9, 3) := by decide +kernel
theorem dX3_areSoIn_15 : decode cX3_areSoIn 15 = .ok (.iload_n 2, 1) := by decide +kernel
theorem dX3_areSoIn_16 : decode cX3_areSoIn 16 = .ok (.iaload, 1) := by decide +kernel
theorem dX3_areSoIn_17 : decode cX3_areSoIn 17 = .ok (.invokevirtual 22, 3) := by decide +kernel
theorem dX3_areSoIn_20 : decode cX3_areSoIn 20 = .ok (.aload_n 0, 1) := by decide +kernel
theorem dX3_areSoIn_21 : decode cX3_areSoIn 21 = .ok (.getfield 15, 3) := by decide +kernel
theorem dX3_areSoIn_24 : decode cX3_areSoIn 24 = .ok (.iload_n 2, 1) := by decide +kernel
theorem dX3_areSoIn_25 : decode cX3_areSoIn 25 = .ok (.iaload, 1) := by decide +kernel
theorem dX3_areSoIn_26 : decode cX3_areSoIn 26 = .ok (.if_icmp .eq 5, 3) := by decide +kernel
theorem dX3_areSoIn_29 : decode cX3_areSoIn 29 = .ok (.iconst 0, 1) := by decide +kernel
theorem dX3_areSoIn_30 : decode cX3_areSoIn 30 = .ok (.ireturn, 1) := by decide +kernel
theorem dX3_areSoIn_31 : decode cX3_areSoIn 31 = .ok (.iinc 2 1, 3) := by decide +kernel
theorem dX3_areSoIn_34 : decode cX3_areSoIn 34 = .ok (.goto (-32), 3) := by decide +kernel
theorem dX3_areSoIn_37 : decode cX3_areSoIn 37 = .ok (.iconst 1, 1) := by decide +kernel
theorem dX3_areSoIn_38 : decode cX3_areSoIn 38 = .ok (.ireturn, 1) := by decide +kernel
theorem dX4_init_0 : decode cX4_init 0 = .ok (.aload_n 0, 1) := by decide +kernel
theorem dX4_init_1 : decode cX4_init 1 = .ok (.invokespecial 3, 3) := by decide +kernel
theorem dX4_init_4 : decode cX4_init 4 = .ok (.aload_n 0, 1) := by decide +kernel
theorem dX4_init_5 : decode cX4_init 5 = .ok (.sipush 301, 3) := by decide +kernel
theorem dX4_init_8 : decode cX4_init 8 = .ok (.newarray .int, 2) := by decide +kernel
theorem dX4_init_10 : decode cX4_init 10 = .ok (.putfield 9, 3) := by decide +kernel
theorem dX4_init_13 : decode cX4_init 13 = .ok (.aload_n 0, 1) := by decide +kernel
theorem dX4_init_14 : decode cX4_init 14 = .ok (.bipush (-9), 2) := by decide +kernel
theorem dX4_init_16 : decode cX4_init 16 = .ok (.putfield 15, 3) := by decide +kernel
theorem dX4_init_19 : decode cX4_init 19 = .ok (.aload_n 0, 1) := by decide +kernel
theorem dX4_init_20 : decode cX4_init 20 = .ok (.bipush (-9), 2) := by decide +kernel
theorem dX4_init_22 : decode cX4_init 22 = .ok (.putfield 19, 3) := by decide +kernel
theorem dX4_init_25 : decode cX4_init 25 = .ok (.return_, 1) := by decide +kernel
theorem dX4_follow_0 : decode cX4_follow 0 = .ok (.aload_n 0, 1) := by decide +kernel
theorem dX4_follow_1 : decode cX4_follow 1 = .ok (.bipush (-9), 2) := by decide +kernel
theorem dX4_follow_3 : decode cX4_follow 3 = .ok (.putfield 15, 3) := by decide +kernel
theorem dX4_follow_6 : decode cX4_follow 6 = .ok (.aload_n 0, 1) := by decide +kernel
theorem dX4_follow_7 : decode cX4_follow 7 = .ok (.bipush (-9), 2) := by decide +kernel
theorem dX4_follow_9 : decode cX4_follow 9 = .ok (.putfield 19, 3) := by decide +kernel
theorem dX4_follow_12 : decode cX4_follow 12 = .ok (.iconst 0, 1) := by decide +kernel
theorem dX4_follow_13 : decode cX4_follow 13 = .ok (.istore_n 2, 1) := by decide +kernel
theorem dX4_follow_14 : decode cX4_follow 14 = .ok (.iload_n 2, 1) := by decide +kernel
theorem dX4_follow_15 : decode cX4_follow 15 = .ok (.sipush 300, 3) := by decide +kernel
theorem dX4_follow_18 : decode cX4_follow 18 = .ok (.if_icmp .gt 47, 3) := by decide +kernel
theorem dX4_follow_21 : decode cX4_follow 21 = .ok (.aload_n 0, 1) := by decide +kernel
theorem dX4_follow_22 : decode cX4_follow 22 = .ok (.getfield 9, 3) := by decide +kernel
theorem dX4_follow_25 : decode cX4_follow 25 = .ok (.iload_n 2, 1) := by decide +kernel
theorem dX4_follow_26 : decode cX4_follow 26 = .ok (.aload_n 1, 1) := by decide +kernel
theorem dX4_follow_27 : decode cX4_follow 27 = .ok (.invokevirtual 22, 3) := by decide +kernel
theorem dX4_follow_30 : decode cX4_follow 30 = .ok (.iastore, 1) := by decide +kernel
theorem dX4_follow_31 : decode cX4_follow 31 = .ok (.aload_n 0, 1) := by decide +kernel
theorem dX4_follow_32 : decode cX4_follow 32 = .ok (.iload_n 2, 1) := by decide +kernel
theorem dX4_follow_33 : decode cX4_follow 33 = .ok (.invokevirtual 28, 3) := by decide +kernel
theorem dX4_follow_36 : decode cX4_follow 36 = .ok (.istore_n 3, 1) := by decide +kernel
theorem dX4_follow_37 : decode cX4_follow 37 = .ok (.iload_n 3, 1) := by decide +kernel
theorem dX4_follow_38 : decode cX4_follow 38 = .ok (.iload_n 2, 1) := by decide +kernel
theorem dX4_follow_39 : decode cX4_follow 39 = .ok (.if_icmp .ge 16, 3) := by decide +kernel
theorem dX4_follow_42 : decode cX4_follow 42 = .ok (.aload_n 0, 1) := by decide +kernel
theorem dX4_follow_43 : decode cX4_follow 43 = .ok (.iload_n 3, 1) := by decide +kernel
theorem dX4_follow_44 : decode cX4_follow 44 = .ok (.putfield 15, 3) := by decide +kernel
theorem dX4_follow_47 : decode cX4_follow 47 = .ok (.aload_n 0, 1) := by decide +kernel
theorem dX4_follow_48 : decode cX4_follow 48 = .ok (.iload_n 2, 1) := by decide +kernel
theorem dX4_follow_49 : decode cX4_follow 49 = .ok (.iload_n 3, 1) := by decide +kernel
theorem dX4_follow_50 : decode cX4_follow 50 = .ok (.isub, 1) := by decide +kernel
theorem dX4_follow_51 : decode cX4_follow 51 = .ok (.putfield 19, 3) := by decide +kernel
theorem dX4_follow_54 : decode cX4_follow 54 = .ok (.return_, 1) := by decide +kernel
theorem dX4_follow_55 : decode cX4_follow 55 = .ok (.aload_n 1, 1) := by decide +kernel
theorem dX4_follow_56 : decode cX4_follow 56 = .ok (.invokevirtual 32, 3) := by decide +kernel
theorem dX4_follow_59 : decode cX4_follow 59 = .ok (.iinc 2 1, 3) := by decide +kernel
theorem dX4_follow_62 : decode cX4_follow 62 = .ok (.goto (-48), 3) := by decide +kernel
theorem dX4_follow_65 : decode cX4_follow 65 = .ok (.return_, 1) := by decide +kernel
theorem dX4_firstLike_0 : decode cX4_firstLike 0 = .ok (.iconst 0, 1) := by decide +kernel
theorem dX4_firstLike_1 : decode cX4_firstLike 1 = .ok (.istore_n 2, 1) := by decide +kernel
theorem dX4_firstLike_2 : decode cX4_firstLike 2 = .ok (.iload_n 2, 1) := by decide +kernel
theorem dX4_firstLike_3 : decode cX4_firstLike 3 = .ok (.iload_n 1, 1) := by decide +kernel
theorem dX4_firstLike_4 : decode cX4_firstLike 4 = .ok (.if_icmp .ge 26, 3) := by decide +kernel
theorem dX4_firstLike_7 : decode cX4_firstLike 7 = .ok (.aload_n 0, 1) := by decide +kernel
theorem dX4_firstLike_8 : decode cX4_firstLike 8 = .ok (.getfield 9, 3) := by decide +kernel
theorem dX4_firstLike_11 : decode cX4_firstLike 11 = .ok (.iload_n 2, 1) := by decide +kernel
theorem dX4_firstLike_12 : decode cX4_firstLike 12 = .ok (.iaload, 1) := by decide +kernel
theorem dX4_firstLike_13 : decode cX4_firstLike 13 = .ok (.aload_n 0, 1) := by decide +kernel
theorem dX4_firstLike_14 : decode cX4_firstLike 14 = .ok (.getfield 9, 3) := by decide +kernel
theorem dX4_firstLike_17 : decode cX4_firstLike 17 = .ok (.iload_n 1, 1) := by decide +kernel
theorem dX4_firstLike_18 : decode cX4_firstLike 18 = .ok (.iaload, 1) := by decide +kernel
theorem dX4_firstLike_19 : decode cX4_firstLike 19 = .ok (.if_icmp .ne 5, 3) := by decide +kernel
theorem dX4_firstLike_22 : decode cX4_firstLike 22 = .ok (.iload_n 2, 1) := by decide +kernel
theorem dX4_firstLike_23 : decode cX4_firstLike 23 = .ok (.ireturn, 1) := by decide +kernel
theorem dX4_firstLike_24 : decode cX4_firstLike 24 = .ok (.iinc 2 1, 3) := by decide +kernel
theorem dX4_firstLike_27 : decode cX4_firstLike 27 = .ok (.goto (-25), 3) := by decide +kernel
theorem dX4_firstLike_30 : decode cX4_firstLike 30 = .ok (.iload_n 1, 1) := by decide +kernel
theorem dX4_firstLike_31 : decode cX4_firstLike 31 = .ok (.ireturn, 1) := by decide +kernel
theorem dX5_init_0 : decode cX5_init 0 = .ok (.aload_n 0, 1) := by decide +kernel
theorem dX5_init_1 : decode cX5_init 1 = .ok (.invokespecial 3, 3) := by decide +kernel
theorem dX5_init_4 : decode cX5_init 4 = .ok (.aload_n 0, 1) := by decide +kernel
theorem dX5_init_5 : decode cX5_init 5 = .ok (.bipush 60, 2) := by decide +kernel
theorem dX5_init_7 : decode cX5_init 7 = .ok (.newarray .int, 2) := by decide +kernel
theorem dX5_init_9 : decode cX5_init 9 = .ok (.putfield 9, 3) := by decide +kernel
theorem dX5_init_12 : decode cX5_init 12 = .ok (.aload_n 0, 1) := by decide +kernel
theorem dX5_init_13 : decode cX5_init 13 = .ok (.iconst (-1), 1) := by decide +kernel
theorem dX5_init_14 : decode cX5_init 14 = .ok (.putfield 15, 3) := by decide +kernel
theorem dX5_init_17 : decode cX5_init 17 = .ok (.aload_n 0, 1) := by decide +kernel
theorem dX5_init_18 : decode cX5_init 18 = .ok (.iconst 0, 1) := by decide +kernel
theorem dX5_init_19 : decode cX5_init 19 = .ok (.putfield 19, 3) := by decide +kernel
theorem dX5_init_22 : decode cX5_init 22 = .ok (.return_, 1) := by decide +kernel
theorem dX5_hasRow_0 : decode cX5_hasRow 0 = .ok (.aload_n 0, 1) := by decide +kernel
theorem dX5_hasRow_1 : decode cX5_hasRow 1 = .ok (.getfield 15, 3) := by decide +kernel
theorem dX5_hasRow_4 : decode cX5_hasRow 4 = .ok (.iconst (-1), 1) := by decide +kernel
theorem dX5_hasRow_5 : decode cX5_hasRow 5 = .ok (.if_icmp .eq 7, 3) := by decide +kernel
theorem dX5_hasRow_8 : decode cX5_hasRow 8 = .ok (.iconst 1, 1) := by decide +kernel
theorem dX5_hasRow_9 : decode cX5_hasRow 9 = .ok (.goto 4, 3) := by decide +kernel
theorem dX5_hasRow_12 : decode cX5_hasRow 12 = .ok (.iconst 0, 1) := by decide +kernel
theorem dX5_hasRow_13 : decode cX5_hasRow 13 = .ok (.ireturn, 1) := by decide +kernel
theorem dX5_drop_0 : decode cX5_drop 0 = .ok (.aload_n 0, 1) := by decide +kernel
theorem dX5_drop_1 : decode cX5_drop 1 = .ok (.iconst (-1), 1) := by decide +kernel
theorem dX5_drop_2 : decode cX5_drop 2 = .ok (.putfield 15, 3) := by decide +kernel
theorem dX5_drop_5 : decode cX5_drop 5 = .ok (.aload_n 0, 1) := by decide +kernel
theorem dX5_drop_6 : decode cX5_drop 6 = .ok (.iconst 0, 1) := by decide +kernel
theorem dX5_drop_7 : decode cX5_drop 7 = .ok (.putfield 19, 3) := by decide +kernel
theorem dX5_drop_10 : decode cX5_drop 10 = .ok (.return_, 1) := by decide +kernel
theorem dX5_renew_0 : decode cX5_renew 0 = .ok (.aload_n 0, 1) := by decide +kernel
theorem dX5_renew_1 : decode cX5_renew 1 = .ok (.iload_n 1, 1) := by decide +kernel
theorem dX5_renew_2 : decode cX5_renew 2 = .ok (.putfield 15, 3) := by decide +kernel
theorem dX5_renew_5 : decode cX5_renew 5 = .ok (.aload_n 0, 1) := by decide +kernel
theorem dX5_renew_6 : decode cX5_renew 6 = .ok (.iload_n 2, 1) := by decide +kernel
theorem dX5_renew_7 : decode cX5_renew 7 = .ok (.putfield 19, 3) := by decide +kernel
theorem dX5_renew_10 : decode cX5_renew 10 = .ok (.iconst 0, 1) := by decide +kernel
theorem dX5_renew_11 : decode cX5_renew 11 = .ok (.istore_n 3, 1) := by decide +kernel
theorem dX5_renew_12 : decode cX5_renew 12 = .ok (.iload_n 3, 1) := by decide +kernel
theorem dX5_renew_13 : decode cX5_renew 13 = .ok (.bipush 60, 2) := by decide +kernel
theorem dX5_renew_15 : decode cX5_renew 15 = .ok (.if_icmp .ge 16, 3) := by decide +kernel
theorem dX5_renew_18 : decode cX5_renew 18 = .ok (.aload_n 0, 1) := by decide +kernel
theorem dX5_renew_19 : decode cX5_renew 19 = .ok (.getfield 9, 3) := by decide +kernel
theorem dX5_renew_22 : decode cX5_renew 22 = .ok (.iload_n 3, 1) := by decide +kernel
theorem dX5_renew_23 : decode cX5_renew 23 = .ok (.iconst 0, 1) := by decide +kernel
theorem dX5_renew_24 : decode cX5_renew 24 = .ok (.iastore, 1) := by decide +kernel
theorem dX5_renew_25 : decode cX5_renew 25 = .ok (.iinc 3 1, 3) := by decide +kernel
theorem dX5_renew_28 : decode cX5_renew 28 = .ok (.goto (-16), 3) := by decide +kernel
theorem dX5_renew_31 : decode cX5_renew 31 = .ok (.return_, 1) := by decide +kernel
theorem dX5_hasCells_0 : decode cX5_hasCells 0 = .ok (.iload_n 1, 1) := by decide +kernel
theorem dX5_hasCells_1 : decode cX5_hasCells 1 = .ok (.ifCond .lt 29, 3) := by decide +kernel
theorem dX5_hasCells_4 : decode cX5_hasCells 4 = .ok (.iload_n 1, 1) := by decide +kernel
theorem dX5_hasCells_5 : decode cX5_hasCells 5 = .ok (.aload_n 0, 1) := by decide +kernel
theorem dX5_hasCells_6 : decode cX5_hasCells 6 = .ok (.getfield 19, 3) := by decide +kernel
theorem dX5_hasCells_9 : decode cX5_hasCells 9 = .ok (.if_icmp .gt 21, 3) := by decide +kernel
theorem dX5_hasCells_12 : decode cX5_hasCells 12 = .ok (.iload_n 2, 1) := by decide +kernel
theorem dX5_hasCells_13 : decode cX5_hasCells 13 = .ok (.ifCond .lt 17, 3) := by decide +kernel
theorem dX5_hasCells_16 : decode cX5_hasCells 16 = .ok (.iload_n 2, 1) := by decide +kernel
theorem dX5_hasCells_17 : decode cX5_hasCells 17 = .ok (.aload_n 0, 1) := by decide +kernel
theorem dX5_hasCells_18 : decode cX5_hasCells 18 = .ok (.getfield 19, 3) := by decide +kernel
theorem dX5_hasCells_21 : decode cX5_hasCells 21 = .ok (.iload_n 1, 1) := by decide +kernel
theorem dX5_hasCells_22 : decode cX5_hasCells 22 = .ok (.isub, 1) := by decide +kernel
theorem dX5_hasCells_23 : decode cX5_hasCells 23 = .ok (.if_icmp .gt 7, 3) := by decide +kernel
theorem dX5_hasCells_26 : decode cX5_hasCells 26 = .ok (.iconst 1, 1) := by decide +kernel
theorem dX5_hasCells_27 : decode cX5_hasCells 27 = .ok (.goto 4, 3) := by decide +kernel
theorem dX5_hasCells_30 : decode cX5_hasCells 30 = .ok (.iconst 0, 1) := by decide +kernel
theorem dX5_hasCells_31 : decode cX5_hasCells 31 = .ok (.ireturn, 1) := by decide +kernel
theorem dX5_faultAs_0 : decode cX5_faultAs 0 = .ok (.aload_n 0, 1) := by decide +kernel
theorem dX5_faultAs_1 : decode cX5_faultAs 1 = .ok (.invokevirtual 22, 3) := by decide +kernel
theorem dX5_faultAs_4 : decode cX5_faultAs 4 = .ok (.ifCond .ne 5, 3) := by decide +kernel
theorem dX5_faultAs_7 : decode cX5_faultAs 7 = .ok (.iconst 1, 1) := by decide +kernel
theorem dX5_faultAs_8 : decode cX5_faultAs 8 = .ok (.ireturn, 1) := by decide +kernel
theorem dX5_faultAs_9 : decode cX5_faultAs 9 = .ok (.aload_n 0, 1) := by decide +kernel
theorem dX5_faultAs_10 : decode cX5_faultAs 10 = .ok (.getfield 15, 3) := by decide +kernel
theorem dX5_faultAs_13 : decode cX5_faultAs 13 = .ok (.iload_n 1, 1) := by decide +kernel
theorem dX5_faultAs_14 : decode cX5_faultAs 14 = .ok (.if_icmp .eq 5, 3) := by decide +kernel
theorem dX5_faultAs_17 : decode cX5_faultAs 17 = .ok (.iconst 2, 1) := by decide +kernel
theorem dX5_faultAs_18 : decode cX5_faultAs 18 = .ok (.ireturn, 1) := by decide +kernel
theorem dX5_faultAs_19 : decode cX5_faultAs 19 = .ok (.iload_n 3, 1) := by decide +kernel
theorem dX5_faultAs_20 : decode cX5_faultAs 20 = .ok (.ifCond .ge 5, 3) := by decide +kernel
theorem dX5_faultAs_23 : decode cX5_faultAs 23 = .ok (.iconst 4, 1) := by decide +kernel
theorem dX5_faultAs_24 : decode cX5_faultAs 24 = .ok (.ireturn, 1) := by decide +kernel
theorem dX5_faultAs_25 : decode cX5_faultAs 25 = .ok (.aload_n 0, 1) := by decide +kernel
theorem dX5_faultAs_26 : decode cX5_faultAs 26 = .ok (.iload_n 2, 1) := by decide +kernel
theorem dX5_faultAs_27 : decode cX5_faultAs 27 = .ok (.iload_n 3, 1) := by decide +kernel
theorem dX5_faultAs_28 : decode cX5_faultAs 28 = .ok (.invokevirtual 26, 3) := by decide +kernel
theorem dX5_faultAs_31 : decode cX5_faultAs 31 = .ok (.ifCond .eq 7, 3) := by decide +kernel
theorem dX5_faultAs_34 : decode cX5_faultAs 34 = .ok (.iconst 0, 1) := by decide +kernel
theorem dX5_faultAs_35 : decode cX5_faultAs 35 = .ok (.goto 4, 3) := by decide +kernel
theorem dX5_faultAs_38 : decode cX5_faultAs 38 = .ok (.iconst 3, 1) := by decide +kernel
theorem dX5_faultAs_39 : decode cX5_faultAs 39 = .ok (.ireturn, 1) := by decide +kernel
theorem dX5_cut_0 : decode cX5_cut 0 = .ok (.aload_n 0, 1) := by decide +kernel
theorem dX5_cut_1 : decode cX5_cut 1 = .ok (.getfield 15, 3) := by decide +kernel
theorem dX5_cut_4 : decode cX5_cut 4 = .ok (.ifCond .ne 6, 3) := by decide +kernel
theorem dX5_cut_7 : decode cX5_cut 7 = .ok (.iload_n 1, 1) := by decide +kernel
theorem dX5_cut_8 : decode cX5_cut 8 = .ok (.i2b, 1) := by decide +kernel
theorem dX5_cut_9 : decode cX5_cut 9 = .ok (.ireturn, 1) := by decide +kernel
theorem dX5_cut_10 : decode cX5_cut 10 = .ok (.aload_n 0, 1) := by decide +kernel
theorem dX5_cut_11 : decode cX5_cut 11 = .ok (.getfield 15, 3) := by decide +kernel
theorem dX5_cut_14 : decode cX5_cut 14 = .ok (.iconst 1, 1) := by decide +kernel
theorem dX5_cut_15 : decode cX5_cut 15 = .ok (.if_icmp .ne 8, 3) := by decide +kernel
theorem dX5_cut_18 : decode cX5_cut 18 = .ok (.iload_n 1, 1) := by decide +kernel
theorem dX5_cut_19 : decode cX5_cut 19 = .ok (.i2s, 1) := by decide +kernel
theorem dX5_cut_20 : decode cX5_cut 20 = .ok (.goto 4, 3) := by decide +kernel
theorem dX5_cut_23 : decode cX5_cut 23 = .ok (.iload_n 1, 1) := by decide +kernel
theorem dX5_cut_24 : decode cX5_cut 24 = .ok (.ireturn, 1) := by decide +kernel
theorem dX6_init_0 : decode cX6_init 0 = .ok (.aload_n 0, 1) := by decide +kernel
theorem dX6_init_1 : decode cX6_init 1 = .ok (.invokespecial 3, 3) := by decide +kernel
theorem dX6_init_4 : decode cX6_init 4 = .ok (.return_, 1) := by decide +kernel
theorem dX6_read_0 : decode cX6_read 0 = .ok (.aload 4, 2) := by decide +kernel
theorem dX6_read_2 : decode cX6_read 2 = .ok (.invokevirtual 9, 3) := by decide +kernel
theorem dX6_read_5 : decode cX6_read 5 = .ok (.iconst 0, 1) := by decide +kernel
theorem dX6_read_6 : decode cX6_read 6 = .ok (.istore 5, 2) := by decide +kernel
theorem dX6_read_8 : decode cX6_read 8 = .ok (.iconst 0, 1) := by decide +kernel
theorem dX6_read_9 : decode cX6_read 9 = .ok (.istore 6, 2) := by decide +kernel
theorem dX6_read_11 : decode cX6_read 11 = .ok (.iload 6, 2) := by decide +kernel
theorem dX6_read_13 : decode cX6_read 13 = .ok (.iload_n 3, 1) := by decide +kernel
theorem dX6_read_14 : decode cX6_read 14 = .ok (.if_icmp .ge 36, 3) := by decide +kernel
theorem dX6_read_17 : decode cX6_read 17 = .ok (.iload 5, 2) := by decide +kernel
theorem dX6_read_19 : decode cX6_read 19 = .ok (.aload_n 1, 1) := by decide +kernel
theorem dX6_read_20 : decode cX6_read 20 = .ok (.getfield 16, 3) := by decide +kernel
theorem dX6_read_23 : decode cX6_read 23 = .ok (.iload_n 2, 1) := by decide +kernel
theorem dX6_read_24 : decode cX6_read 24 = .ok (.iload 6, 2) := by decide +kernel
theorem dX6_read_26 : decode cX6_read 26 = .ok (.iadd, 1) := by decide +kernel
theorem dX6_read_27 : decode cX6_read 27 = .ok (.iaload, 1) := by decide +kernel
theorem dX6_read_28 : decode cX6_read 28 = .ok (.aload 4, 2) := by decide +kernel
theorem dX6_read_30 : decode cX6_read 30 = .ok (.invokestatic 22, 3) := by decide +kernel
theorem dX6_read_33 : decode cX6_read 33 = .ok (.istore 5, 2) := by decide +kernel
theorem dX6_read_35 : decode cX6_read 35 = .ok (.iload 5, 2) := by decide +kernel
theorem dX6_read_37 : decode cX6_read 37 = .ok (.iconst (-1), 1) := by decide +kernel
theorem dX6_read_38 : decode cX6_read 38 = .ok (.if_icmp .ne 6, 3) := by decide +kernel
theorem dX6_read_41 : decode cX6_read 41 = .ok (.iload 6, 2) := by decide +kernel
theorem dX6_read_43 : decode cX6_read 43 = .ok (.ireturn, 1) := by decide +kernel
theorem dX6_read_44 : decode cX6_read 44 = .ok (.iinc 6 1, 3) := by decide +kernel
theorem dX6_read_47 : decode cX6_read 47 = .ok (.goto (-36), 3) := by decide +kernel
theorem dX6_read_50 : decode cX6_read 50 = .ok (.iload 5, 2) := by decide +kernel
theorem dX6_read_52 : decode cX6_read 52 = .ok (.bipush 9, 2) := by decide +kernel
theorem dX6_read_54 : decode cX6_read 54 = .ok (.if_icmp .ne 8, 3) := by decide +kernel
theorem dX6_read_57 : decode cX6_read 57 = .ok (.bipush (-9), 2) := by decide +kernel
theorem dX6_read_59 : decode cX6_read 59 = .ok (.goto 4, 3) := by decide +kernel
theorem dX6_read_62 : decode cX6_read 62 = .ok (.iload_n 3, 1) := by decide +kernel
theorem dX6_read_63 : decode cX6_read 63 = .ok (.ireturn, 1) := by decide +kernel
theorem dX6_stepBehind_0 : decode cX6_stepBehind 0 = .ok (.iload_n 0, 1) := by decide +kernel
theorem dX6_stepBehind_1 : decode cX6_stepBehind 1 = .ok (.tableswitch 112 0 9 #[55, 67, 79, 85, 112, 112, 112, 112, 112, 91], 55) := by decide +kernel
theorem dX6_stepBehind_56 : decode cX6_stepBehind 56 = .ok (.iload_n 1, 1) := by decide +kernel
theorem dX6_stepBehind_57 : decode cX6_stepBehind 57 = .ok (.bipush 119, 2) := by decide +kernel
theorem dX6_stepBehind_59 : decode cX6_stepBehind 59 = .ok (.if_icmp .ne 7, 3) := by decide +kernel
theorem dX6_stepBehind_62 : decode cX6_stepBehind 62 = .ok (.iconst 1, 1) := by decide +kernel
theorem dX6_stepBehind_63 : decode cX6_stepBehind 63 = .ok (.goto 4, 3) := by decide +kernel
theorem dX6_stepBehind_66 : decode cX6_stepBehind 66 = .ok (.iconst (-1), 1) := by decide +kernel
theorem dX6_stepBehind_67 : decode cX6_stepBehind 67 = .ok (.ireturn, 1) := by decide +kernel
theorem dX6_stepBehind_68 : decode cX6_stepBehind 68 = .ok (.iload_n 1, 1) := by decide +kernel
theorem dX6_stepBehind_69 : decode cX6_stepBehind 69 = .ok (.bipush 44, 2) := by decide +kernel
theorem dX6_stepBehind_71 : decode cX6_stepBehind 71 = .ok (.if_icmp .ne 7, 3) := by decide +kernel
theorem dX6_stepBehind_74 : decode cX6_stepBehind 74 = .ok (.iconst 2, 1) := by decide +kernel
theorem dX6_stepBehind_75 : decode cX6_stepBehind 75 = .ok (.goto 4, 3) := by decide +kernel
theorem dX6_stepBehind_78 : decode cX6_stepBehind 78 = .ok (.iconst (-1), 1) := by decide +kernel
theorem dX6_stepBehind_79 : decode cX6_stepBehind 79 = .ok (.ireturn, 1) := by decide +kernel
theorem dX6_stepBehind_80 : decode cX6_stepBehind 80 = .ok (.iload_n 1, 1) := by decide +kernel
theorem dX6_stepBehind_81 : decode cX6_stepBehind 81 = .ok (.aload_n 2, 1) := by decide +kernel
theorem dX6_stepBehind_82 : decode cX6_stepBehind 82 = .ok (.invokestatic 26, 3) := by decide +kernel
theorem dX6_stepBehind_85 : decode cX6_stepBehind 85 = .ok (.ireturn, 1) := by decide +kernel
theorem dX6_stepBehind_86 : decode cX6_stepBehind 86 = .ok (.iload_n 1, 1) := by decide +kernel
theorem dX6_stepBehind_87 : decode cX6_stepBehind 87 = .ok (.aload_n 2, 1) := by decide +kernel
theorem dX6_stepBehind_88 : decode cX6_stepBehind 88 = .ok (.invokestatic 30, 3) := by decide +kernel
theorem dX6_stepBehind_91 : decode cX6_stepBehind 91 = .ok (.ireturn, 1) := by decide +kernel
theorem dX6_stepBehind_92 : decode cX6_stepBehind 92 = .ok (.iload_n 1, 1) := by decide +kernel
theorem dX6_stepBehind_93 : decode cX6_stepBehind 93 = .ok (.bipush 59, 2) := by decide +kernel
theorem dX6_stepBehind_95 : decode cX6_stepBehind 95 = .ok (.if_icmp .ne 16, 3) := by decide +kernel
theorem dX6_stepBehind_98 : decode cX6_stepBehind 98 = .ok (.aload_n 2, 1) := by decide +kernel
theorem dX6_stepBehind_99 : decode cX6_stepBehind 99 = .ok (.getfield 33, 3) := by decide +kernel
theorem dX6_stepBehind_102 : decode cX6_stepBehind 102 = .ok (.bipush 6, 2) := by decide +kernel
theorem dX6_stepBehind_104 : decode cX6_stepBehind 104 = .ok (.if_icmp .ge 7, 3) := by decide +kernel
theorem dX6_stepBehind_107 : decode cX6_stepBehind 107 = .ok (.iconst 4, 1) := by decide +kernel
theorem dX6_stepBehind_108 : decode cX6_stepBehind 108 = .ok (.goto 4, 3) := by decide +kernel
theorem dX6_stepBehind_111 : decode cX6_stepBehind 111 = .ok (.iconst (-1), 1) := by decide +kernel
theorem dX6_stepBehind_112 : decode cX6_stepBehind 112 = .ok (.ireturn, 1) := by decide +kernel
theorem dX6_stepBehind_113 : decode cX6_stepBehind 113 = .ok (.iload_n 0, 1) := by decide +kernel
theorem dX6_stepBehind_114 : decode cX6_stepBehind 114 = .ok (.iload_n 1, 1) := by decide +kernel
theorem dX6_stepBehind_115 : decode cX6_stepBehind 115 = .ok (.aload_n 2, 1) := by decide +kernel
theorem dX6_stepBehind_116 : decode cX6_stepBehind 116 = .ok (.invokestatic 37, 3) := by decide +kernel
theorem dX6_stepBehind_119 : decode cX6_stepBehind 119 = .ok (.ireturn, 1) := by decide +kernel
theorem dX6_behindGate_0 : decode cX6_behindGate 0 = .ok (.iload_n 0, 1) := by decide +kernel
theorem dX6_behindGate_1 : decode cX6_behindGate 1 = .ok (.bipush 44, 2) := by decide +kernel
theorem dX6_behindGate_3 : decode cX6_behindGate 3 = .ok (.if_icmp .ne 13, 3) := by decide +kernel
theorem dX6_behindGate_6 : decode cX6_behindGate 6 = .ok (.aload_n 1, 1) := by decide +kernel
theorem dX6_behindGate_7 : decode cX6_behindGate 7 = .ok (.getfield 40, 3) := by decide +kernel
theorem dX6_behindGate_10 : decode cX6_behindGate 10 = .ok (.iconst 3, 1) := by decide +kernel
theorem dX6_behindGate_11 : decode cX6_behindGate 11 = .ok (.if_icmp .ge 5, 3) := by decide +kernel
theorem dX6_behindGate_14 : decode cX6_behindGate 14 = .ok (.iconst 2, 1) := by decide +kernel
theorem dX6_behindGate_15 : decode cX6_behindGate 15 = .ok (.ireturn, 1) := by decide +kernel
theorem dX6_behindGate_16 : decode cX6_behindGate 16 = .ok (.iload_n 0, 1) := by decide +kernel
theorem dX6_behindGate_17 : decode cX6_behindGate 17 = .ok (.bipush 59, 2) := by decide +kernel
theorem dX6_behindGate_19 : decode cX6_behindGate 19 = .ok (.if_icmp .ne 7, 3) := by decide +kernel
theorem dX6_behindGate_22 : decode cX6_behindGate 22 = .ok (.iconst 4, 1) := by decide +kernel
theorem dX6_behindGate_23 : decode cX6_behindGate 23 = .ok (.goto 4, 3) := by decide +kernel
theorem dX6_behindGate_26 : decode cX6_behindGate 26 = .ok (.iconst (-1), 1) := by decide +kernel
theorem dX6_behindGate_27 : decode cX6_behindGate 27 = .ok (.ireturn, 1) := by decide +kernel
theorem dX6_takeLoaves_0 : decode cX6_takeLoaves 0 = .ok (.iload_n 0, 1) := by decide +kernel
theorem dX6_takeLoaves_1 : decode cX6_takeLoaves 1 = .ok (.invokestatic 43, 3) := by decide +kernel
theorem dX6_takeLoaves_4 : decode cX6_takeLoaves 4 = .ok (.istore_n 2, 1) := by decide +kernel
theorem dX6_takeLoaves_5 : decode cX6_takeLoaves 5 = .ok (.iload_n 2, 1) := by decide +kernel
theorem dX6_takeLoaves_6 : decode cX6_takeLoaves 6 = .ok (.ifCond .lt 11, 3) := by decide +kernel
theorem dX6_takeLoaves_9 : decode cX6_takeLoaves 9 = .ok (.aload_n 1, 1) := by decide +kernel
theorem dX6_takeLoaves_10 : decode cX6_takeLoaves 10 = .ok (.getfield 40, 3) := by decide +kernel
theorem dX6_takeLoaves_13 : decode cX6_takeLoaves 13 = .ok (.iconst 3, 1) := by decide +kernel
theorem dX6_takeLoaves_14 : decode cX6_takeLoaves 14 = .ok (.if_icmp .lt 5, 3) := by decide +kernel
theorem dX6_takeLoaves_17 : decode cX6_takeLoaves 17 = .ok (.iconst (-1), 1) := by decide +kernel
theorem dX6_takeLoaves_18 : decode cX6_takeLoaves 18 = .ok (.ireturn, 1) := by decide +kernel
theorem dX6_takeLoaves_19 : decode cX6_takeLoaves 19 = .ok (.aload_n 1, 1) := by decide +kernel
theorem dX6_takeLoaves_20 : decode cX6_takeLoaves 20 = .ok (.getfield 47, 3) := by decide +kernel
theorem dX6_takeLoaves_23 : decode cX6_takeLoaves 23 = .ok (.aload_n 1, 1) := by decide +kernel
theorem dX6_takeLoaves_24 : decode cX6_takeLoaves 24 = .ok (.getfield 40, 3) := by decide +kernel
theorem dX6_takeLoaves_27 : decode cX6_takeLoaves 27 = .ok (.iload_n 2, 1) := by decide +kernel
theorem dX6_takeLoaves_28 : decode cX6_takeLoaves 28 = .ok (.iastore, 1) := by decide +kernel
theorem dX6_takeLoaves_29 : decode cX6_takeLoaves 29 = .ok (.aload_n 1, 1) := by decide +kernel
theorem dX6_takeLoaves_30 : decode cX6_takeLoaves 30 = .ok (.dup, 1) := by decide +kernel
theorem dX6_takeLoaves_31 : decode cX6_takeLoaves 31 = .ok (.getfield 40, 3) := by decide +kernel
theorem dX6_takeLoaves_34 : decode cX6_takeLoaves 34 = .ok (.iconst 1, 1) := by decide +kernel
theorem dX6_takeLoaves_35 : decode cX6_takeLoaves 35 = .ok (.iadd, 1) := by decide +kernel
theorem dX6_takeLoaves_36 : decode cX6_takeLoaves 36 = .ok (.putfield 40, 3) := by decide +kernel
theorem dX6_takeLoaves_39 : decode cX6_takeLoaves 39 = .ok (.iconst 3, 1) := by decide +kernel
theorem dX6_takeLoaves_40 : decode cX6_takeLoaves 40 = .ok (.ireturn, 1) := by decide +kernel
theorem dX6_takeOfComer_0 : decode cX6_takeOfComer 0 = .ok (.aload_n 2, 1) := by decide +kernel
theorem dX6_takeOfComer_1 : decode cX6_takeOfComer 1 = .ok (.getfield 33, 3) := by decide +kernel
theorem dX6_takeOfComer_4 : decode cX6_takeOfComer 4 = .ok (.istore_n 3, 1) := by decide +kernel
theorem dX6_takeOfComer_5 : decode cX6_takeOfComer 5 = .ok (.iload_n 0, 1) := by decide +kernel
theorem dX6_takeOfComer_6 : decode cX6_takeOfComer 6 = .ok (.iconst 4, 1) := by decide +kernel
theorem dX6_takeOfComer_7 : decode cX6_takeOfComer 7 = .ok (.if_icmp .ne 10, 3) := by decide +kernel
theorem dX6_takeOfComer_10 : decode cX6_takeOfComer 10 = .ok (.iload_n 1, 1) := by decide +kernel
theorem dX6_takeOfComer_11 : decode cX6_takeOfComer 11 = .ok (.invokestatic 50, 3) := by decide +kernel
theorem dX6_takeOfComer_14 : decode cX6_takeOfComer 14 = .ok (.goto 7, 3) := by decide +kernel
theorem dX6_takeOfComer_17 : decode cX6_takeOfComer 17 = .ok (.iload_n 1, 1) := by decide +kernel
theorem dX6_takeOfComer_18 : decode cX6_takeOfComer 18 = .ok (.invokestatic 43, 3) := by decide +kernel
theorem dX6_takeOfComer_21 : decode cX6_takeOfComer 21 = .ok (.istore 4, 2) := by decide +kernel
theorem dX6_takeOfComer_23 : decode cX6_takeOfComer 23 = .ok (.iload 4, 2) := by decide +kernel
theorem dX6_takeOfComer_25 : decode cX6_takeOfComer 25 = .ok (.ifCond .lt 24, 3) := by decide +kernel
theorem dX6_takeOfComer_28 : decode cX6_takeOfComer 28 = .ok (.iload_n 3, 1) := by decide +kernel
theorem dX6_takeOfComer_29 : decode cX6_takeOfComer 29 = .ok (.bipush 6, 2) := by decide +kernel
theorem dX6_takeOfComer_31 : decode cX6_takeOfComer 31 = .ok (.if_icmp .ge 18, 3) := by decide +kernel
theorem dX6_takeOfComer_34 : decode cX6_takeOfComer 34 = .ok (.iload_n 0, 1) := by decide +kernel
theorem dX6_takeOfComer_35 : decode cX6_takeOfComer 35 = .ok (.bipush 7, 2) := by decide +kernel
theorem dX6_takeOfComer_37 : decode cX6_takeOfComer 37 = .ok (.if_icmp .ne 14, 3) := by decide +kernel
theorem dX6_takeOfComer_40 : decode cX6_takeOfComer 40 = .ok (.aload_n 2, 1) := by decide +kernel
theorem dX6_takeOfComer_41 : decode cX6_takeOfComer 41 = .ok (.iload 4, 2) := by decide +kernel
theorem dX6_takeOfComer_43 : decode cX6_takeOfComer 43 = .ok (.invokevirtual 53, 3) := by decide +kernel
theorem dX6_takeOfComer_46 : decode cX6_takeOfComer 46 = .ok (.ifCond .ne 5, 3) := by decide +kernel
theorem dX6_takeOfComer_49 : decode cX6_takeOfComer 49 = .ok (.iconst (-1), 1) := by decide +kernel
theorem dX6_takeOfComer_50 : decode cX6_takeOfComer 50 = .ok (.ireturn, 1) := by decide +kernel
theorem dX6_takeOfComer_51 : decode cX6_takeOfComer 51 = .ok (.iload_n 0, 1) := by decide +kernel
theorem dX6_takeOfComer_52 : decode cX6_takeOfComer 52 = .ok (.tableswitch 101 4 8 #[36, 47, 58, 69, 80], 36) := by decide +kernel
theorem dX6_takeOfComer_88 : decode cX6_takeOfComer 88 = .ok (.aload_n 2, 1) := by decide +kernel
theorem dX6_takeOfComer_89 : decode cX6_takeOfComer 89 = .ok (.getfield 57, 3) := by decide +kernel
theorem dX6_takeOfComer_92 : decode cX6_takeOfComer 92 = .ok (.iload_n 3, 1) := by decide +kernel
theorem dX6_takeOfComer_93 : decode cX6_takeOfComer 93 = .ok (.iload 4, 2) := by decide +kernel
theorem dX6_takeOfComer_95 : decode cX6_takeOfComer 95 = .ok (.iastore, 1) := by decide +kernel
theorem dX6_takeOfComer_96 : decode cX6_takeOfComer 96 = .ok (.goto 59, 3) := by decide +kernel
theorem dX6_takeOfComer_99 : decode cX6_takeOfComer 99 = .ok (.aload_n 2, 1) := by decide +kernel
theorem dX6_takeOfComer_100 : decode cX6_takeOfComer 100 = .ok (.getfield 60, 3) := by decide +kernel
theorem dX6_takeOfComer_103 : decode cX6_takeOfComer 103 = .ok (.iload_n 3, 1) := by decide +kernel
theorem dX6_takeOfComer_104 : decode cX6_takeOfComer 104 = .ok (.iload 4, 2) := by decide +kernel
theorem dX6_takeOfComer_106 : decode cX6_takeOfComer 106 = .ok (.iastore, 1) := by decide +kernel
theorem dX6_takeOfComer_107 : decode cX6_takeOfComer 107 = .ok (.goto 48, 3) := by decide +kernel
theorem dX6_takeOfComer_110 : decode cX6_takeOfComer 110 = .ok (.aload_n 2, 1) := by decide +kernel
theorem dX6_takeOfComer_111 : decode cX6_takeOfComer 111 = .ok (.getfield 63, 3) := by decide +kernel
theorem dX6_takeOfComer_114 : decode cX6_takeOfComer 114 = .ok (.iload_n 3, 1) := by decide +kernel
theorem dX6_takeOfComer_115 : decode cX6_takeOfComer 115 = .ok (.iload 4, 2) := by decide +kernel
theorem dX6_takeOfComer_117 : decode cX6_takeOfComer 117 = .ok (.iastore, 1) := by decide +kernel
theorem dX6_takeOfComer_118 : decode cX6_takeOfComer 118 = .ok (.goto 37, 3) := by decide +kernel
theorem dX6_takeOfComer_121 : decode cX6_takeOfComer 121 = .ok (.aload_n 2, 1) := by decide +kernel
theorem dX6_takeOfComer_122 : decode cX6_takeOfComer 122 = .ok (.getfield 66, 3) := by decide +kernel
theorem dX6_takeOfComer_125 : decode cX6_takeOfComer 125 = .ok (.iload_n 3, 1) := by decide +kernel
theorem dX6_takeOfComer_126 : decode cX6_takeOfComer 126 = .ok (.iload 4, 2) := by decide +kernel
theorem dX6_takeOfComer_128 : decode cX6_takeOfComer 128 = .ok (.iastore, 1) := by decide +kernel
theorem dX6_takeOfComer_129 : decode cX6_takeOfComer 129 = .ok (.goto 26, 3) := by decide +kernel
theorem dX6_takeOfComer_132 : decode cX6_takeOfComer 132 = .ok (.aload_n 2, 1) := by decide +kernel
theorem dX6_takeOfComer_133 : decode cX6_takeOfComer 133 = .ok (.getfield 69, 3) := by decide +kernel
theorem dX6_takeOfComer_136 : decode cX6_takeOfComer 136 = .ok (.iload_n 3, 1) := by decide +kernel
theorem dX6_takeOfComer_137 : decode cX6_takeOfComer 137 = .ok (.iload 4, 2) := by decide +kernel
theorem dX6_takeOfComer_139 : decode cX6_takeOfComer 139 = .ok (.iastore, 1) := by decide +kernel
theorem dX6_takeOfComer_140 : decode cX6_takeOfComer 140 = .ok (.aload_n 2, 1) := by decide +kernel
theorem dX6_takeOfComer_141 : decode cX6_takeOfComer 141 = .ok (.dup, 1) := by decide +kernel
theorem dX6_takeOfComer_142 : decode cX6_takeOfComer 142 = .ok (.getfield 33, 3) := by decide +kernel
theorem dX6_takeOfComer_145 : decode cX6_takeOfComer 145 = .ok (.iconst 1, 1) := by decide +kernel
theorem dX6_takeOfComer_146 : decode cX6_takeOfComer 146 = .ok (.iadd, 1) := by decide +kernel
theorem dX6_takeOfComer_147 : decode cX6_takeOfComer 147 = .ok (.putfield 33, 3) := by decide +kernel
theorem dX6_takeOfComer_150 : decode cX6_takeOfComer 150 = .ok (.goto 5, 3) := by decide +kernel
theorem dX6_takeOfComer_153 : decode cX6_takeOfComer 153 = .ok (.iconst (-1), 1) := by decide +kernel
theorem dX6_takeOfComer_154 : decode cX6_takeOfComer 154 = .ok (.ireturn, 1) := by decide +kernel
theorem dX6_takeOfComer_155 : decode cX6_takeOfComer 155 = .ok (.iload_n 0, 1) := by decide +kernel
theorem dX6_takeOfComer_156 : decode cX6_takeOfComer 156 = .ok (.iconst 1, 1) := by decide +kernel
theorem dX6_takeOfComer_157 : decode cX6_takeOfComer 157 = .ok (.iadd, 1) := by decide +kernel
theorem dX6_takeOfComer_158 : decode cX6_takeOfComer 158 = .ok (.ireturn, 1) := by decide +kernel
theorem dX6_kindOf_0 : decode cX6_kindOf 0 = .ok (.iload_n 0, 1) := by decide +kernel
theorem dX6_kindOf_1 : decode cX6_kindOf 1 = .ok (.lookupswitch 41 #[(99, 37), (103, 39), (112, 35)], 35) := by decide +kernel
theorem dX6_kindOf_36 : decode cX6_kindOf 36 = .ok (.iconst 0, 1) := by decide +kernel
theorem dX6_kindOf_37 : decode cX6_kindOf 37 = .ok (.ireturn, 1) := by decide +kernel
theorem dX6_kindOf_38 : decode cX6_kindOf 38 = .ok (.iconst 1, 1) := by decide +kernel
theorem dX6_kindOf_39 : decode cX6_kindOf 39 = .ok (.ireturn, 1) := by decide +kernel
theorem dX6_kindOf_40 : decode cX6_kindOf 40 = .ok (.iconst 2, 1) := by decide +kernel
theorem dX6_kindOf_41 : decode cX6_kindOf 41 = .ok (.ireturn, 1) := by decide +kernel
theorem dX6_kindOf_42 : decode cX6_kindOf 42 = .ok (.iconst (-1), 1) := by decide +kernel
theorem dX6_kindOf_43 : decode cX6_kindOf 43 = .ok (.ireturn, 1) := by decide +kernel
theorem dX6_digitOf_0 : decode cX6_digitOf 0 = .ok (.iload_n 0, 1) := by decide +kernel
theorem dX6_digitOf_1 : decode cX6_digitOf 1 = .ok (.bipush 48, 2) := by decide +kernel
theorem dX6_digitOf_3 : decode cX6_digitOf 3 = .ok (.if_icmp .lt 16, 3) := by decide +kernel
theorem dX6_digitOf_6 : decode cX6_digitOf 6 = .ok (.iload_n 0, 1) := by decide +kernel
theorem dX6_digitOf_7 : decode cX6_digitOf 7 = .ok (.bipush 57, 2) := by decide +kernel
theorem dX6_digitOf_9 : decode cX6_digitOf 9 = .ok (.if_icmp .gt 10, 3) := by decide +kernel
theorem dX6_digitOf_12 : decode cX6_digitOf 12 = .ok (.iload_n 0, 1) := by decide +kernel
theorem dX6_digitOf_13 : decode cX6_digitOf 13 = .ok (.bipush 48, 2) := by decide +kernel
theorem dX6_digitOf_15 : decode cX6_digitOf 15 = .ok (.isub, 1) := by decide +kernel
theorem dX6_digitOf_16 : decode cX6_digitOf 16 = .ok (.goto 4, 3) := by decide +kernel
theorem dX6_digitOf_19 : decode cX6_digitOf 19 = .ok (.iconst (-1), 1) := by decide +kernel
theorem dX6_digitOf_20 : decode cX6_digitOf 20 = .ok (.ireturn, 1) := by decide +kernel
theorem dX7_init_0 : decode cX7_init 0 = .ok (.aload_n 0, 1) := by decide +kernel
theorem dX7_init_1 : decode cX7_init 1 = .ok (.invokespecial 3, 3) := by decide +kernel
theorem dX7_init_4 : decode cX7_init 4 = .ok (.aload_n 0, 1) := by decide +kernel
theorem dX7_init_5 : decode cX7_init 5 = .ok (.iconst 0, 1) := by decide +kernel
theorem dX7_init_6 : decode cX7_init 6 = .ok (.putfield 9, 3) := by decide +kernel
theorem dX7_init_9 : decode cX7_init 9 = .ok (.aload_n 0, 1) := by decide +kernel
theorem dX7_init_10 : decode cX7_init 10 = .ok (.iconst 0, 1) := by decide +kernel
theorem dX7_init_11 : decode cX7_init 11 = .ok (.putfield 15, 3) := by decide +kernel
theorem dX7_init_14 : decode cX7_init 14 = .ok (.aload_n 0, 1) := by decide +kernel
theorem dX7_init_15 : decode cX7_init 15 = .ok (.iconst 0, 1) := by decide +kernel
theorem dX7_init_16 : decode cX7_init 16 = .ok (.putfield 18, 3) := by decide +kernel
theorem dX7_init_19 : decode cX7_init 19 = .ok (.aload_n 0, 1) := by decide +kernel
theorem dX7_init_20 : decode cX7_init 20 = .ok (.iconst 0, 1) := by decide +kernel
theorem dX7_init_21 : decode cX7_init 21 = .ok (.putfield 21, 3) := by decide +kernel
theorem dX7_init_24 : decode cX7_init 24 = .ok (.aload_n 0, 1) := by decide +kernel
theorem dX7_init_25 : decode cX7_init 25 = .ok (.iconst 3, 1) := by decide +kernel
theorem dX7_init_26 : decode cX7_init 26 = .ok (.newarray .int, 2) := by decide +kernel
theorem dX7_init_28 : decode cX7_init 28 = .ok (.putfield 24, 3) := by decide +kernel
theorem dX7_init_31 : decode cX7_init 31 = .ok (.aload_n 0, 1) := by decide +kernel
theorem dX7_init_32 : decode cX7_init 32 = .ok (.bipush 6, 2) := by decide +kernel
theorem dX7_init_34 : decode cX7_init 34 = .ok (.newarray .int, 2) := by decide +kernel
theorem dX7_init_36 : decode cX7_init 36 = .ok (.putfield 28, 3) := by decide +kernel
theorem dX7_init_39 : decode cX7_init 39 = .ok (.aload_n 0, 1) := by decide +kernel
theorem dX7_init_40 : decode cX7_init 40 = .ok (.bipush 6, 2) := by decide +kernel
theorem dX7_init_42 : decode cX7_init 42 = .ok (.newarray .int, 2) := by decide +kernel
theorem dX7_init_44 : decode cX7_init 44 = .ok (.putfield 31, 3) := by decide +kernel
theorem dX7_init_47 : decode cX7_init 47 = .ok (.aload_n 0, 1) := by decide +kernel
theorem dX7_init_48 : decode cX7_init 48 = .ok (.bipush 6, 2) := by decide +kernel
theorem dX7_init_50 : decode cX7_init 50 = .ok (.newarray .int, 2) := by decide +kernel
theorem dX7_init_52 : decode cX7_init 52 = .ok (.putfield 34, 3) := by decide +kernel
theorem dX7_init_55 : decode cX7_init 55 = .ok (.aload_n 0, 1) := by decide +kernel
theorem dX7_init_56 : decode cX7_init 56 = .ok (.bipush 6, 2) := by decide +kernel
theorem dX7_init_58 : decode cX7_init 58 = .ok (.newarray .int, 2) := by decide +kernel
theorem dX7_init_60 : decode cX7_init 60 = .ok (.putfield 37, 3) := by decide +kernel
theorem dX7_init_63 : decode cX7_init 63 = .ok (.aload_n 0, 1) := by decide +kernel
theorem dX7_init_64 : decode cX7_init 64 = .ok (.bipush 6, 2) := by decide +kernel
theorem dX7_init_66 : decode cX7_init 66 = .ok (.newarray .int, 2) := by decide +kernel
theorem dX7_init_68 : decode cX7_init 68 = .ok (.putfield 40, 3) := by decide +kernel
theorem dX7_init_71 : decode cX7_init 71 = .ok (.return_, 1) := by decide +kernel
theorem dX7_stands_0 : decode cX7_stands 0 = .ok (.aload_n 0, 1) := by decide +kernel
theorem dX7_stands_1 : decode cX7_stands 1 = .ok (.getfield 15, 3) := by decide +kernel
theorem dX7_stands_4 : decode cX7_stands 4 = .ok (.ifCond .le 7, 3) := by decide +kernel
theorem dX7_stands_7 : decode cX7_stands 7 = .ok (.iconst 1, 1) := by decide +kernel
theorem dX7_stands_8 : decode cX7_stands 8 = .ok (.goto 4, 3) := by decide +kernel
theorem dX7_stands_11 : decode cX7_stands 11 = .ok (.iconst 0, 1) := by decide +kernel
theorem dX7_stands_12 : decode cX7_stands 12 = .ok (.ireturn, 1) := by decide +kernel
theorem dX7_hasGate_0 : decode cX7_hasGate 0 = .ok (.iload_n 1, 1) := by decide +kernel
theorem dX7_hasGate_1 : decode cX7_hasGate 1 = .ok (.ifCond .lt 15, 3) := by decide +kernel
theorem dX7_hasGate_4 : decode cX7_hasGate 4 = .ok (.iload_n 1, 1) := by decide +kernel
theorem dX7_hasGate_5 : decode cX7_hasGate 5 = .ok (.aload_n 0, 1) := by decide +kernel
theorem dX7_hasGate_6 : decode cX7_hasGate 6 = .ok (.getfield 9, 3) := by decide +kernel
theorem dX7_hasGate_9 : decode cX7_hasGate 9 = .ok (.if_icmp .ge 7, 3) := by decide +kernel
theorem dX7_hasGate_12 : decode cX7_hasGate 12 = .ok (.iconst 1, 1) := by decide +kernel
theorem dX7_hasGate_13 : decode cX7_hasGate 13 = .ok (.goto 4, 3) := by decide +kernel
theorem dX7_hasGate_16 : decode cX7_hasGate 16 = .ok (.iconst 0, 1) := by decide +kernel
theorem dX7_hasGate_17 : decode cX7_hasGate 17 = .ok (.ireturn, 1) := by decide +kernel
theorem dX7_hasComer_0 : decode cX7_hasComer 0 = .ok (.iload_n 1, 1) := by decide +kernel
theorem dX7_hasComer_1 : decode cX7_hasComer 1 = .ok (.ifCond .lt 15, 3) := by decide +kernel
theorem dX7_hasComer_4 : decode cX7_hasComer 4 = .ok (.iload_n 1, 1) := by decide +kernel
theorem dX7_hasComer_5 : decode cX7_hasComer 5 = .ok (.aload_n 0, 1) := by decide +kernel
theorem dX7_hasComer_6 : decode cX7_hasComer 6 = .ok (.getfield 15, 3) := by decide +kernel
theorem dX7_hasComer_9 : decode cX7_hasComer 9 = .ok (.if_icmp .ge 7, 3) := by decide +kernel
theorem dX7_hasComer_12 : decode cX7_hasComer 12 = .ok (.iconst 1, 1) := by decide +kernel
theorem dX7_hasComer_13 : decode cX7_hasComer 13 = .ok (.goto 4, 3) := by decide +kernel
theorem dX7_hasComer_16 : decode cX7_hasComer 16 = .ok (.iconst 0, 1) := by decide +kernel
theorem dX7_hasComer_17 : decode cX7_hasComer 17 = .ok (.ireturn, 1) := by decide +kernel
theorem dX7_begin_0 : decode cX7_begin 0 = .ok (.aload_n 0, 1) := by decide +kernel
theorem dX7_begin_1 : decode cX7_begin 1 = .ok (.iconst 0, 1) := by decide +kernel
theorem dX7_begin_2 : decode cX7_begin 2 = .ok (.putfield 9, 3) := by decide +kernel
theorem dX7_begin_5 : decode cX7_begin 5 = .ok (.aload_n 0, 1) := by decide +kernel
theorem dX7_begin_6 : decode cX7_begin 6 = .ok (.iconst 0, 1) := by decide +kernel
theorem dX7_begin_7 : decode cX7_begin 7 = .ok (.putfield 15, 3) := by decide +kernel
theorem dX7_begin_10 : decode cX7_begin 10 = .ok (.aload_n 0, 1) := by decide +kernel
theorem dX7_begin_11 : decode cX7_begin 11 = .ok (.iconst 0, 1) := by decide +kernel
theorem dX7_begin_12 : decode cX7_begin 12 = .ok (.putfield 18, 3) := by decide +kernel
theorem dX7_begin_15 : decode cX7_begin 15 = .ok (.aload_n 0, 1) := by decide +kernel
theorem dX7_begin_16 : decode cX7_begin 16 = .ok (.iconst 1, 1) := by decide +kernel
theorem dX7_begin_17 : decode cX7_begin 17 = .ok (.putfield 21, 3) := by decide +kernel
theorem dX7_begin_20 : decode cX7_begin 20 = .ok (.return_, 1) := by decide +kernel
theorem dX7_become_0 : decode cX7_become 0 = .ok (.aload_n 0, 1) := by decide +kernel
theorem dX7_become_1 : decode cX7_become 1 = .ok (.aload_n 1, 1) := by decide +kernel
theorem dX7_become_2 : decode cX7_become 2 = .ok (.getfield 9, 3) := by decide +kernel
theorem dX7_become_5 : decode cX7_become 5 = .ok (.putfield 9, 3) := by decide +kernel
theorem dX7_become_8 : decode cX7_become 8 = .ok (.aload_n 0, 1) := by decide +kernel
theorem dX7_become_9 : decode cX7_become 9 = .ok (.aload_n 1, 1) := by decide +kernel
theorem dX7_become_10 : decode cX7_become 10 = .ok (.getfield 15, 3) := by decide +kernel
theorem dX7_become_13 : decode cX7_become 13 = .ok (.putfield 15, 3) := by decide +kernel
theorem dX7_become_16 : decode cX7_become 16 = .ok (.aload_n 0, 1) := by decide +kernel
theorem dX7_become_17 : decode cX7_become 17 = .ok (.aload_n 1, 1) := by decide +kernel
theorem dX7_become_18 : decode cX7_become 18 = .ok (.getfield 18, 3) := by decide +kernel
theorem dX7_become_21 : decode cX7_become 21 = .ok (.putfield 18, 3) := by decide +kernel
theorem dX7_become_24 : decode cX7_become 24 = .ok (.aload_n 0, 1) := by decide +kernel
theorem dX7_become_25 : decode cX7_become 25 = .ok (.aload_n 1, 1) := by decide +kernel
theorem dX7_become_26 : decode cX7_become 26 = .ok (.getfield 21, 3) := by decide +kernel
theorem dX7_become_29 : decode cX7_become 29 = .ok (.putfield 21, 3) := by decide +kernel
theorem dX7_become_32 : decode cX7_become 32 = .ok (.aload_n 1, 1) := by decide +kernel
theorem dX7_become_33 : decode cX7_become 33 = .ok (.getfield 24, 3) := by decide +kernel
theorem dX7_become_36 : decode cX7_become 36 = .ok (.iconst 0, 1) := by decide +kernel
theorem dX7_become_37 : decode cX7_become 37 = .ok (.aload_n 0, 1) := by decide +kernel
theorem dX7_become_38 : decode cX7_become 38 = .ok (.getfield 24, 3) := by decide +kernel
theorem dX7_become_41 : decode cX7_become 41 = .ok (.iconst 0, 1) := by decide +kernel
theorem dX7_become_42 : decode cX7_become 42 = .ok (.iconst 3, 1) := by decide +kernel
theorem dX7_become_43 : decode cX7_become 43 = .ok (.invokestatic 43, 3) := by decide +kernel
theorem dX7_become_46 : decode cX7_become 46 = .ok (.aload_n 1, 1) := by decide +kernel
theorem dX7_become_47 : decode cX7_become 47 = .ok (.getfield 28, 3) := by decide +kernel
theorem dX7_become_50 : decode cX7_become 50 = .ok (.iconst 0, 1) := by decide +kernel
theorem dX7_become_51 : decode cX7_become 51 = .ok (.aload_n 0, 1) := by decide +kernel
theorem dX7_become_52 : decode cX7_become 52 = .ok (.getfield 28, 3) := by decide +kernel
theorem dX7_become_55 : decode cX7_become 55 = .ok (.iconst 0, 1) := by decide +kernel
theorem dX7_become_56 : decode cX7_become 56 = .ok (.bipush 6, 2) := by decide +kernel
theorem dX7_become_58 : decode cX7_become 58 = .ok (.invokestatic 43, 3) := by decide +kernel
theorem dX7_become_61 : decode cX7_become 61 = .ok (.aload_n 1, 1) := by decide +kernel
theorem dX7_become_62 : decode cX7_become 62 = .ok (.getfield 31, 3) := by decide +kernel
theorem dX7_become_65 : decode cX7_become 65 = .ok (.iconst 0, 1) := by decide +kernel
theorem dX7_become_66 : decode cX7_become 66 = .ok (.aload_n 0, 1) := by decide +kernel
theorem dX7_become_67 : decode cX7_become 67 = .ok (.getfield 31, 3) := by decide +kernel
theorem dX7_become_70 : decode cX7_become 70 = .ok (.iconst 0, 1) := by decide +kernel
theorem dX7_become_71 : decode cX7_become 71 = .ok (.bipush 6, 2) := by decide +kernel
theorem dX7_become_73 : decode cX7_become 73 = .ok (.invokestatic 43, 3) := by decide +kernel
theorem dX7_become_76 : decode cX7_become 76 = .ok (.aload_n 1, 1) := by decide +kernel
theorem dX7_become_77 : decode cX7_become 77 = .ok (.getfield 34, 3) := by decide +kernel
theorem dX7_become_80 : decode cX7_become 80 = .ok (.iconst 0, 1) := by decide +kernel
theorem dX7_become_81 : decode cX7_become 81 = .ok (.aload_n 0, 1) := by decide +kernel
theorem dX7_become_82 : decode cX7_become 82 = .ok (.getfield 34, 3) := by decide +kernel
theorem dX7_become_85 : decode cX7_become 85 = .ok (.iconst 0, 1) := by decide +kernel
theorem dX7_become_86 : decode cX7_become 86 = .ok (.bipush 6, 2) := by decide +kernel
theorem dX7_become_88 : decode cX7_become 88 = .ok (.invokestatic 43, 3) := by decide +kernel
theorem dX7_become_91 : decode cX7_become 91 = .ok (.aload_n 1, 1) := by decide +kernel
theorem dX7_become_92 : decode cX7_become 92 = .ok (.getfield 37, 3) := by decide +kernel
theorem dX7_become_95 : decode cX7_become 95 = .ok (.iconst 0, 1) := by decide +kernel
theorem dX7_become_96 : decode cX7_become 96 = .ok (.aload_n 0, 1) := by decide +kernel
theorem dX7_become_97 : decode cX7_become 97 = .ok (.getfield 37, 3) := by decide +kernel
theorem dX7_become_100 : decode cX7_become 100 = .ok (.iconst 0, 1) := by decide +kernel
theorem dX7_become_101 : decode cX7_become 101 = .ok (.bipush 6, 2) := by decide +kernel
theorem dX7_become_103 : decode cX7_become 103 = .ok (.invokestatic 43, 3) := by decide +kernel
theorem dX7_become_106 : decode cX7_become 106 = .ok (.aload_n 1, 1) := by decide +kernel
theorem dX7_become_107 : decode cX7_become 107 = .ok (.getfield 40, 3) := by decide +kernel
theorem dX7_become_110 : decode cX7_become 110 = .ok (.iconst 0, 1) := by decide +kernel
theorem dX7_become_111 : decode cX7_become 111 = .ok (.aload_n 0, 1) := by decide +kernel
theorem dX7_become_112 : decode cX7_become 112 = .ok (.getfield 40, 3) := by decide +kernel
theorem dX7_become_115 : decode cX7_become 115 = .ok (.iconst 0, 1) := by decide +kernel
theorem dX7_become_116 : decode cX7_become 116 = .ok (.bipush 6, 2) := by decide +kernel
theorem dX7_become_118 : decode cX7_become 118 = .ok (.invokestatic 43, 3) := by decide +kernel
theorem dX7_become_121 : decode cX7_become 121 = .ok (.return_, 1) := by decide +kernel
theorem dX7_look_0 : decode cX7_look 0 = .ok (.aload_n 0, 1) := by decide +kernel
theorem dX7_look_1 : decode cX7_look 1 = .ok (.getfield 34, 3) := by decide +kernel
theorem dX7_look_4 : decode cX7_look 4 = .ok (.iload_n 1, 1) := by decide +kernel
theorem dX7_look_5 : decode cX7_look 5 = .ok (.iaload, 1) := by decide +kernel
theorem dX7_look_6 : decode cX7_look 6 = .ok (.istore_n 2, 1) := by decide +kernel
theorem dX7_look_7 : decode cX7_look 7 = .ok (.aload_n 0, 1) := by decide +kernel
theorem dX7_look_8 : decode cX7_look 8 = .ok (.getfield 28, 3) := by decide +kernel
theorem dX7_look_11 : decode cX7_look 11 = .ok (.iload_n 1, 1) := by decide +kernel
theorem dX7_look_12 : decode cX7_look 12 = .ok (.iaload, 1) := by decide +kernel
theorem dX7_look_13 : decode cX7_look 13 = .ok (.ifCond .ne 5, 3) := by decide +kernel
theorem dX7_look_16 : decode cX7_look 16 = .ok (.iload_n 2, 1) := by decide +kernel
theorem dX7_look_17 : decode cX7_look 17 = .ok (.ireturn, 1) := by decide +kernel
theorem dX7_look_18 : decode cX7_look 18 = .ok (.iload_n 2, 1) := by decide +kernel
theorem dX7_look_19 : decode cX7_look 19 = .ok (.aload_n 0, 1) := by decide +kernel
theorem dX7_look_20 : decode cX7_look 20 = .ok (.getfield 21, 3) := by decide +kernel
theorem dX7_look_23 : decode cX7_look 23 = .ok (.iadd, 1) := by decide +kernel
theorem dX7_look_24 : decode cX7_look 24 = .ok (.istore_n 3, 1) := by decide +kernel
theorem dX7_look_25 : decode cX7_look 25 = .ok (.aload_n 0, 1) := by decide +kernel
theorem dX7_look_26 : decode cX7_look 26 = .ok (.getfield 28, 3) := by decide +kernel
theorem dX7_look_29 : decode cX7_look 29 = .ok (.iload_n 1, 1) := by decide +kernel
theorem dX7_look_30 : decode cX7_look 30 = .ok (.iaload, 1) := by decide +kernel
theorem dX7_look_31 : decode cX7_look 31 = .ok (.iconst 1, 1) := by decide +kernel
theorem dX7_look_32 : decode cX7_look 32 = .ok (.if_icmp .ne 7, 3) := by decide +kernel
theorem dX7_look_35 : decode cX7_look 35 = .ok (.iload_n 3, 1) := by decide +kernel
theorem dX7_look_36 : decode cX7_look 36 = .ok (.goto 6, 3) := by decide +kernel
theorem dX7_look_39 : decode cX7_look 39 = .ok (.iload_n 3, 1) := by decide +kernel
theorem dX7_look_40 : decode cX7_look 40 = .ok (.iload_n 2, 1) := by decide +kernel
theorem dX7_look_41 : decode cX7_look 41 = .ok (.iadd, 1) := by decide +kernel
theorem dX7_look_42 : decode cX7_look 42 = .ok (.ireturn, 1) := by decide +kernel
theorem dX7_rank_0 : decode cX7_rank 0 = .ok (.iconst 0, 1) := by decide +kernel
theorem dX7_rank_1 : decode cX7_rank 1 = .ok (.istore_n 2, 1) := by decide +kernel
theorem dX7_rank_2 : decode cX7_rank 2 = .ok (.aload_n 0, 1) := by decide +kernel
theorem dX7_rank_3 : decode cX7_rank 3 = .ok (.getfield 18, 3) := by decide +kernel
theorem dX7_rank_6 : decode cX7_rank 6 = .ok (.ifCond .ne 9, 3) := by decide +kernel
theorem dX7_rank_9 : decode cX7_rank 9 = .ok (.aload_n 0, 1) := by decide +kernel
theorem dX7_rank_10 : decode cX7_rank 10 = .ok (.iload_n 1, 1) := by decide +kernel
theorem dX7_rank_11 : decode cX7_rank 11 = .ok (.invokevirtual 49, 3) := by decide +kernel
theorem dX7_rank_14 : decode cX7_rank 14 = .ok (.istore_n 2, 1) := by decide +kernel
theorem dX7_rank_15 : decode cX7_rank 15 = .ok (.aload_n 0, 1) := by decide +kernel
theorem dX7_rank_16 : decode cX7_rank 16 = .ok (.getfield 18, 3) := by decide +kernel
theorem dX7_rank_19 : decode cX7_rank 19 = .ok (.iconst 1, 1) := by decide +kernel
theorem dX7_rank_20 : decode cX7_rank 20 = .ok (.if_icmp .ne 10, 3) := by decide +kernel
theorem dX7_rank_23 : decode cX7_rank 23 = .ok (.aload_n 0, 1) := by decide +kernel
theorem dX7_rank_24 : decode cX7_rank 24 = .ok (.getfield 31, 3) := by decide +kernel
theorem dX7_rank_27 : decode cX7_rank 27 = .ok (.iload_n 1, 1) := by decide +kernel
theorem dX7_rank_28 : decode cX7_rank 28 = .ok (.iaload, 1) := by decide +kernel
theorem dX7_rank_29 : decode cX7_rank 29 = .ok (.istore_n 2, 1) := by decide +kernel
theorem dX7_rank_30 : decode cX7_rank 30 = .ok (.bipush 100, 2) := by decide +kernel
theorem dX7_rank_32 : decode cX7_rank 32 = .ok (.iload_n 2, 1) := by decide +kernel
theorem dX7_rank_33 : decode cX7_rank 33 = .ok (.imul, 1) := by decide +kernel
theorem dX7_rank_34 : decode cX7_rank 34 = .ok (.bipush 10, 2) := by decide +kernel
theorem dX7_rank_36 : decode cX7_rank 36 = .ok (.aload_n 0, 1) := by decide +kernel
theorem dX7_rank_37 : decode cX7_rank 37 = .ok (.getfield 40, 3) := by decide +kernel
theorem dX7_rank_40 : decode cX7_rank 40 = .ok (.iload_n 1, 1) := by decide +kernel
theorem dX7_rank_41 : decode cX7_rank 41 = .ok (.iaload, 1) := by decide +kernel
theorem dX7_rank_42 : decode cX7_rank 42 = .ok (.imul, 1) := by decide +kernel
theorem dX7_rank_43 : decode cX7_rank 43 = .ok (.isub, 1) := by decide +kernel
theorem dX7_rank_44 : decode cX7_rank 44 = .ok (.iload_n 1, 1) := by decide +kernel
theorem dX7_rank_45 : decode cX7_rank 45 = .ok (.isub, 1) := by decide +kernel
theorem dX7_rank_46 : decode cX7_rank 46 = .ok (.ireturn, 1) := by decide +kernel
theorem dX7_placeOf_0 : decode cX7_placeOf 0 = .ok (.aload_n 0, 1) := by decide +kernel
theorem dX7_placeOf_1 : decode cX7_placeOf 1 = .ok (.iload_n 1, 1) := by decide +kernel
theorem dX7_placeOf_2 : decode cX7_placeOf 2 = .ok (.invokevirtual 53, 3) := by decide +kernel
theorem dX7_placeOf_5 : decode cX7_placeOf 5 = .ok (.istore_n 2, 1) := by decide +kernel
theorem dX7_placeOf_6 : decode cX7_placeOf 6 = .ok (.iconst 0, 1) := by decide +kernel
theorem dX7_placeOf_7 : decode cX7_placeOf 7 = .ok (.istore_n 3, 1) := by decide +kernel
theorem dX7_placeOf_8 : decode cX7_placeOf 8 = .ok (.iconst 0, 1) := by decide +kernel
theorem dX7_placeOf_9 : decode cX7_placeOf 9 = .ok (.istore 4, 2) := by decide +kernel
theorem dX7_placeOf_11 : decode cX7_placeOf 11 = .ok (.iload 4, 2) := by decide +kernel
theorem dX7_placeOf_13 : decode cX7_placeOf 13 = .ok (.aload_n 0, 1) := by decide +kernel
theorem dX7_placeOf_14 : decode cX7_placeOf 14 = .ok (.getfield 15, 3) := by decide +kernel
theorem dX7_placeOf_17 : decode cX7_placeOf 17 = .ok (.if_icmp .ge 38, 3) := by decide +kernel
theorem dX7_placeOf_20 : decode cX7_placeOf 20 = .ok (.aload_n 0, 1) := by decide +kernel
theorem dX7_placeOf_21 : decode cX7_placeOf 21 = .ok (.getfield 37, 3) := by decide +kernel
theorem dX7_placeOf_24 : decode cX7_placeOf 24 = .ok (.iload 4, 2) := by decide +kernel
theorem dX7_placeOf_26 : decode cX7_placeOf 26 = .ok (.iaload, 1) := by decide +kernel
theorem dX7_placeOf_27 : decode cX7_placeOf 27 = .ok (.aload_n 0, 1) := by decide +kernel
theorem dX7_placeOf_28 : decode cX7_placeOf 28 = .ok (.getfield 37, 3) := by decide +kernel
theorem dX7_placeOf_31 : decode cX7_placeOf 31 = .ok (.iload_n 1, 1) := by decide +kernel
theorem dX7_placeOf_32 : decode cX7_placeOf 32 = .ok (.iaload, 1) := by decide +kernel
theorem dX7_placeOf_33 : decode cX7_placeOf 33 = .ok (.if_icmp .ne 16, 3) := by decide +kernel
theorem dX7_placeOf_36 : decode cX7_placeOf 36 = .ok (.aload_n 0, 1) := by decide +kernel
theorem dX7_placeOf_37 : decode cX7_placeOf 37 = .ok (.iload 4, 2) := by decide +kernel
theorem dX7_placeOf_39 : decode cX7_placeOf 39 = .ok (.invokevirtual 53, 3) := by decide +kernel
theorem dX7_placeOf_42 : decode cX7_placeOf 42 = .ok (.iload_n 2, 1) := by decide +kernel
theorem dX7_placeOf_43 : decode cX7_placeOf 43 = .ok (.if_icmp .le 6, 3) := by decide +kernel
theorem dX7_placeOf_46 : decode cX7_placeOf 46 = .ok (.iinc 3 1, 3) := by decide +kernel
theorem dX7_placeOf_49 : decode cX7_placeOf 49 = .ok (.iinc 4 1, 3) := by decide +kernel
theorem dX7_placeOf_52 : decode cX7_placeOf 52 = .ok (.goto (-41), 3) := by decide +kernel
theorem dX7_placeOf_55 : decode cX7_placeOf 55 = .ok (.iload_n 3, 1) := by decide +kernel
theorem dX7_placeOf_56 : decode cX7_placeOf 56 = .ok (.ireturn, 1) := by decide +kernel
theorem dX7_eats_0 : decode cX7_eats 0 = .ok (.aload_n 0, 1) := by decide +kernel
theorem dX7_eats_1 : decode cX7_eats 1 = .ok (.iload_n 1, 1) := by decide +kernel
theorem dX7_eats_2 : decode cX7_eats 2 = .ok (.invokevirtual 53, 3) := by decide +kernel
theorem dX7_eats_5 : decode cX7_eats 5 = .ok (.istore_n 2, 1) := by decide +kernel
theorem dX7_eats_6 : decode cX7_eats 6 = .ok (.aload_n 0, 1) := by decide +kernel
theorem dX7_eats_7 : decode cX7_eats 7 = .ok (.getfield 24, 3) := by decide +kernel
theorem dX7_eats_10 : decode cX7_eats 10 = .ok (.aload_n 0, 1) := by decide +kernel
theorem dX7_eats_11 : decode cX7_eats 11 = .ok (.getfield 37, 3) := by decide +kernel
theorem dX7_eats_14 : decode cX7_eats 14 = .ok (.iload_n 1, 1) := by decide +kernel
theorem dX7_eats_15 : decode cX7_eats 15 = .ok (.iaload, 1) := by decide +kernel
theorem dX7_eats_16 : decode cX7_eats 16 = .ok (.iaload, 1) := by decide +kernel
theorem dX7_eats_17 : decode cX7_eats 17 = .ok (.istore_n 3, 1) := by decide +kernel
theorem dX7_eats_18 : decode cX7_eats 18 = .ok (.iconst 0, 1) := by decide +kernel
theorem dX7_eats_19 : decode cX7_eats 19 = .ok (.istore 4, 2) := by decide +kernel
theorem dX7_eats_21 : decode cX7_eats 21 = .ok (.iload 4, 2) := by decide +kernel
theorem dX7_eats_23 : decode cX7_eats 23 = .ok (.aload_n 0, 1) := by decide +kernel
theorem dX7_eats_24 : decode cX7_eats 24 = .ok (.getfield 15, 3) := by decide +kernel
theorem dX7_eats_27 : decode cX7_eats 27 = .ok (.if_icmp .ge 45, 3) := by decide +kernel
theorem dX7_eats_30 : decode cX7_eats 30 = .ok (.aload_n 0, 1) := by decide +kernel
theorem dX7_eats_31 : decode cX7_eats 31 = .ok (.getfield 37, 3) := by decide +kernel
theorem dX7_eats_34 : decode cX7_eats 34 = .ok (.iload 4, 2) := by decide +kernel
theorem dX7_eats_36 : decode cX7_eats 36 = .ok (.iaload, 1) := by decide +kernel
theorem dX7_eats_37 : decode cX7_eats 37 = .ok (.aload_n 0, 1) := by decide +kernel
theorem dX7_eats_38 : decode cX7_eats 38 = .ok (.getfield 37, 3) := by decide +kernel
theorem dX7_eats_41 : decode cX7_eats 41 = .ok (.iload_n 1, 1) := by decide +kernel
theorem dX7_eats_42 : decode cX7_eats 42 = .ok (.iaload, 1) := by decide +kernel
theorem dX7_eats_43 : decode cX7_eats 43 = .ok (.if_icmp .ne 23, 3) := by decide +kernel
theorem dX7_eats_46 : decode cX7_eats 46 = .ok (.aload_n 0, 1) := by decide +kernel
theorem dX7_eats_47 : decode cX7_eats 47 = .ok (.iload 4, 2) := by decide +kernel
theorem dX7_eats_49 : decode cX7_eats 49 = .ok (.invokevirtual 53, 3) := by decide +kernel
theorem dX7_eats_52 : decode cX7_eats 52 = .ok (.iload_n 2, 1) := by decide +kernel
theorem dX7_eats_53 : decode cX7_eats 53 = .ok (.if_icmp .le 13, 3) := by decide +kernel
theorem dX7_eats_56 : decode cX7_eats 56 = .ok (.iload_n 3, 1) := by decide +kernel
theorem dX7_eats_57 : decode cX7_eats 57 = .ok (.aload_n 0, 1) := by decide +kernel
theorem dX7_eats_58 : decode cX7_eats 58 = .ok (.getfield 31, 3) := by decide +kernel
theorem dX7_eats_61 : decode cX7_eats 61 = .ok (.iload 4, 2) := by decide +kernel
theorem dX7_eats_63 : decode cX7_eats 63 = .ok (.iaload, 1) := by decide +kernel
theorem dX7_eats_64 : decode cX7_eats 64 = .ok (.isub, 1) := by decide +kernel
theorem dX7_eats_65 : decode cX7_eats 65 = .ok (.istore_n 3, 1) := by decide +kernel
theorem dX7_eats_66 : decode cX7_eats 66 = .ok (.iinc 4 1, 3) := by decide +kernel
theorem dX7_eats_69 : decode cX7_eats 69 = .ok (.goto (-48), 3) := by decide +kernel
theorem dX7_eats_72 : decode cX7_eats 72 = .ok (.iconst 0, 1) := by decide +kernel
theorem dX7_eats_73 : decode cX7_eats 73 = .ok (.iload_n 3, 1) := by decide +kernel
theorem dX7_eats_74 : decode cX7_eats 74 = .ok (.aload_n 0, 1) := by decide +kernel
theorem dX7_eats_75 : decode cX7_eats 75 = .ok (.getfield 31, 3) := by decide +kernel
theorem dX7_eats_78 : decode cX7_eats 78 = .ok (.iload_n 1, 1) := by decide +kernel
theorem dX7_eats_79 : decode cX7_eats 79 = .ok (.iaload, 1) := by decide +kernel
theorem dX7_eats_80 : decode cX7_eats 80 = .ok (.invokestatic 56, 3) := by decide +kernel
theorem dX7_eats_83 : decode cX7_eats 83 = .ok (.invokestatic 62, 3) := by decide +kernel
theorem dX7_eats_86 : decode cX7_eats 86 = .ok (.ireturn, 1) := by decide +kernel
theorem dX7_starving_0 : decode cX7_starving 0 = .ok (.iconst 0, 1) := by decide +kernel
theorem dX7_starving_1 : decode cX7_starving 1 = .ok (.istore_n 1, 1) := by decide +kernel
theorem dX7_starving_2 : decode cX7_starving 2 = .ok (.iconst 0, 1) := by decide +kernel
theorem dX7_starving_3 : decode cX7_starving 3 = .ok (.istore_n 2, 1) := by decide +kernel
theorem dX7_starving_4 : decode cX7_starving 4 = .ok (.iload_n 2, 1) := by decide +kernel
theorem dX7_starving_5 : decode cX7_starving 5 = .ok (.aload_n 0, 1) := by decide +kernel
theorem dX7_starving_6 : decode cX7_starving 6 = .ok (.getfield 15, 3) := by decide +kernel
theorem dX7_starving_9 : decode cX7_starving 9 = .ok (.if_icmp .ge 32, 3) := by decide +kernel
theorem dX7_starving_12 : decode cX7_starving 12 = .ok (.aload_n 0, 1) := by decide +kernel
theorem dX7_starving_13 : decode cX7_starving 13 = .ok (.getfield 31, 3) := by decide +kernel
theorem dX7_starving_16 : decode cX7_starving 16 = .ok (.iload_n 2, 1) := by decide +kernel
theorem dX7_starving_17 : decode cX7_starving 17 = .ok (.iaload, 1) := by decide +kernel
theorem dX7_starving_18 : decode cX7_starving 18 = .ok (.ifCond .le 17, 3) := by decide +kernel
theorem dX7_starving_21 : decode cX7_starving 21 = .ok (.aload_n 0, 1) := by decide +kernel
theorem dX7_starving_22 : decode cX7_starving 22 = .ok (.iload_n 2, 1) := by decide +kernel
theorem dX7_starving_23 : decode cX7_starving 23 = .ok (.invokevirtual 65, 3) := by decide +kernel
theorem dX7_starving_26 : decode cX7_starving 26 = .ok (.ifCond .ne 9, 3) := by decide +kernel
theorem dX7_starving_29 : decode cX7_starving 29 = .ok (.iload_n 1, 1) := by decide +kernel
theorem dX7_starving_30 : decode cX7_starving 30 = .ok (.iconst 1, 1) := by decide +kernel
theorem dX7_starving_31 : decode cX7_starving 31 = .ok (.iload_n 2, 1) := by decide +kernel
theorem dX7_starving_32 : decode cX7_starving 32 = .ok (.ishl, 1) := by decide +kernel
theorem dX7_starving_33 : decode cX7_starving 33 = .ok (.ior, 1) := by decide +kernel
theorem dX7_starving_34 : decode cX7_starving 34 = .ok (.istore_n 1, 1) := by decide +kernel
theorem dX7_starving_35 : decode cX7_starving 35 = .ok (.iinc 2 1, 3) := by decide +kernel
theorem dX7_starving_38 : decode cX7_starving 38 = .ok (.goto (-34), 3) := by decide +kernel
theorem dX7_starving_41 : decode cX7_starving 41 = .ok (.iload_n 1, 1) := by decide +kernel
theorem dX7_starving_42 : decode cX7_starving 42 = .ok (.ireturn, 1) := by decide +kernel
theorem dX7_crowdedOutBy_0 : decode cX7_crowdedOutBy 0 = .ok (.aload_n 0, 1) := by decide +kernel
theorem dX7_crowdedOutBy_1 : decode cX7_crowdedOutBy 1 = .ok (.iload_n 1, 1) := by decide +kernel
theorem dX7_crowdedOutBy_2 : decode cX7_crowdedOutBy 2 = .ok (.invokevirtual 65, 3) := by decide +kernel
theorem dX7_crowdedOutBy_5 : decode cX7_crowdedOutBy 5 = .ok (.ifCond .le 27, 3) := by decide +kernel
theorem dX7_crowdedOutBy_8 : decode cX7_crowdedOutBy 8 = .ok (.aload_n 0, 1) := by decide +kernel
theorem dX7_crowdedOutBy_9 : decode cX7_crowdedOutBy 9 = .ok (.invokevirtual 68, 3) := by decide +kernel
theorem dX7_crowdedOutBy_12 : decode cX7_crowdedOutBy 12 = .ok (.aload_n 0, 1) := by decide +kernel
theorem dX7_crowdedOutBy_13 : decode cX7_crowdedOutBy 13 = .ok (.aload_n 0, 1) := by decide +kernel
theorem dX7_crowdedOutBy_14 : decode cX7_crowdedOutBy 14 = .ok (.getfield 37, 3) := by decide +kernel
theorem dX7_crowdedOutBy_17 : decode cX7_crowdedOutBy 17 = .ok (.iload_n 1, 1) := by decide +kernel
theorem dX7_crowdedOutBy_18 : decode cX7_crowdedOutBy 18 = .ok (.iaload, 1) := by decide +kernel
theorem dX7_crowdedOutBy_19 : decode cX7_crowdedOutBy 19 = .ok (.invokevirtual 72, 3) := by decide +kernel
theorem dX7_crowdedOutBy_22 : decode cX7_crowdedOutBy 22 = .ok (.iand, 1) := by decide +kernel
theorem dX7_crowdedOutBy_23 : decode cX7_crowdedOutBy 23 = .ok (.aload_n 0, 1) := by decide +kernel
theorem dX7_crowdedOutBy_24 : decode cX7_crowdedOutBy 24 = .ok (.iload_n 1, 1) := by decide +kernel
theorem dX7_crowdedOutBy_25 : decode cX7_crowdedOutBy 25 = .ok (.invokevirtual 75, 3) := by decide +kernel
theorem dX7_crowdedOutBy_28 : decode cX7_crowdedOutBy 28 = .ok (.iand, 1) := by decide +kernel
theorem dX7_crowdedOutBy_29 : decode cX7_crowdedOutBy 29 = .ok (.goto 4, 3) := by decide +kernel
theorem dX7_crowdedOutBy_32 : decode cX7_crowdedOutBy 32 = .ok (.iconst 0, 1) := by decide +kernel
theorem dX7_crowdedOutBy_33 : decode cX7_crowdedOutBy 33 = .ok (.ireturn, 1) := by decide +kernel
theorem dX7_hungrierThan_0 : decode cX7_hungrierThan 0 = .ok (.iconst 0, 1) := by decide +kernel
theorem dX7_hungrierThan_1 : decode cX7_hungrierThan 1 = .ok (.istore_n 2, 1) := by decide +kernel
theorem dX7_hungrierThan_2 : decode cX7_hungrierThan 2 = .ok (.iconst 0, 1) := by decide +kernel
theorem dX7_hungrierThan_3 : decode cX7_hungrierThan 3 = .ok (.istore_n 3, 1) := by decide +kernel
theorem dX7_hungrierThan_4 : decode cX7_hungrierThan 4 = .ok (.iload_n 3, 1) := by decide +kernel
theorem dX7_hungrierThan_5 : decode cX7_hungrierThan 5 = .ok (.aload_n 0, 1) := by decide +kernel
theorem dX7_hungrierThan_6 : decode cX7_hungrierThan 6 = .ok (.getfield 15, 3) := by decide +kernel
theorem dX7_hungrierThan_9 : decode cX7_hungrierThan 9 = .ok (.if_icmp .ge 30, 3) := by decide +kernel
theorem dX7_hungrierThan_12 : decode cX7_hungrierThan 12 = .ok (.aload_n 0, 1) := by decide +kernel
theorem dX7_hungrierThan_13 : decode cX7_hungrierThan 13 = .ok (.getfield 31, 3) := by decide +kernel
theorem dX7_hungrierThan_16 : decode cX7_hungrierThan 16 = .ok (.iload_n 3, 1) := by decide +kernel
theorem dX7_hungrierThan_17 : decode cX7_hungrierThan 17 = .ok (.iaload, 1) := by decide +kernel
theorem dX7_hungrierThan_18 : decode cX7_hungrierThan 18 = .ok (.aload_n 0, 1) := by decide +kernel
theorem dX7_hungrierThan_19 : decode cX7_hungrierThan 19 = .ok (.getfield 31, 3) := by decide +kernel
theorem dX7_hungrierThan_22 : decode cX7_hungrierThan 22 = .ok (.iload_n 1, 1) := by decide +kernel
theorem dX7_hungrierThan_23 : decode cX7_hungrierThan 23 = .ok (.iaload, 1) := by decide +kernel
theorem dX7_hungrierThan_24 : decode cX7_hungrierThan 24 = .ok (.if_icmp .le 9, 3) := by decide +kernel
theorem dX7_hungrierThan_27 : decode cX7_hungrierThan 27 = .ok (.iload_n 2, 1) := by decide +kernel
theorem dX7_hungrierThan_28 : decode cX7_hungrierThan 28 = .ok (.iconst 1, 1) := by decide +kernel
theorem dX7_hungrierThan_29 : decode cX7_hungrierThan 29 = .ok (.iload_n 3, 1) := by decide +kernel
theorem dX7_hungrierThan_30 : decode cX7_hungrierThan 30 = .ok (.ishl, 1) := by decide +kernel
theorem dX7_hungrierThan_31 : decode cX7_hungrierThan 31 = .ok (.ior, 1) := by decide +kernel
theorem dX7_hungrierThan_32 : decode cX7_hungrierThan 32 = .ok (.istore_n 2, 1) := by decide +kernel
theorem dX7_hungrierThan_33 : decode cX7_hungrierThan 33 = .ok (.iinc 3 1, 3) := by decide +kernel
theorem dX7_hungrierThan_36 : decode cX7_hungrierThan 36 = .ok (.goto (-32), 3) := by decide +kernel
theorem dX7_hungrierThan_39 : decode cX7_hungrierThan 39 = .ok (.iload_n 2, 1) := by decide +kernel
theorem dX7_hungrierThan_40 : decode cX7_hungrierThan 40 = .ok (.ireturn, 1) := by decide +kernel
theorem dX7_comersAt_0 : decode cX7_comersAt 0 = .ok (.iconst 0, 1) := by decide +kernel
theorem dX7_comersAt_1 : decode cX7_comersAt 1 = .ok (.istore_n 2, 1) := by decide +kernel
theorem dX7_comersAt_2 : decode cX7_comersAt 2 = .ok (.iconst 0, 1) := by decide +kernel
theorem dX7_comersAt_3 : decode cX7_comersAt 3 = .ok (.istore_n 3, 1) := by decide +kernel
theorem dX7_comersAt_4 : decode cX7_comersAt 4 = .ok (.iload_n 3, 1) := by decide +kernel
theorem dX7_comersAt_5 : decode cX7_comersAt 5 = .ok (.aload_n 0, 1) := by decide +kernel
theorem dX7_comersAt_6 : decode cX7_comersAt 6 = .ok (.getfield 15, 3) := by decide +kernel
theorem dX7_comersAt_9 : decode cX7_comersAt 9 = .ok (.if_icmp .ge 25, 3) := by decide +kernel
theorem dX7_comersAt_12 : decode cX7_comersAt 12 = .ok (.aload_n 0, 1) := by decide +kernel
theorem dX7_comersAt_13 : decode cX7_comersAt 13 = .ok (.getfield 37, 3) := by decide +kernel
theorem dX7_comersAt_16 : decode cX7_comersAt 16 = .ok (.iload_n 3, 1) := by decide +kernel
theorem dX7_comersAt_17 : decode cX7_comersAt 17 = .ok (.iaload, 1) := by decide +kernel
theorem dX7_comersAt_18 : decode cX7_comersAt 18 = .ok (.iload_n 1, 1) := by decide +kernel
theorem dX7_comersAt_19 : decode cX7_comersAt 19 = .ok (.if_icmp .ne 9, 3) := by decide +kernel
theorem dX7_comersAt_22 : decode cX7_comersAt 22 = .ok (.iload_n 2, 1) := by decide +kernel
theorem dX7_comersAt_23 : decode cX7_comersAt 23 = .ok (.iconst 1, 1) := by decide +kernel
theorem dX7_comersAt_24 : decode cX7_comersAt 24 = .ok (.iload_n 3, 1) := by decide +kernel
theorem dX7_comersAt_25 : decode cX7_comersAt 25 = .ok (.ishl, 1) := by decide +kernel
theorem dX7_comersAt_26 : decode cX7_comersAt 26 = .ok (.ior, 1) := by decide +kernel
theorem dX7_comersAt_27 : decode cX7_comersAt 27 = .ok (.istore_n 2, 1) := by decide +kernel
theorem dX7_comersAt_28 : decode cX7_comersAt 28 = .ok (.iinc 3 1, 3) := by decide +kernel
theorem dX7_comersAt_31 : decode cX7_comersAt 31 = .ok (.goto (-27), 3) := by decide +kernel
theorem dX7_comersAt_34 : decode cX7_comersAt 34 = .ok (.iload_n 2, 1) := by decide +kernel
theorem dX7_comersAt_35 : decode cX7_comersAt 35 = .ok (.ireturn, 1) := by decide +kernel
theorem dX7_leftAt_0 : decode cX7_leftAt 0 = .ok (.aload_n 0, 1) := by decide +kernel
theorem dX7_leftAt_1 : decode cX7_leftAt 1 = .ok (.getfield 24, 3) := by decide +kernel
theorem dX7_leftAt_4 : decode cX7_leftAt 4 = .ok (.iload_n 1, 1) := by decide +kernel
theorem dX7_leftAt_5 : decode cX7_leftAt 5 = .ok (.iaload, 1) := by decide +kernel
theorem dX7_leftAt_6 : decode cX7_leftAt 6 = .ok (.istore_n 2, 1) := by decide +kernel
theorem dX7_leftAt_7 : decode cX7_leftAt 7 = .ok (.iconst 0, 1) := by decide +kernel
theorem dX7_leftAt_8 : decode cX7_leftAt 8 = .ok (.istore_n 3, 1) := by decide +kernel
theorem dX7_leftAt_9 : decode cX7_leftAt 9 = .ok (.iload_n 3, 1) := by decide +kernel
theorem dX7_leftAt_10 : decode cX7_leftAt 10 = .ok (.aload_n 0, 1) := by decide +kernel
theorem dX7_leftAt_11 : decode cX7_leftAt 11 = .ok (.getfield 15, 3) := by decide +kernel
theorem dX7_leftAt_14 : decode cX7_leftAt 14 = .ok (.if_icmp .ge 28, 3) := by decide +kernel
theorem dX7_leftAt_17 : decode cX7_leftAt 17 = .ok (.aload_n 0, 1) := by decide +kernel
theorem dX7_leftAt_18 : decode cX7_leftAt 18 = .ok (.getfield 37, 3) := by decide +kernel
theorem dX7_leftAt_21 : decode cX7_leftAt 21 = .ok (.iload_n 3, 1) := by decide +kernel
theorem dX7_leftAt_22 : decode cX7_leftAt 22 = .ok (.iaload, 1) := by decide +kernel
theorem dX7_leftAt_23 : decode cX7_leftAt 23 = .ok (.iload_n 1, 1) := by decide +kernel
theorem dX7_leftAt_24 : decode cX7_leftAt 24 = .ok (.if_icmp .ne 12, 3) := by decide +kernel
theorem dX7_leftAt_27 : decode cX7_leftAt 27 = .ok (.iload_n 2, 1) := by decide +kernel
theorem dX7_leftAt_28 : decode cX7_leftAt 28 = .ok (.aload_n 0, 1) := by decide +kernel
theorem dX7_leftAt_29 : decode cX7_leftAt 29 = .ok (.getfield 31, 3) := by decide +kernel
theorem dX7_leftAt_32 : decode cX7_leftAt 32 = .ok (.iload_n 3, 1) := by decide +kernel
theorem dX7_leftAt_33 : decode cX7_leftAt 33 = .ok (.iaload, 1) := by decide +kernel
theorem dX7_leftAt_34 : decode cX7_leftAt 34 = .ok (.isub, 1) := by decide +kernel
theorem dX7_leftAt_35 : decode cX7_leftAt 35 = .ok (.istore_n 2, 1) := by decide +kernel
theorem dX7_leftAt_36 : decode cX7_leftAt 36 = .ok (.iinc 3 1, 3) := by decide +kernel
theorem dX7_leftAt_39 : decode cX7_leftAt 39 = .ok (.goto (-30), 3) := by decide +kernel
theorem dX7_leftAt_42 : decode cX7_leftAt 42 = .ok (.iconst 0, 1) := by decide +kernel
theorem dX7_leftAt_43 : decode cX7_leftAt 43 = .ok (.iload_n 2, 1) := by decide +kernel
theorem dX7_leftAt_44 : decode cX7_leftAt 44 = .ok (.invokestatic 62, 3) := by decide +kernel
theorem dX7_leftAt_47 : decode cX7_leftAt 47 = .ok (.ireturn, 1) := by decide +kernel
theorem dX7_allLeft_0 : decode cX7_allLeft 0 = .ok (.iconst 0, 1) := by decide +kernel
theorem dX7_allLeft_1 : decode cX7_allLeft 1 = .ok (.istore_n 1, 1) := by decide +kernel
theorem dX7_allLeft_2 : decode cX7_allLeft 2 = .ok (.iconst 0, 1) := by decide +kernel
theorem dX7_allLeft_3 : decode cX7_allLeft 3 = .ok (.istore_n 2, 1) := by decide +kernel
theorem dX7_allLeft_4 : decode cX7_allLeft 4 = .ok (.iload_n 2, 1) := by decide +kernel
theorem dX7_allLeft_5 : decode cX7_allLeft 5 = .ok (.aload_n 0, 1) := by decide +kernel
theorem dX7_allLeft_6 : decode cX7_allLeft 6 = .ok (.getfield 9, 3) := by decide +kernel
theorem dX7_allLeft_9 : decode cX7_allLeft 9 = .ok (.if_icmp .ge 17, 3) := by decide +kernel
theorem dX7_allLeft_12 : decode cX7_allLeft 12 = .ok (.iload_n 1, 1) := by decide +kernel
theorem dX7_allLeft_13 : decode cX7_allLeft 13 = .ok (.aload_n 0, 1) := by decide +kernel
theorem dX7_allLeft_14 : decode cX7_allLeft 14 = .ok (.iload_n 2, 1) := by decide +kernel
theorem dX7_allLeft_15 : decode cX7_allLeft 15 = .ok (.invokevirtual 78, 3) := by decide +kernel
theorem dX7_allLeft_18 : decode cX7_allLeft 18 = .ok (.iadd, 1) := by decide +kernel
theorem dX7_allLeft_19 : decode cX7_allLeft 19 = .ok (.istore_n 1, 1) := by decide +kernel
theorem dX7_allLeft_20 : decode cX7_allLeft 20 = .ok (.iinc 2 1, 3) := by decide +kernel
theorem dX7_allLeft_23 : decode cX7_allLeft 23 = .ok (.goto (-19), 3) := by decide +kernel
theorem dX7_allLeft_26 : decode cX7_allLeft 26 = .ok (.iload_n 1, 1) := by decide +kernel
theorem dX7_allLeft_27 : decode cX7_allLeft 27 = .ok (.ireturn, 1) := by decide +kernel
theorem dX7_allLoaves_0 : decode cX7_allLoaves 0 = .ok (.iconst 0, 1) := by decide +kernel
theorem dX7_allLoaves_1 : decode cX7_allLoaves 1 = .ok (.istore_n 1, 1) := by decide +kernel
theorem dX7_allLoaves_2 : decode cX7_allLoaves 2 = .ok (.iconst 0, 1) := by decide +kernel
theorem dX7_allLoaves_3 : decode cX7_allLoaves 3 = .ok (.istore_n 2, 1) := by decide +kernel
theorem dX7_allLoaves_4 : decode cX7_allLoaves 4 = .ok (.iload_n 2, 1) := by decide +kernel
theorem dX7_allLoaves_5 : decode cX7_allLoaves 5 = .ok (.aload_n 0, 1) := by decide +kernel
theorem dX7_allLoaves_6 : decode cX7_allLoaves 6 = .ok (.getfield 9, 3) := by decide +kernel
theorem dX7_allLoaves_9 : decode cX7_allLoaves 9 = .ok (.if_icmp .ge 18, 3) := by decide +kernel
theorem dX7_allLoaves_12 : decode cX7_allLoaves 12 = .ok (.iload_n 1, 1) := by decide +kernel
theorem dX7_allLoaves_13 : decode cX7_allLoaves 13 = .ok (.aload_n 0, 1) := by decide +kernel
theorem dX7_allLoaves_14 : decode cX7_allLoaves 14 = .ok (.getfield 24, 3) := by decide +kernel
theorem dX7_allLoaves_17 : decode cX7_allLoaves 17 = .ok (.iload_n 2, 1) := by decide +kernel
theorem dX7_allLoaves_18 : decode cX7_allLoaves 18 = .ok (.iaload, 1) := by decide +kernel
theorem dX7_allLoaves_19 : decode cX7_allLoaves 19 = .ok (.iadd, 1) := by decide +kernel
theorem dX7_allLoaves_20 : decode cX7_allLoaves 20 = .ok (.istore_n 1, 1) := by decide +kernel
theorem dX7_allLoaves_21 : decode cX7_allLoaves 21 = .ok (.iinc 2 1, 3) := by decide +kernel
theorem dX7_allLoaves_24 : decode cX7_allLoaves 24 = .ok (.goto (-20), 3) := by decide +kernel
theorem dX7_allLoaves_27 : decode cX7_allLoaves 27 = .ok (.iload_n 1, 1) := by decide +kernel
theorem dX7_allLoaves_28 : decode cX7_allLoaves 28 = .ok (.ireturn, 1) := by decide +kernel
theorem dX7_allLooks_0 : decode cX7_allLooks 0 = .ok (.iconst 0, 1) := by decide +kernel
theorem dX7_allLooks_1 : decode cX7_allLooks 1 = .ok (.istore_n 1, 1) := by decide +kernel
theorem dX7_allLooks_2 : decode cX7_allLooks 2 = .ok (.iconst 0, 1) := by decide +kernel
theorem dX7_allLooks_3 : decode cX7_allLooks 3 = .ok (.istore_n 2, 1) := by decide +kernel
theorem dX7_allLooks_4 : decode cX7_allLooks 4 = .ok (.iload_n 2, 1) := by decide +kernel
theorem dX7_allLooks_5 : decode cX7_allLooks 5 = .ok (.aload_n 0, 1) := by decide +kernel
theorem dX7_allLooks_6 : decode cX7_allLooks 6 = .ok (.getfield 15, 3) := by decide +kernel
theorem dX7_allLooks_9 : decode cX7_allLooks 9 = .ok (.if_icmp .ge 17, 3) := by decide +kernel
theorem dX7_allLooks_12 : decode cX7_allLooks 12 = .ok (.iload_n 1, 1) := by decide +kernel
theorem dX7_allLooks_13 : decode cX7_allLooks 13 = .ok (.aload_n 0, 1) := by decide +kernel
theorem dX7_allLooks_14 : decode cX7_allLooks 14 = .ok (.iload_n 2, 1) := by decide +kernel
theorem dX7_allLooks_15 : decode cX7_allLooks 15 = .ok (.invokevirtual 49, 3) := by decide +kernel
theorem dX7_allLooks_18 : decode cX7_allLooks 18 = .ok (.iadd, 1) := by decide +kernel
theorem dX7_allLooks_19 : decode cX7_allLooks 19 = .ok (.istore_n 1, 1) := by decide +kernel
theorem dX7_allLooks_20 : decode cX7_allLooks 20 = .ok (.iinc 2 1, 3) := by decide +kernel
theorem dX7_allLooks_23 : decode cX7_allLooks 23 = .ok (.goto (-19), 3) := by decide +kernel
theorem dX7_allLooks_26 : decode cX7_allLooks 26 = .ok (.iload_n 1, 1) := by decide +kernel
theorem dX7_allLooks_27 : decode cX7_allLooks 27 = .ok (.ireturn, 1) := by decide +kernel
theorem dX7_eaters_0 : decode cX7_eaters 0 = .ok (.iconst 0, 1) := by decide +kernel
theorem dX7_eaters_1 : decode cX7_eaters 1 = .ok (.istore_n 1, 1) := by decide +kernel
theorem dX7_eaters_2 : decode cX7_eaters 2 = .ok (.iconst 0, 1) := by decide +kernel
theorem dX7_eaters_3 : decode cX7_eaters 3 = .ok (.istore_n 2, 1) := by decide +kernel
theorem dX7_eaters_4 : decode cX7_eaters 4 = .ok (.iload_n 2, 1) := by decide +kernel
theorem dX7_eaters_5 : decode cX7_eaters 5 = .ok (.aload_n 0, 1) := by decide +kernel
theorem dX7_eaters_6 : decode cX7_eaters 6 = .ok (.getfield 15, 3) := by decide +kernel
theorem dX7_eaters_9 : decode cX7_eaters 9 = .ok (.if_icmp .ge 20, 3) := by decide +kernel
theorem dX7_eaters_12 : decode cX7_eaters 12 = .ok (.aload_n 0, 1) := by decide +kernel
theorem dX7_eaters_13 : decode cX7_eaters 13 = .ok (.iload_n 2, 1) := by decide +kernel
theorem dX7_eaters_14 : decode cX7_eaters 14 = .ok (.invokevirtual 65, 3) := by decide +kernel
theorem dX7_eaters_17 : decode cX7_eaters 17 = .ok (.ifCond .le 6, 3) := by decide +kernel
theorem dX7_eaters_20 : decode cX7_eaters 20 = .ok (.iinc 1 1, 3) := by decide +kernel
theorem dX7_eaters_23 : decode cX7_eaters 23 = .ok (.iinc 2 1, 3) := by decide +kernel
theorem dX7_eaters_26 : decode cX7_eaters 26 = .ok (.goto (-22), 3) := by decide +kernel
theorem dX7_eaters_29 : decode cX7_eaters 29 = .ok (.iload_n 1, 1) := by decide +kernel
theorem dX7_eaters_30 : decode cX7_eaters 30 = .ok (.ireturn, 1) := by decide +kernel
theorem dX7_hungryHeldFed_0 : decode cX7_hungryHeldFed 0 = .ok (.iconst 0, 1) := by decide +kernel
theorem dX7_hungryHeldFed_1 : decode cX7_hungryHeldFed 1 = .ok (.istore_n 2, 1) := by decide +kernel
theorem dX7_hungryHeldFed_2 : decode cX7_hungryHeldFed 2 = .ok (.iconst 0, 1) := by decide +kernel
theorem dX7_hungryHeldFed_3 : decode cX7_hungryHeldFed 3 = .ok (.istore_n 3, 1) := by decide +kernel
theorem dX7_hungryHeldFed_4 : decode cX7_hungryHeldFed 4 = .ok (.iload_n 3, 1) := by decide +kernel
theorem dX7_hungryHeldFed_5 : decode cX7_hungryHeldFed 5 = .ok (.aload_n 0, 1) := by decide +kernel
theorem dX7_hungryHeldFed_6 : decode cX7_hungryHeldFed 6 = .ok (.getfield 15, 3) := by decide +kernel
theorem dX7_hungryHeldFed_9 : decode cX7_hungryHeldFed 9 = .ok (.if_icmp .ge 30, 3) := by decide +kernel
theorem dX7_hungryHeldFed_12 : decode cX7_hungryHeldFed 12 = .ok (.aload_n 0, 1) := by decide +kernel
theorem dX7_hungryHeldFed_13 : decode cX7_hungryHeldFed 13 = .ok (.getfield 31, 3) := by decide +kernel
theorem dX7_hungryHeldFed_16 : decode cX7_hungryHeldFed 16 = .ok (.iload_n 3, 1) := by decide +kernel
theorem dX7_hungryHeldFed_17 : decode cX7_hungryHeldFed 17 = .ok (.iaload, 1) := by decide +kernel
theorem dX7_hungryHeldFed_18 : decode cX7_hungryHeldFed 18 = .ok (.ifCond .le 15, 3) := by decide +kernel
theorem dX7_hungryHeldFed_21 : decode cX7_hungryHeldFed 21 = .ok (.aload_n 0, 1) := by decide +kernel
theorem dX7_hungryHeldFed_22 : decode cX7_hungryHeldFed 22 = .ok (.iload_n 3, 1) := by decide +kernel
theorem dX7_hungryHeldFed_23 : decode cX7_hungryHeldFed 23 = .ok (.invokevirtual 49, 3) := by decide +kernel
theorem dX7_hungryHeldFed_26 : decode cX7_hungryHeldFed 26 = .ok (.iload_n 1, 1) := by decide +kernel
theorem dX7_hungryHeldFed_27 : decode cX7_hungryHeldFed 27 = .ok (.if_icmp .lt 6, 3) := by decide +kernel
theorem dX7_hungryHeldFed_30 : decode cX7_hungryHeldFed 30 = .ok (.iinc 2 1, 3) := by decide +kernel
theorem dX7_hungryHeldFed_33 : decode cX7_hungryHeldFed 33 = .ok (.iinc 3 1, 3) := by decide +kernel
theorem dX7_hungryHeldFed_36 : decode cX7_hungryHeldFed 36 = .ok (.goto (-32), 3) := by decide +kernel
theorem dX7_hungryHeldFed_39 : decode cX7_hungryHeldFed 39 = .ok (.iload_n 2, 1) := by decide +kernel
theorem dX7_hungryHeldFed_40 : decode cX7_hungryHeldFed 40 = .ok (.ireturn, 1) := by decide +kernel
theorem dX7_fedNotHeldSo_0 : decode cX7_fedNotHeldSo 0 = .ok (.iconst 0, 1) := by decide +kernel
theorem dX7_fedNotHeldSo_1 : decode cX7_fedNotHeldSo 1 = .ok (.istore_n 2, 1) := by decide +kernel
theorem dX7_fedNotHeldSo_2 : decode cX7_fedNotHeldSo 2 = .ok (.iconst 0, 1) := by decide +kernel
theorem dX7_fedNotHeldSo_3 : decode cX7_fedNotHeldSo 3 = .ok (.istore_n 3, 1) := by decide +kernel
theorem dX7_fedNotHeldSo_4 : decode cX7_fedNotHeldSo 4 = .ok (.iload_n 3, 1) := by decide +kernel
theorem dX7_fedNotHeldSo_5 : decode cX7_fedNotHeldSo 5 = .ok (.aload_n 0, 1) := by decide +kernel
theorem dX7_fedNotHeldSo_6 : decode cX7_fedNotHeldSo 6 = .ok (.getfield 15, 3) := by decide +kernel
theorem dX7_fedNotHeldSo_9 : decode cX7_fedNotHeldSo 9 = .ok (.if_icmp .ge 30, 3) := by decide +kernel
theorem dX7_fedNotHeldSo_12 : decode cX7_fedNotHeldSo 12 = .ok (.aload_n 0, 1) := by decide +kernel
theorem dX7_fedNotHeldSo_13 : decode cX7_fedNotHeldSo 13 = .ok (.getfield 31, 3) := by decide +kernel
theorem dX7_fedNotHeldSo_16 : decode cX7_fedNotHeldSo 16 = .ok (.iload_n 3, 1) := by decide +kernel
theorem dX7_fedNotHeldSo_17 : decode cX7_fedNotHeldSo 17 = .ok (.iaload, 1) := by decide +kernel
theorem dX7_fedNotHeldSo_18 : decode cX7_fedNotHeldSo 18 = .ok (.ifCond .ne 15, 3) := by decide +kernel
theorem dX7_fedNotHeldSo_21 : decode cX7_fedNotHeldSo 21 = .ok (.aload_n 0, 1) := by decide +kernel
theorem dX7_fedNotHeldSo_22 : decode cX7_fedNotHeldSo 22 = .ok (.iload_n 3, 1) := by decide +kernel
theorem dX7_fedNotHeldSo_23 : decode cX7_fedNotHeldSo 23 = .ok (.invokevirtual 49, 3) := by decide +kernel
theorem dX7_fedNotHeldSo_26 : decode cX7_fedNotHeldSo 26 = .ok (.iload_n 1, 1) := by decide +kernel
theorem dX7_fedNotHeldSo_27 : decode cX7_fedNotHeldSo 27 = .ok (.if_icmp .ge 6, 3) := by decide +kernel
theorem dX7_fedNotHeldSo_30 : decode cX7_fedNotHeldSo 30 = .ok (.iinc 2 1, 3) := by decide +kernel
theorem dX7_fedNotHeldSo_33 : decode cX7_fedNotHeldSo 33 = .ok (.iinc 3 1, 3) := by decide +kernel
theorem dX7_fedNotHeldSo_36 : decode cX7_fedNotHeldSo 36 = .ok (.goto (-32), 3) := by decide +kernel
theorem dX7_fedNotHeldSo_39 : decode cX7_fedNotHeldSo 39 = .ok (.iload_n 2, 1) := by decide +kernel
theorem dX7_fedNotHeldSo_40 : decode cX7_fedNotHeldSo 40 = .ok (.ireturn, 1) := by decide +kernel
theorem dX7_misheld_0 : decode cX7_misheld 0 = .ok (.aload_n 0, 1) := by decide +kernel
theorem dX7_misheld_1 : decode cX7_misheld 1 = .ok (.iload_n 1, 1) := by decide +kernel
theorem dX7_misheld_2 : decode cX7_misheld 2 = .ok (.invokevirtual 81, 3) := by decide +kernel
theorem dX7_misheld_5 : decode cX7_misheld 5 = .ok (.aload_n 0, 1) := by decide +kernel
theorem dX7_misheld_6 : decode cX7_misheld 6 = .ok (.iload_n 1, 1) := by decide +kernel
theorem dX7_misheld_7 : decode cX7_misheld 7 = .ok (.invokevirtual 84, 3) := by decide +kernel
theorem dX7_misheld_10 : decode cX7_misheld 10 = .ok (.iadd, 1) := by decide +kernel
theorem dX7_misheld_11 : decode cX7_misheld 11 = .ok (.ireturn, 1) := by decide +kernel
theorem dX7_passOn_0 : decode cX7_passOn 0 = .ok (.aload_n 0, 1) := by decide +kernel
theorem dX7_passOn_1 : decode cX7_passOn 1 = .ok (.invokevirtual 68, 3) := by decide +kernel
theorem dX7_passOn_4 : decode cX7_passOn 4 = .ok (.istore_n 1, 1) := by decide +kernel
theorem dX7_passOn_5 : decode cX7_passOn 5 = .ok (.iconst 0, 1) := by decide +kernel
theorem dX7_passOn_6 : decode cX7_passOn 6 = .ok (.istore_n 2, 1) := by decide +kernel
theorem dX7_passOn_7 : decode cX7_passOn 7 = .ok (.iload_n 2, 1) := by decide +kernel
theorem dX7_passOn_8 : decode cX7_passOn 8 = .ok (.aload_n 0, 1) := by decide +kernel
theorem dX7_passOn_9 : decode cX7_passOn 9 = .ok (.getfield 15, 3) := by decide +kernel
theorem dX7_passOn_12 : decode cX7_passOn 12 = .ok (.if_icmp .ge 67, 3) := by decide +kernel
theorem dX7_passOn_15 : decode cX7_passOn 15 = .ok (.iload_n 1, 1) := by decide +kernel
theorem dX7_passOn_16 : decode cX7_passOn 16 = .ok (.iload_n 2, 1) := by decide +kernel
theorem dX7_passOn_17 : decode cX7_passOn 17 = .ok (.ishr, 1) := by decide +kernel
theorem dX7_passOn_18 : decode cX7_passOn 18 = .ok (.iconst 1, 1) := by decide +kernel
theorem dX7_passOn_19 : decode cX7_passOn 19 = .ok (.iand, 1) := by decide +kernel
theorem dX7_passOn_20 : decode cX7_passOn 20 = .ok (.iconst 1, 1) := by decide +kernel
theorem dX7_passOn_21 : decode cX7_passOn 21 = .ok (.if_icmp .ne 25, 3) := by decide +kernel
theorem dX7_passOn_24 : decode cX7_passOn 24 = .ok (.aload_n 0, 1) := by decide +kernel
theorem dX7_passOn_25 : decode cX7_passOn 25 = .ok (.getfield 34, 3) := by decide +kernel
theorem dX7_passOn_28 : decode cX7_passOn 28 = .ok (.iload_n 2, 1) := by decide +kernel
theorem dX7_passOn_29 : decode cX7_passOn 29 = .ok (.bipush 9, 2) := by decide +kernel
theorem dX7_passOn_31 : decode cX7_passOn 31 = .ok (.aload_n 0, 1) := by decide +kernel
theorem dX7_passOn_32 : decode cX7_passOn 32 = .ok (.getfield 34, 3) := by decide +kernel
theorem dX7_passOn_35 : decode cX7_passOn 35 = .ok (.iload_n 2, 1) := by decide +kernel
theorem dX7_passOn_36 : decode cX7_passOn 36 = .ok (.iaload, 1) := by decide +kernel
theorem dX7_passOn_37 : decode cX7_passOn 37 = .ok (.iconst 1, 1) := by decide +kernel
theorem dX7_passOn_38 : decode cX7_passOn 38 = .ok (.iadd, 1) := by decide +kernel
theorem dX7_passOn_39 : decode cX7_passOn 39 = .ok (.invokestatic 56, 3) := by decide +kernel
theorem dX7_passOn_42 : decode cX7_passOn 42 = .ok (.iastore, 1) := by decide +kernel
theorem dX7_passOn_43 : decode cX7_passOn 43 = .ok (.goto 30, 3) := by decide +kernel
theorem dX7_passOn_46 : decode cX7_passOn 46 = .ok (.aload_n 0, 1) := by decide +kernel
theorem dX7_passOn_47 : decode cX7_passOn 47 = .ok (.getfield 31, 3) := by decide +kernel
theorem dX7_passOn_50 : decode cX7_passOn 50 = .ok (.iload_n 2, 1) := by decide +kernel
theorem dX7_passOn_51 : decode cX7_passOn 51 = .ok (.iaload, 1) := by decide +kernel
theorem dX7_passOn_52 : decode cX7_passOn 52 = .ok (.ifCond .le 21, 3) := by decide +kernel
theorem dX7_passOn_55 : decode cX7_passOn 55 = .ok (.aload_n 0, 1) := by decide +kernel
theorem dX7_passOn_56 : decode cX7_passOn 56 = .ok (.getfield 34, 3) := by decide +kernel
theorem dX7_passOn_59 : decode cX7_passOn 59 = .ok (.iload_n 2, 1) := by decide +kernel
theorem dX7_passOn_60 : decode cX7_passOn 60 = .ok (.iconst 0, 1) := by decide +kernel
theorem dX7_passOn_61 : decode cX7_passOn 61 = .ok (.aload_n 0, 1) := by decide +kernel
theorem dX7_passOn_62 : decode cX7_passOn 62 = .ok (.getfield 34, 3) := by decide +kernel
theorem dX7_passOn_65 : decode cX7_passOn 65 = .ok (.iload_n 2, 1) := by decide +kernel
theorem dX7_passOn_66 : decode cX7_passOn 66 = .ok (.iaload, 1) := by decide +kernel
theorem dX7_passOn_67 : decode cX7_passOn 67 = .ok (.iconst 1, 1) := by decide +kernel
theorem dX7_passOn_68 : decode cX7_passOn 68 = .ok (.isub, 1) := by decide +kernel
theorem dX7_passOn_69 : decode cX7_passOn 69 = .ok (.invokestatic 62, 3) := by decide +kernel
theorem dX7_passOn_72 : decode cX7_passOn 72 = .ok (.iastore, 1) := by decide +kernel
theorem dX7_passOn_73 : decode cX7_passOn 73 = .ok (.iinc 2 1, 3) := by decide +kernel
theorem dX7_passOn_76 : decode cX7_passOn 76 = .ok (.goto (-69), 3) := by decide +kernel
theorem dX7_passOn_79 : decode cX7_passOn 79 = .ok (.return_, 1) := by decide +kernel
theorem dX7_showsAsNumber_0 : decode cX7_showsAsNumber 0 = .ok (.iconst 0, 1) := by decide +kernel
theorem dX7_showsAsNumber_1 : decode cX7_showsAsNumber 1 = .ok (.istore_n 1, 1) := by decide +kernel
theorem dX7_showsAsNumber_2 : decode cX7_showsAsNumber 2 = .ok (.iconst 0, 1) := by decide +kernel
theorem dX7_showsAsNumber_3 : decode cX7_showsAsNumber 3 = .ok (.istore_n 2, 1) := by decide +kernel
theorem dX7_showsAsNumber_4 : decode cX7_showsAsNumber 4 = .ok (.iload_n 2, 1) := by decide +kernel
theorem dX7_showsAsNumber_5 : decode cX7_showsAsNumber 5 = .ok (.aload_n 0, 1) := by decide +kernel
theorem dX7_showsAsNumber_6 : decode cX7_showsAsNumber 6 = .ok (.getfield 15, 3) := by decide +kernel
theorem dX7_showsAsNumber_9 : decode cX7_showsAsNumber 9 = .ok (.if_icmp .ge 21, 3) := by decide +kernel
theorem dX7_showsAsNumber_12 : decode cX7_showsAsNumber 12 = .ok (.bipush 10, 2) := by decide +kernel
theorem dX7_showsAsNumber_14 : decode cX7_showsAsNumber 14 = .ok (.iload_n 1, 1) := by decide +kernel
theorem dX7_showsAsNumber_15 : decode cX7_showsAsNumber 15 = .ok (.imul, 1) := by decide +kernel
theorem dX7_showsAsNumber_16 : decode cX7_showsAsNumber 16 = .ok (.aload_n 0, 1) := by decide +kernel
theorem dX7_showsAsNumber_17 : decode cX7_showsAsNumber 17 = .ok (.getfield 34, 3) := by decide +kernel
theorem dX7_showsAsNumber_20 : decode cX7_showsAsNumber 20 = .ok (.iload_n 2, 1) := by decide +kernel
theorem dX7_showsAsNumber_21 : decode cX7_showsAsNumber 21 = .ok (.iaload, 1) := by decide +kernel
theorem dX7_showsAsNumber_22 : decode cX7_showsAsNumber 22 = .ok (.iadd, 1) := by decide +kernel
theorem dX7_showsAsNumber_23 : decode cX7_showsAsNumber 23 = .ok (.istore_n 1, 1) := by decide +kernel
theorem dX7_showsAsNumber_24 : decode cX7_showsAsNumber 24 = .ok (.iinc 2 1, 3) := by decide +kernel
theorem dX7_showsAsNumber_27 : decode cX7_showsAsNumber 27 = .ok (.goto (-23), 3) := by decide +kernel
theorem dX7_showsAsNumber_30 : decode cX7_showsAsNumber 30 = .ok (.iload_n 1, 1) := by decide +kernel
theorem dX7_showsAsNumber_31 : decode cX7_showsAsNumber 31 = .ok (.ireturn, 1) := by decide +kernel
theorem dX7_mostToldWith_0 : decode cX7_mostToldWith 0 = .ok (.iload_n 0, 1) := by decide +kernel
theorem dX7_mostToldWith_1 : decode cX7_mostToldWith 1 = .ok (.ifCond .lt 9, 3) := by decide +kernel
theorem dX7_mostToldWith_4 : decode cX7_mostToldWith 4 = .ok (.iload_n 0, 1) := by decide +kernel
theorem dX7_mostToldWith_5 : decode cX7_mostToldWith 5 = .ok (.bipush 17, 2) := by decide +kernel
theorem dX7_mostToldWith_7 : decode cX7_mostToldWith 7 = .ok (.if_icmp .lt 5, 3) := by decide +kernel
theorem dX7_mostToldWith_10 : decode cX7_mostToldWith 10 = .ok (.iconst (-1), 1) := by decide +kernel
theorem dX7_mostToldWith_11 : decode cX7_mostToldWith 11 = .ok (.ireturn, 1) := by decide +kernel
theorem dX7_mostToldWith_12 : decode cX7_mostToldWith 12 = .ok (.iload_n 0, 1) := by decide +kernel
theorem dX7_mostToldWith_13 : decode cX7_mostToldWith 13 = .ok (.bipush 6, 2) := by decide +kernel
theorem dX7_mostToldWith_15 : decode cX7_mostToldWith 15 = .ok (.if_icmp .ne 5, 3) := by decide +kernel
theorem dX7_mostToldWith_18 : decode cX7_mostToldWith 18 = .ok (.iconst 2, 1) := by decide +kernel
theorem dX7_mostToldWith_19 : decode cX7_mostToldWith 19 = .ok (.ireturn, 1) := by decide +kernel
theorem dX7_mostToldWith_20 : decode cX7_mostToldWith 20 = .ok (.iload_n 0, 1) := by decide +kernel
theorem dX7_mostToldWith_21 : decode cX7_mostToldWith 21 = .ok (.bipush 11, 2) := by decide +kernel
theorem dX7_mostToldWith_23 : decode cX7_mostToldWith 23 = .ok (.if_icmp .lt 7, 3) := by decide +kernel
theorem dX7_mostToldWith_26 : decode cX7_mostToldWith 26 = .ok (.iconst 2, 1) := by decide +kernel
theorem dX7_mostToldWith_27 : decode cX7_mostToldWith 27 = .ok (.goto 5, 3) := by decide +kernel
theorem dX7_mostToldWith_30 : decode cX7_mostToldWith 30 = .ok (.bipush 9, 2) := by decide +kernel
theorem dX7_mostToldWith_32 : decode cX7_mostToldWith 32 = .ok (.ireturn, 1) := by decide +kernel
theorem dX7_perform_0 : decode cX7_perform 0 = .ok (.iload_n 1, 1) := by decide +kernel
theorem dX7_perform_1 : decode cX7_perform 1 = .ok (.bipush 6, 2) := by decide +kernel
theorem dX7_perform_3 : decode cX7_perform 3 = .ok (.if_icmp .ge 10, 3) := by decide +kernel
theorem dX7_perform_6 : decode cX7_perform 6 = .ok (.aload_n 0, 1) := by decide +kernel
theorem dX7_perform_7 : decode cX7_perform 7 = .ok (.iload_n 1, 1) := by decide +kernel
theorem dX7_perform_8 : decode cX7_perform 8 = .ok (.iload_n 2, 1) := by decide +kernel
theorem dX7_perform_9 : decode cX7_perform 9 = .ok (.invokevirtual 87, 3) := by decide +kernel
theorem dX7_perform_12 : decode cX7_perform 12 = .ok (.ireturn, 1) := by decide +kernel
theorem dX7_perform_13 : decode cX7_perform 13 = .ok (.iload_n 1, 1) := by decide +kernel
theorem dX7_perform_14 : decode cX7_perform 14 = .ok (.bipush 11, 2) := by decide +kernel
theorem dX7_perform_16 : decode cX7_perform 16 = .ok (.if_icmp .lt 13, 3) := by decide +kernel
theorem dX7_perform_19 : decode cX7_perform 19 = .ok (.aload_n 0, 1) := by decide +kernel
theorem dX7_perform_20 : decode cX7_perform 20 = .ok (.iload_n 1, 1) := by decide +kernel
theorem dX7_perform_21 : decode cX7_perform 21 = .ok (.bipush 11, 2) := by decide +kernel
theorem dX7_perform_23 : decode cX7_perform 23 = .ok (.isub, 1) := by decide +kernel
theorem dX7_perform_24 : decode cX7_perform 24 = .ok (.iload_n 2, 1) := by decide +kernel
theorem dX7_perform_25 : decode cX7_perform 25 = .ok (.invokevirtual 91, 3) := by decide +kernel
theorem dX7_perform_28 : decode cX7_perform 28 = .ok (.ireturn, 1) := by decide +kernel
theorem dX7_perform_29 : decode cX7_perform 29 = .ok (.iload_n 1, 1) := by decide +kernel
theorem dX7_perform_30 : decode cX7_perform 30 = .ok (.bipush 8, 2) := by decide +kernel
theorem dX7_perform_32 : decode cX7_perform 32 = .ok (.if_icmp .lt 13, 3) := by decide +kernel
theorem dX7_perform_35 : decode cX7_perform 35 = .ok (.aload_n 0, 1) := by decide +kernel
theorem dX7_perform_36 : decode cX7_perform 36 = .ok (.iload_n 1, 1) := by decide +kernel
theorem dX7_perform_37 : decode cX7_perform 37 = .ok (.bipush 8, 2) := by decide +kernel
theorem dX7_perform_39 : decode cX7_perform 39 = .ok (.isub, 1) := by decide +kernel
theorem dX7_perform_40 : decode cX7_perform 40 = .ok (.iload_n 2, 1) := by decide +kernel
theorem dX7_perform_41 : decode cX7_perform 41 = .ok (.invokevirtual 94, 3) := by decide +kernel
theorem dX7_perform_44 : decode cX7_perform 44 = .ok (.ireturn, 1) := by decide +kernel
theorem dX7_perform_45 : decode cX7_perform 45 = .ok (.iload_n 1, 1) := by decide +kernel
theorem dX7_perform_46 : decode cX7_perform 46 = .ok (.bipush 6, 2) := by decide +kernel
theorem dX7_perform_48 : decode cX7_perform 48 = .ok (.if_icmp .ne 11, 3) := by decide +kernel
theorem dX7_perform_51 : decode cX7_perform 51 = .ok (.aload_n 0, 1) := by decide +kernel
theorem dX7_perform_52 : decode cX7_perform 52 = .ok (.iload_n 2, 1) := by decide +kernel
theorem dX7_perform_53 : decode cX7_perform 53 = .ok (.putfield 18, 3) := by decide +kernel
theorem dX7_perform_56 : decode cX7_perform 56 = .ok (.goto 8, 3) := by decide +kernel
theorem dX7_perform_59 : decode cX7_perform 59 = .ok (.aload_n 0, 1) := by decide +kernel
theorem dX7_perform_60 : decode cX7_perform 60 = .ok (.iload_n 2, 1) := by decide +kernel
theorem dX7_perform_61 : decode cX7_perform 61 = .ok (.putfield 21, 3) := by decide +kernel
theorem dX7_perform_64 : decode cX7_perform 64 = .ok (.iconst 1, 1) := by decide +kernel
theorem dX7_perform_65 : decode cX7_perform 65 = .ok (.ireturn, 1) := by decide +kernel
theorem dX7_changeShow_0 : decode cX7_changeShow 0 = .ok (.aload_n 0, 1) := by decide +kernel
theorem dX7_changeShow_1 : decode cX7_changeShow 1 = .ok (.iload_n 1, 1) := by decide +kernel
theorem dX7_changeShow_2 : decode cX7_changeShow 2 = .ok (.invokevirtual 97, 3) := by decide +kernel
theorem dX7_changeShow_5 : decode cX7_changeShow 5 = .ok (.ifCond .ne 5, 3) := by decide +kernel
theorem dX7_changeShow_8 : decode cX7_changeShow 8 = .ok (.iconst 0, 1) := by decide +kernel
theorem dX7_changeShow_9 : decode cX7_changeShow 9 = .ok (.ireturn, 1) := by decide +kernel
theorem dX7_changeShow_10 : decode cX7_changeShow 10 = .ok (.aload_n 0, 1) := by decide +kernel
theorem dX7_changeShow_11 : decode cX7_changeShow 11 = .ok (.getfield 34, 3) := by decide +kernel
theorem dX7_changeShow_14 : decode cX7_changeShow 14 = .ok (.iload_n 1, 1) := by decide +kernel
theorem dX7_changeShow_15 : decode cX7_changeShow 15 = .ok (.iload_n 2, 1) := by decide +kernel
theorem dX7_changeShow_16 : decode cX7_changeShow 16 = .ok (.iastore, 1) := by decide +kernel
theorem dX7_changeShow_17 : decode cX7_changeShow 17 = .ok (.iconst 1, 1) := by decide +kernel
theorem dX7_changeShow_18 : decode cX7_changeShow 18 = .ok (.ireturn, 1) := by decide +kernel
theorem dX7_changeLoaves_0 : decode cX7_changeLoaves 0 = .ok (.aload_n 0, 1) := by decide +kernel
theorem dX7_changeLoaves_1 : decode cX7_changeLoaves 1 = .ok (.iload_n 1, 1) := by decide +kernel
theorem dX7_changeLoaves_2 : decode cX7_changeLoaves 2 = .ok (.invokevirtual 101, 3) := by decide +kernel
theorem dX7_changeLoaves_5 : decode cX7_changeLoaves 5 = .ok (.ifCond .ne 5, 3) := by decide +kernel
theorem dX7_changeLoaves_8 : decode cX7_changeLoaves 8 = .ok (.iconst 0, 1) := by decide +kernel
theorem dX7_changeLoaves_9 : decode cX7_changeLoaves 9 = .ok (.ireturn, 1) := by decide +kernel
theorem dX7_changeLoaves_10 : decode cX7_changeLoaves 10 = .ok (.aload_n 0, 1) := by decide +kernel
theorem dX7_changeLoaves_11 : decode cX7_changeLoaves 11 = .ok (.getfield 24, 3) := by decide +kernel
theorem dX7_changeLoaves_14 : decode cX7_changeLoaves 14 = .ok (.iload_n 1, 1) := by decide +kernel
theorem dX7_changeLoaves_15 : decode cX7_changeLoaves 15 = .ok (.iload_n 2, 1) := by decide +kernel
theorem dX7_changeLoaves_16 : decode cX7_changeLoaves 16 = .ok (.iastore, 1) := by decide +kernel
theorem dX7_changeLoaves_17 : decode cX7_changeLoaves 17 = .ok (.iconst 1, 1) := by decide +kernel
theorem dX7_changeLoaves_18 : decode cX7_changeLoaves 18 = .ok (.ireturn, 1) := by decide +kernel
theorem dX7_changeGate_0 : decode cX7_changeGate 0 = .ok (.aload_n 0, 1) := by decide +kernel
theorem dX7_changeGate_1 : decode cX7_changeGate 1 = .ok (.iload_n 1, 1) := by decide +kernel
theorem dX7_changeGate_2 : decode cX7_changeGate 2 = .ok (.invokevirtual 97, 3) := by decide +kernel
theorem dX7_changeGate_5 : decode cX7_changeGate 5 = .ok (.ifCond .eq 11, 3) := by decide +kernel
theorem dX7_changeGate_8 : decode cX7_changeGate 8 = .ok (.aload_n 0, 1) := by decide +kernel
theorem dX7_changeGate_9 : decode cX7_changeGate 9 = .ok (.iload_n 2, 1) := by decide +kernel
theorem dX7_changeGate_10 : decode cX7_changeGate 10 = .ok (.invokevirtual 101, 3) := by decide +kernel
theorem dX7_changeGate_13 : decode cX7_changeGate 13 = .ok (.ifCond .ne 5, 3) := by decide +kernel
theorem dX7_changeGate_16 : decode cX7_changeGate 16 = .ok (.iconst 0, 1) := by decide +kernel
theorem dX7_changeGate_17 : decode cX7_changeGate 17 = .ok (.ireturn, 1) := by decide +kernel
theorem dX7_changeGate_18 : decode cX7_changeGate 18 = .ok (.aload_n 0, 1) := by decide +kernel
theorem dX7_changeGate_19 : decode cX7_changeGate 19 = .ok (.getfield 37, 3) := by decide +kernel
theorem dX7_changeGate_22 : decode cX7_changeGate 22 = .ok (.iload_n 1, 1) := by decide +kernel
theorem dX7_changeGate_23 : decode cX7_changeGate 23 = .ok (.iload_n 2, 1) := by decide +kernel
theorem dX7_changeGate_24 : decode cX7_changeGate 24 = .ok (.iastore, 1) := by decide +kernel
theorem dX7_changeGate_25 : decode cX7_changeGate 25 = .ok (.iconst 1, 1) := by decide +kernel
theorem dX7_changeGate_26 : decode cX7_changeGate 26 = .ok (.ireturn, 1) := by decide +kernel
theorem dJ6_bitCount_0f7a4_0 : decode cJ6_bitCount_0f7a4 0 = .ok (.iload_n 0, 1) := by decide +kernel
theorem dJ6_bitCount_0f7a4_1 : decode cJ6_bitCount_0f7a4 1 = .ok (.iload_n 0, 1) := by decide +kernel
theorem dJ6_bitCount_0f7a4_2 : decode cJ6_bitCount_0f7a4 2 = .ok (.iconst 1, 1) := by decide +kernel
theorem dJ6_bitCount_0f7a4_3 : decode cJ6_bitCount_0f7a4 3 = .ok (.iushr, 1) := by decide +kernel
theorem dJ6_bitCount_0f7a4_4 : decode cJ6_bitCount_0f7a4 4 = .ok (.ldc_w 265, 3) := by decide +kernel
theorem dJ6_bitCount_0f7a4_7 : decode cJ6_bitCount_0f7a4 7 = .ok (.iand, 1) := by decide +kernel
theorem dJ6_bitCount_0f7a4_8 : decode cJ6_bitCount_0f7a4 8 = .ok (.isub, 1) := by decide +kernel
theorem dJ6_bitCount_0f7a4_9 : decode cJ6_bitCount_0f7a4 9 = .ok (.istore_n 0, 1) := by decide +kernel
theorem dJ6_bitCount_0f7a4_10 : decode cJ6_bitCount_0f7a4 10 = .ok (.iload_n 0, 1) := by decide +kernel
theorem dJ6_bitCount_0f7a4_11 : decode cJ6_bitCount_0f7a4 11 = .ok (.ldc_w 266, 3) := by decide +kernel
theorem dJ6_bitCount_0f7a4_14 : decode cJ6_bitCount_0f7a4 14 = .ok (.iand, 1) := by decide +kernel
theorem dJ6_bitCount_0f7a4_15 : decode cJ6_bitCount_0f7a4 15 = .ok (.iload_n 0, 1) := by decide +kernel
theorem dJ6_bitCount_0f7a4_16 : decode cJ6_bitCount_0f7a4 16 = .ok (.iconst 2, 1) := by decide +kernel
theorem dJ6_bitCount_0f7a4_17 : decode cJ6_bitCount_0f7a4 17 = .ok (.iushr, 1) := by decide +kernel
theorem dJ6_bitCount_0f7a4_18 : decode cJ6_bitCount_0f7a4 18 = .ok (.ldc_w 266, 3) := by decide +kernel
theorem dJ6_bitCount_0f7a4_21 : decode cJ6_bitCount_0f7a4 21 = .ok (.iand, 1) := by decide +kernel
theorem dJ6_bitCount_0f7a4_22 : decode cJ6_bitCount_0f7a4 22 = .ok (.iadd, 1) := by decide +kernel
theorem dJ6_bitCount_0f7a4_23 : decode cJ6_bitCount_0f7a4 23 = .ok (.istore_n 0, 1) := by decide +kernel
theorem dJ6_bitCount_0f7a4_24 : decode cJ6_bitCount_0f7a4 24 = .ok (.iload_n 0, 1) := by decide +kernel
theorem dJ6_bitCount_0f7a4_25 : decode cJ6_bitCount_0f7a4 25 = .ok (.iload_n 0, 1) := by decide +kernel
theorem dJ6_bitCount_0f7a4_26 : decode cJ6_bitCount_0f7a4 26 = .ok (.iconst 4, 1) := by decide +kernel
theorem dJ6_bitCount_0f7a4_27 : decode cJ6_bitCount_0f7a4 27 = .ok (.iushr, 1) := by decide +kernel
theorem dJ6_bitCount_0f7a4_28 : decode cJ6_bitCount_0f7a4 28 = .ok (.iadd, 1) := by decide +kernel
theorem dJ6_bitCount_0f7a4_29 : decode cJ6_bitCount_0f7a4 29 = .ok (.ldc_w 267, 3) := by decide +kernel
theorem dJ6_bitCount_0f7a4_32 : decode cJ6_bitCount_0f7a4 32 = .ok (.iand, 1) := by decide +kernel
theorem dJ6_bitCount_0f7a4_33 : decode cJ6_bitCount_0f7a4 33 = .ok (.istore_n 0, 1) := by decide +kernel
theorem dJ6_bitCount_0f7a4_34 : decode cJ6_bitCount_0f7a4 34 = .ok (.iload_n 0, 1) := by decide +kernel
theorem dJ6_bitCount_0f7a4_35 : decode cJ6_bitCount_0f7a4 35 = .ok (.iload_n 0, 1) := by decide +kernel
theorem dJ6_bitCount_0f7a4_36 : decode cJ6_bitCount_0f7a4 36 = .ok (.bipush 8, 2) := by decide +kernel
theorem dJ6_bitCount_0f7a4_38 : decode cJ6_bitCount_0f7a4 38 = .ok (.iushr, 1) := by decide +kernel
theorem dJ6_bitCount_0f7a4_39 : decode cJ6_bitCount_0f7a4 39 = .ok (.iadd, 1) := by decide +kernel
theorem dJ6_bitCount_0f7a4_40 : decode cJ6_bitCount_0f7a4 40 = .ok (.istore_n 0, 1) := by decide +kernel
theorem dJ6_bitCount_0f7a4_41 : decode cJ6_bitCount_0f7a4 41 = .ok (.iload_n 0, 1) := by decide +kernel
theorem dJ6_bitCount_0f7a4_42 : decode cJ6_bitCount_0f7a4 42 = .ok (.iload_n 0, 1) := by decide +kernel
theorem dJ6_bitCount_0f7a4_43 : decode cJ6_bitCount_0f7a4 43 = .ok (.bipush 16, 2) := by decide +kernel
theorem dJ6_bitCount_0f7a4_45 : decode cJ6_bitCount_0f7a4 45 = .ok (.iushr, 1) := by decide +kernel
theorem dJ6_bitCount_0f7a4_46 : decode cJ6_bitCount_0f7a4 46 = .ok (.iadd, 1) := by decide +kernel
theorem dJ6_bitCount_0f7a4_47 : decode cJ6_bitCount_0f7a4 47 = .ok (.istore_n 0, 1) := by decide +kernel
theorem dJ6_bitCount_0f7a4_48 : decode cJ6_bitCount_0f7a4 48 = .ok (.iload_n 0, 1) := by decide +kernel
theorem dJ6_bitCount_0f7a4_49 : decode cJ6_bitCount_0f7a4 49 = .ok (.bipush 63, 2) := by decide +kernel
theorem dJ6_bitCount_0f7a4_51 : decode cJ6_bitCount_0f7a4 51 = .ok (.iand, 1) := by decide +kernel
theorem dJ6_bitCount_0f7a4_52 : decode cJ6_bitCount_0f7a4 52 = .ok (.ireturn, 1) := by decide +kernel
theorem dJ9_max_7cf53_0 : decode cJ9_max_7cf53 0 = .ok (.iload_n 0, 1) := by decide +kernel
theorem dJ9_max_7cf53_1 : decode cJ9_max_7cf53 1 = .ok (.iload_n 1, 1) := by decide +kernel
theorem dJ9_max_7cf53_2 : decode cJ9_max_7cf53 2 = .ok (.if_icmp .lt 7, 3) := by decide +kernel
theorem dJ9_max_7cf53_5 : decode cJ9_max_7cf53 5 = .ok (.iload_n 0, 1) := by decide +kernel
theorem dJ9_max_7cf53_6 : decode cJ9_max_7cf53 6 = .ok (.goto 4, 3) := by decide +kernel
theorem dJ9_max_7cf53_9 : decode cJ9_max_7cf53 9 = .ok (.iload_n 1, 1) := by decide +kernel
theorem dJ9_max_7cf53_10 : decode cJ9_max_7cf53 10 = .ok (.ireturn, 1) := by decide +kernel
theorem dJ9_min_7cf53_0 : decode cJ9_min_7cf53 0 = .ok (.iload_n 0, 1) := by decide +kernel
theorem dJ9_min_7cf53_1 : decode cJ9_min_7cf53 1 = .ok (.iload_n 1, 1) := by decide +kernel
theorem dJ9_min_7cf53_2 : decode cJ9_min_7cf53 2 = .ok (.if_icmp .gt 7, 3) := by decide +kernel
theorem dJ9_min_7cf53_5 : decode cJ9_min_7cf53 5 = .ok (.iload_n 0, 1) := by decide +kernel
theorem dJ9_min_7cf53_6 : decode cJ9_min_7cf53 6 = .ok (.goto 4, 3) := by decide +kernel
theorem dJ9_min_7cf53_9 : decode cJ9_min_7cf53 9 = .ok (.iload_n 1, 1) := by decide +kernel
theorem dJ9_min_7cf53_10 : decode cJ9_min_7cf53 10 = .ok (.ireturn, 1) := by decide +kernel
