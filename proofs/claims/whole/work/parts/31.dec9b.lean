theorem dX9_day_124 : decode cX9_day 124 = .ok (.iload 4, 2) := by decide +kernel
theorem dX9_day_126 : decode cX9_day 126 = .ok (.if_icmp .ge 48, 3) := by decide +kernel
theorem dX9_day_129 : decode cX9_day 129 = .ok (.aload_n 0, 1) := by decide +kernel
theorem dX9_day_130 : decode cX9_day 130 = .ok (.getfield 88, 3) := by decide +kernel
theorem dX9_day_133 : decode cX9_day 133 = .ok (.iload 7, 2) := by decide +kernel
theorem dX9_day_135 : decode cX9_day 135 = .ok (.iconst 2, 1) := by decide +kernel
theorem dX9_day_136 : decode cX9_day 136 = .ok (.iload 8, 2) := by decide +kernel
theorem dX9_day_138 : decode cX9_day 138 = .ok (.imul, 1) := by decide +kernel
theorem dX9_day_139 : decode cX9_day 139 = .ok (.iadd, 1) := by decide +kernel
theorem dX9_day_140 : decode cX9_day 140 = .ok (.iaload, 1) := by decide +kernel
theorem dX9_day_141 : decode cX9_day 141 = .ok (.aload_n 0, 1) := by decide +kernel
theorem dX9_day_142 : decode cX9_day 142 = .ok (.getfield 88, 3) := by decide +kernel
theorem dX9_day_145 : decode cX9_day 145 = .ok (.iload 7, 2) := by decide +kernel
theorem dX9_day_147 : decode cX9_day 147 = .ok (.iconst 2, 1) := by decide +kernel
theorem dX9_day_148 : decode cX9_day 148 = .ok (.iload 8, 2) := by decide +kernel
theorem dX9_day_150 : decode cX9_day 150 = .ok (.imul, 1) := by decide +kernel
theorem dX9_day_151 : decode cX9_day 151 = .ok (.iadd, 1) := by decide +kernel
theorem dX9_day_152 : decode cX9_day 152 = .ok (.iconst 1, 1) := by decide +kernel
theorem dX9_day_153 : decode cX9_day 153 = .ok (.iadd, 1) := by decide +kernel
theorem dX9_day_154 : decode cX9_day 154 = .ok (.iaload, 1) := by decide +kernel
theorem dX9_day_155 : decode cX9_day 155 = .ok (.invokestatic 237, 3) := by decide +kernel
theorem dX9_day_158 : decode cX9_day 158 = .ok (.ifCond .ne 10, 3) := by decide +kernel
theorem dX9_day_161 : decode cX9_day 161 = .ok (.aload_n 0, 1) := by decide +kernel
theorem dX9_day_162 : decode cX9_day 162 = .ok (.bipush (-2), 2) := by decide +kernel
theorem dX9_day_164 : decode cX9_day 164 = .ok (.invokevirtual 150, 3) := by decide +kernel
theorem dX9_day_167 : decode cX9_day 167 = .ok (.ireturn, 1) := by decide +kernel
theorem dX9_day_168 : decode cX9_day 168 = .ok (.iinc 8 1, 3) := by decide +kernel
theorem dX9_day_171 : decode cX9_day 171 = .ok (.goto (-49), 3) := by decide +kernel
theorem dX9_day_174 : decode cX9_day 174 = .ok (.aload_n 0, 1) := by decide +kernel
theorem dX9_day_175 : decode cX9_day 175 = .ok (.invokevirtual 240, 3) := by decide +kernel
theorem dX9_day_178 : decode cX9_day 178 = .ok (.aload_n 0, 1) := by decide +kernel
theorem dX9_day_179 : decode cX9_day 179 = .ok (.iload 7, 2) := by decide +kernel
theorem dX9_day_181 : decode cX9_day 181 = .ok (.iload 4, 2) := by decide +kernel
theorem dX9_day_183 : decode cX9_day 183 = .ok (.iload 5, 2) := by decide +kernel
theorem dX9_day_185 : decode cX9_day 185 = .ok (.invokevirtual 243, 3) := by decide +kernel
theorem dX9_day_188 : decode cX9_day 188 = .ok (.istore 8, 2) := by decide +kernel
theorem dX9_day_190 : decode cX9_day 190 = .ok (.aload_n 0, 1) := by decide +kernel
theorem dX9_day_191 : decode cX9_day 191 = .ok (.invokevirtual 246, 3) := by decide +kernel
theorem dX9_day_194 : decode cX9_day 194 = .ok (.aload_n 0, 1) := by decide +kernel
theorem dX9_day_195 : decode cX9_day 195 = .ok (.iload 8, 2) := by decide +kernel
theorem dX9_day_197 : decode cX9_day 197 = .ok (.invokevirtual 150, 3) := by decide +kernel
theorem dX9_day_200 : decode cX9_day 200 = .ok (.ireturn, 1) := by decide +kernel
theorem dX9_know_0 : decode cX9_know 0 = .ok (.aload_n 0, 1) := by decide +kernel
theorem dX9_know_1 : decode cX9_know 1 = .ok (.iload_n 1, 1) := by decide +kernel
theorem dX9_know_2 : decode cX9_know 2 = .ok (.invokevirtual 180, 3) := by decide +kernel
theorem dX9_know_5 : decode cX9_know 5 = .ok (.ifCond .ne 16, 3) := by decide +kernel
theorem dX9_know_8 : decode cX9_know 8 = .ok (.aload_n 0, 1) := by decide +kernel
theorem dX9_know_9 : decode cX9_know 9 = .ok (.iload_n 2, 1) := by decide +kernel
theorem dX9_know_10 : decode cX9_know 10 = .ok (.invokevirtual 180, 3) := by decide +kernel
theorem dX9_know_13 : decode cX9_know 13 = .ok (.ifCond .ne 8, 3) := by decide +kernel
theorem dX9_know_16 : decode cX9_know 16 = .ok (.iload_n 1, 1) := by decide +kernel
theorem dX9_know_17 : decode cX9_know 17 = .ok (.iload_n 2, 1) := by decide +kernel
theorem dX9_know_18 : decode cX9_know 18 = .ok (.if_icmp .ne 5, 3) := by decide +kernel
theorem dX9_know_21 : decode cX9_know 21 = .ok (.iconst (-1), 1) := by decide +kernel
theorem dX9_know_22 : decode cX9_know 22 = .ok (.ireturn, 1) := by decide +kernel
theorem dX9_know_23 : decode cX9_know 23 = .ok (.aload_n 0, 1) := by decide +kernel
theorem dX9_know_24 : decode cX9_know 24 = .ok (.getfield 28, 3) := by decide +kernel
theorem dX9_know_27 : decode cX9_know 27 = .ok (.iload_n 1, 1) := by decide +kernel
theorem dX9_know_28 : decode cX9_know 28 = .ok (.dup2, 1) := by decide +kernel
theorem dX9_know_29 : decode cX9_know 29 = .ok (.iaload, 1) := by decide +kernel
theorem dX9_know_30 : decode cX9_know 30 = .ok (.iconst 1, 1) := by decide +kernel
theorem dX9_know_31 : decode cX9_know 31 = .ok (.iload_n 2, 1) := by decide +kernel
theorem dX9_know_32 : decode cX9_know 32 = .ok (.ishl, 1) := by decide +kernel
theorem dX9_know_33 : decode cX9_know 33 = .ok (.ixor, 1) := by decide +kernel
theorem dX9_know_34 : decode cX9_know 34 = .ok (.iastore, 1) := by decide +kernel
theorem dX9_know_35 : decode cX9_know 35 = .ok (.aload_n 0, 1) := by decide +kernel
theorem dX9_know_36 : decode cX9_know 36 = .ok (.getfield 28, 3) := by decide +kernel
theorem dX9_know_39 : decode cX9_know 39 = .ok (.iload_n 1, 1) := by decide +kernel
theorem dX9_know_40 : decode cX9_know 40 = .ok (.iaload, 1) := by decide +kernel
theorem dX9_know_41 : decode cX9_know 41 = .ok (.iload_n 2, 1) := by decide +kernel
theorem dX9_know_42 : decode cX9_know 42 = .ok (.ishr, 1) := by decide +kernel
theorem dX9_know_43 : decode cX9_know 43 = .ok (.iconst 1, 1) := by decide +kernel
theorem dX9_know_44 : decode cX9_know 44 = .ok (.iand, 1) := by decide +kernel
theorem dX9_know_45 : decode cX9_know 45 = .ok (.ireturn, 1) := by decide +kernel
theorem dX9_farOf_0 : decode cX9_farOf 0 = .ok (.iconst 1, 1) := by decide +kernel
theorem dX9_farOf_1 : decode cX9_farOf 1 = .ok (.iload_n 1, 1) := by decide +kernel
theorem dX9_farOf_2 : decode cX9_farOf 2 = .ok (.ishl, 1) := by decide +kernel
theorem dX9_farOf_3 : decode cX9_farOf 3 = .ok (.istore_n 3, 1) := by decide +kernel
theorem dX9_farOf_4 : decode cX9_farOf 4 = .ok (.iconst 0, 1) := by decide +kernel
theorem dX9_farOf_5 : decode cX9_farOf 5 = .ok (.istore 4, 2) := by decide +kernel
theorem dX9_farOf_7 : decode cX9_farOf 7 = .ok (.iload 4, 2) := by decide +kernel
theorem dX9_farOf_9 : decode cX9_farOf 9 = .ok (.bipush 6, 2) := by decide +kernel
theorem dX9_farOf_11 : decode cX9_farOf 11 = .ok (.if_icmp .ge 71, 3) := by decide +kernel
theorem dX9_farOf_14 : decode cX9_farOf 14 = .ok (.iload_n 3, 1) := by decide +kernel
theorem dX9_farOf_15 : decode cX9_farOf 15 = .ok (.iload_n 2, 1) := by decide +kernel
theorem dX9_farOf_16 : decode cX9_farOf 16 = .ok (.ishr, 1) := by decide +kernel
theorem dX9_farOf_17 : decode cX9_farOf 17 = .ok (.iconst 1, 1) := by decide +kernel
theorem dX9_farOf_18 : decode cX9_farOf 18 = .ok (.iand, 1) := by decide +kernel
theorem dX9_farOf_19 : decode cX9_farOf 19 = .ok (.iconst 1, 1) := by decide +kernel
theorem dX9_farOf_20 : decode cX9_farOf 20 = .ok (.if_icmp .ne 6, 3) := by decide +kernel
theorem dX9_farOf_23 : decode cX9_farOf 23 = .ok (.iload 4, 2) := by decide +kernel
theorem dX9_farOf_25 : decode cX9_farOf 25 = .ok (.ireturn, 1) := by decide +kernel
theorem dX9_farOf_26 : decode cX9_farOf 26 = .ok (.iload_n 3, 1) := by decide +kernel
theorem dX9_farOf_27 : decode cX9_farOf 27 = .ok (.istore 5, 2) := by decide +kernel
theorem dX9_farOf_29 : decode cX9_farOf 29 = .ok (.iconst 0, 1) := by decide +kernel
theorem dX9_farOf_30 : decode cX9_farOf 30 = .ok (.istore 6, 2) := by decide +kernel
theorem dX9_farOf_32 : decode cX9_farOf 32 = .ok (.iload 6, 2) := by decide +kernel
theorem dX9_farOf_34 : decode cX9_farOf 34 = .ok (.aload_n 0, 1) := by decide +kernel
theorem dX9_farOf_35 : decode cX9_farOf 35 = .ok (.getfield 104, 3) := by decide +kernel
theorem dX9_farOf_38 : decode cX9_farOf 38 = .ok (.if_icmp .ge 35, 3) := by decide +kernel
theorem dX9_farOf_41 : decode cX9_farOf 41 = .ok (.iload 5, 2) := by decide +kernel
theorem dX9_farOf_43 : decode cX9_farOf 43 = .ok (.iload_n 3, 1) := by decide +kernel
theorem dX9_farOf_44 : decode cX9_farOf 44 = .ok (.iload 6, 2) := by decide +kernel
theorem dX9_farOf_46 : decode cX9_farOf 46 = .ok (.ishr, 1) := by decide +kernel
theorem dX9_farOf_47 : decode cX9_farOf 47 = .ok (.iconst 1, 1) := by decide +kernel
theorem dX9_farOf_48 : decode cX9_farOf 48 = .ok (.iand, 1) := by decide +kernel
theorem dX9_farOf_49 : decode cX9_farOf 49 = .ok (.iconst 1, 1) := by decide +kernel
theorem dX9_farOf_50 : decode cX9_farOf 50 = .ok (.if_icmp .ne 13, 3) := by decide +kernel
theorem dX9_farOf_53 : decode cX9_farOf 53 = .ok (.aload_n 0, 1) := by decide +kernel
theorem dX9_farOf_54 : decode cX9_farOf 54 = .ok (.getfield 28, 3) := by decide +kernel
theorem dX9_farOf_57 : decode cX9_farOf 57 = .ok (.iload 6, 2) := by decide +kernel
theorem dX9_farOf_59 : decode cX9_farOf 59 = .ok (.iaload, 1) := by decide +kernel
theorem dX9_farOf_60 : decode cX9_farOf 60 = .ok (.goto 4, 3) := by decide +kernel
theorem dX9_farOf_63 : decode cX9_farOf 63 = .ok (.iconst 0, 1) := by decide +kernel
theorem dX9_farOf_64 : decode cX9_farOf 64 = .ok (.ior, 1) := by decide +kernel
theorem dX9_farOf_65 : decode cX9_farOf 65 = .ok (.istore 5, 2) := by decide +kernel
theorem dX9_farOf_67 : decode cX9_farOf 67 = .ok (.iinc 6 1, 3) := by decide +kernel
theorem dX9_farOf_70 : decode cX9_farOf 70 = .ok (.goto (-38), 3) := by decide +kernel
theorem dX9_farOf_73 : decode cX9_farOf 73 = .ok (.iload 5, 2) := by decide +kernel
theorem dX9_farOf_75 : decode cX9_farOf 75 = .ok (.istore_n 3, 1) := by decide +kernel
theorem dX9_farOf_76 : decode cX9_farOf 76 = .ok (.iinc 4 1, 3) := by decide +kernel
theorem dX9_farOf_79 : decode cX9_farOf 79 = .ok (.goto (-72), 3) := by decide +kernel
theorem dX9_farOf_82 : decode cX9_farOf 82 = .ok (.bipush (-9), 2) := by decide +kernel
theorem dX9_farOf_84 : decode cX9_farOf 84 = .ok (.ireturn, 1) := by decide +kernel
theorem dX9_far_0 : decode cX9_far 0 = .ok (.aload_n 0, 1) := by decide +kernel
theorem dX9_far_1 : decode cX9_far 1 = .ok (.iload_n 1, 1) := by decide +kernel
theorem dX9_far_2 : decode cX9_far 2 = .ok (.invokevirtual 180, 3) := by decide +kernel
theorem dX9_far_5 : decode cX9_far 5 = .ok (.ifCond .ne 11, 3) := by decide +kernel
theorem dX9_far_8 : decode cX9_far 8 = .ok (.aload_n 0, 1) := by decide +kernel
theorem dX9_far_9 : decode cX9_far 9 = .ok (.iload_n 2, 1) := by decide +kernel
theorem dX9_far_10 : decode cX9_far 10 = .ok (.invokevirtual 180, 3) := by decide +kernel
theorem dX9_far_13 : decode cX9_far 13 = .ok (.ifCond .eq 7, 3) := by decide +kernel
theorem dX9_far_16 : decode cX9_far 16 = .ok (.iconst (-1), 1) := by decide +kernel
theorem dX9_far_17 : decode cX9_far 17 = .ok (.goto 9, 3) := by decide +kernel
theorem dX9_far_20 : decode cX9_far 20 = .ok (.aload_n 0, 1) := by decide +kernel
theorem dX9_far_21 : decode cX9_far 21 = .ok (.iload_n 1, 1) := by decide +kernel
theorem dX9_far_22 : decode cX9_far 22 = .ok (.iload_n 2, 1) := by decide +kernel
theorem dX9_far_23 : decode cX9_far 23 = .ok (.invokevirtual 249, 3) := by decide +kernel
theorem dX9_far_26 : decode cX9_far 26 = .ok (.ireturn, 1) := by decide +kernel
theorem dX9_held_0 : decode cX9_held 0 = .ok (.iconst 0, 1) := by decide +kernel
theorem dX9_held_1 : decode cX9_held 1 = .ok (.istore_n 3, 1) := by decide +kernel
theorem dX9_held_2 : decode cX9_held 2 = .ok (.iconst 0, 1) := by decide +kernel
theorem dX9_held_3 : decode cX9_held 3 = .ok (.istore 4, 2) := by decide +kernel
theorem dX9_held_5 : decode cX9_held 5 = .ok (.iload 4, 2) := by decide +kernel
theorem dX9_held_7 : decode cX9_held 7 = .ok (.aload_n 0, 1) := by decide +kernel
theorem dX9_held_8 : decode cX9_held 8 = .ok (.getfield 104, 3) := by decide +kernel
theorem dX9_held_11 : decode cX9_held 11 = .ok (.if_icmp .ge 81, 3) := by decide +kernel
theorem dX9_held_14 : decode cX9_held 14 = .ok (.iload_n 2, 1) := by decide +kernel
theorem dX9_held_15 : decode cX9_held 15 = .ok (.ifCond .ne 31, 3) := by decide +kernel
theorem dX9_held_18 : decode cX9_held 18 = .ok (.aload_n 0, 1) := by decide +kernel
theorem dX9_held_19 : decode cX9_held 19 = .ok (.getfield 16, 3) := by decide +kernel
theorem dX9_held_22 : decode cX9_held 22 = .ok (.iload 4, 2) := by decide +kernel
theorem dX9_held_24 : decode cX9_held 24 = .ok (.iaload, 1) := by decide +kernel
theorem dX9_held_25 : decode cX9_held 25 = .ok (.ifCond .le 17, 3) := by decide +kernel
theorem dX9_held_28 : decode cX9_held 28 = .ok (.aload_n 0, 1) := by decide +kernel
theorem dX9_held_29 : decode cX9_held 29 = .ok (.iload 4, 2) := by decide +kernel
theorem dX9_held_31 : decode cX9_held 31 = .ok (.invokevirtual 171, 3) := by decide +kernel
theorem dX9_held_34 : decode cX9_held 34 = .ok (.iload_n 1, 1) := by decide +kernel
theorem dX9_held_35 : decode cX9_held 35 = .ok (.if_icmp .lt 7, 3) := by decide +kernel
theorem dX9_held_38 : decode cX9_held 38 = .ok (.iconst 1, 1) := by decide +kernel
theorem dX9_held_39 : decode cX9_held 39 = .ok (.goto 32, 3) := by decide +kernel
theorem dX9_held_42 : decode cX9_held 42 = .ok (.iconst 0, 1) := by decide +kernel
theorem dX9_held_43 : decode cX9_held 43 = .ok (.goto 28, 3) := by decide +kernel
theorem dX9_held_46 : decode cX9_held 46 = .ok (.aload_n 0, 1) := by decide +kernel
theorem dX9_held_47 : decode cX9_held 47 = .ok (.getfield 16, 3) := by decide +kernel
theorem dX9_held_50 : decode cX9_held 50 = .ok (.iload 4, 2) := by decide +kernel
theorem dX9_held_52 : decode cX9_held 52 = .ok (.iaload, 1) := by decide +kernel
theorem dX9_held_53 : decode cX9_held 53 = .ok (.ifCond .ne 17, 3) := by decide +kernel
theorem dX9_held_56 : decode cX9_held 56 = .ok (.aload_n 0, 1) := by decide +kernel
theorem dX9_held_57 : decode cX9_held 57 = .ok (.iload 4, 2) := by decide +kernel
theorem dX9_held_59 : decode cX9_held 59 = .ok (.invokevirtual 171, 3) := by decide +kernel
theorem dX9_held_62 : decode cX9_held 62 = .ok (.iload_n 1, 1) := by decide +kernel
theorem dX9_held_63 : decode cX9_held 63 = .ok (.if_icmp .ge 7, 3) := by decide +kernel
theorem dX9_held_66 : decode cX9_held 66 = .ok (.iconst 1, 1) := by decide +kernel
theorem dX9_held_67 : decode cX9_held 67 = .ok (.goto 4, 3) := by decide +kernel
theorem dX9_held_70 : decode cX9_held 70 = .ok (.iconst 0, 1) := by decide +kernel
theorem dX9_held_71 : decode cX9_held 71 = .ok (.istore 5, 2) := by decide +kernel
theorem dX9_held_73 : decode cX9_held 73 = .ok (.iload_n 3, 1) := by decide +kernel
theorem dX9_held_74 : decode cX9_held 74 = .ok (.iload 5, 2) := by decide +kernel
theorem dX9_held_76 : decode cX9_held 76 = .ok (.ifCond .eq 7, 3) := by decide +kernel
theorem dX9_held_79 : decode cX9_held 79 = .ok (.iconst 1, 1) := by decide +kernel
theorem dX9_held_80 : decode cX9_held 80 = .ok (.goto 4, 3) := by decide +kernel
theorem dX9_held_83 : decode cX9_held 83 = .ok (.iconst 0, 1) := by decide +kernel
theorem dX9_held_84 : decode cX9_held 84 = .ok (.iadd, 1) := by decide +kernel
theorem dX9_held_85 : decode cX9_held 85 = .ok (.istore_n 3, 1) := by decide +kernel
theorem dX9_held_86 : decode cX9_held 86 = .ok (.iinc 4 1, 3) := by decide +kernel
theorem dX9_held_89 : decode cX9_held 89 = .ok (.goto (-84), 3) := by decide +kernel
theorem dX9_held_92 : decode cX9_held 92 = .ok (.iload_n 3, 1) := by decide +kernel
theorem dX9_held_93 : decode cX9_held 93 = .ok (.ireturn, 1) := by decide +kernel
theorem dX9_lantern_0 : decode cX9_lantern 0 = .ok (.iload_n 1, 1) := by decide +kernel
theorem dX9_lantern_1 : decode cX9_lantern 1 = .ok (.i2l, 1) := by decide +kernel
theorem dX9_lantern_2 : decode cX9_lantern 2 = .ok (.lconst 0, 1) := by decide +kernel
theorem dX9_lantern_3 : decode cX9_lantern 3 = .ok (.ldc2_w 252, 3) := by decide +kernel
theorem dX9_lantern_6 : decode cX9_lantern 6 = .ok (.invokestatic 107, 3) := by decide +kernel
theorem dX9_lantern_9 : decode cX9_lantern 9 = .ok (.ifCond .eq 13, 3) := by decide +kernel
theorem dX9_lantern_12 : decode cX9_lantern 12 = .ok (.iload_n 2, 1) := by decide +kernel
theorem dX9_lantern_13 : decode cX9_lantern 13 = .ok (.i2l, 1) := by decide +kernel
theorem dX9_lantern_14 : decode cX9_lantern 14 = .ok (.lconst 0, 1) := by decide +kernel
theorem dX9_lantern_15 : decode cX9_lantern 15 = .ok (.lconst 1, 1) := by decide +kernel
theorem dX9_lantern_16 : decode cX9_lantern 16 = .ok (.invokestatic 107, 3) := by decide +kernel
theorem dX9_lantern_19 : decode cX9_lantern 19 = .ok (.ifCond .ne 6, 3) := by decide +kernel
theorem dX9_lantern_22 : decode cX9_lantern 22 = .ok (.bipush (-2), 2) := by decide +kernel
theorem dX9_lantern_24 : decode cX9_lantern 24 = .ok (.ireturn, 1) := by decide +kernel
theorem dX9_lantern_25 : decode cX9_lantern 25 = .ok (.aload_n 0, 1) := by decide +kernel
theorem dX9_lantern_26 : decode cX9_lantern 26 = .ok (.getfield 104, 3) := by decide +kernel
theorem dX9_lantern_29 : decode cX9_lantern 29 = .ok (.ifCond .ne 8, 3) := by decide +kernel
theorem dX9_lantern_32 : decode cX9_lantern 32 = .ok (.bipush (-3), 2) := by decide +kernel
theorem dX9_lantern_34 : decode cX9_lantern 34 = .ok (.goto 9, 3) := by decide +kernel
theorem dX9_lantern_37 : decode cX9_lantern 37 = .ok (.aload_n 0, 1) := by decide +kernel
theorem dX9_lantern_38 : decode cX9_lantern 38 = .ok (.iload_n 1, 1) := by decide +kernel
theorem dX9_lantern_39 : decode cX9_lantern 39 = .ok (.iload_n 2, 1) := by decide +kernel
theorem dX9_lantern_40 : decode cX9_lantern 40 = .ok (.invokevirtual 254, 3) := by decide +kernel
theorem dX9_lantern_43 : decode cX9_lantern 43 = .ok (.ireturn, 1) := by decide +kernel
theorem dX9_best_0 : decode cX9_best 0 = .ok (.aload_n 0, 1) := by decide +kernel
theorem dX9_best_1 : decode cX9_best 1 = .ok (.getfield 104, 3) := by decide +kernel
theorem dX9_best_4 : decode cX9_best 4 = .ok (.ifCond .ne 6, 3) := by decide +kernel
theorem dX9_best_7 : decode cX9_best 7 = .ok (.bipush (-3), 2) := by decide +kernel
theorem dX9_best_9 : decode cX9_best 9 = .ok (.ireturn, 1) := by decide +kernel
theorem dX9_best_10 : decode cX9_best 10 = .ok (.iconst 0, 1) := by decide +kernel
theorem dX9_best_11 : decode cX9_best 11 = .ok (.istore_n 1, 1) := by decide +kernel
theorem dX9_best_12 : decode cX9_best 12 = .ok (.iconst 1, 1) := by decide +kernel
theorem dX9_best_13 : decode cX9_best 13 = .ok (.istore_n 2, 1) := by decide +kernel
theorem dX9_best_14 : decode cX9_best 14 = .ok (.iload_n 2, 1) := by decide +kernel
theorem dX9_best_15 : decode cX9_best 15 = .ok (.bipush 30, 2) := by decide +kernel
theorem dX9_best_17 : decode cX9_best 17 = .ok (.if_icmp .gt 44, 3) := by decide +kernel
theorem dX9_best_20 : decode cX9_best 20 = .ok (.aload_n 0, 1) := by decide +kernel
theorem dX9_best_21 : decode cX9_best 21 = .ok (.iload_n 2, 1) := by decide +kernel
theorem dX9_best_22 : decode cX9_best 22 = .ok (.iconst 0, 1) := by decide +kernel
theorem dX9_best_23 : decode cX9_best 23 = .ok (.invokevirtual 254, 3) := by decide +kernel
theorem dX9_best_26 : decode cX9_best 26 = .ok (.aload_n 0, 1) := by decide +kernel
theorem dX9_best_27 : decode cX9_best 27 = .ok (.iload_n 2, 1) := by decide +kernel
theorem dX9_best_28 : decode cX9_best 28 = .ok (.iconst 1, 1) := by decide +kernel
theorem dX9_best_29 : decode cX9_best 29 = .ok (.invokevirtual 254, 3) := by decide +kernel
theorem dX9_best_32 : decode cX9_best 32 = .ok (.iadd, 1) := by decide +kernel
theorem dX9_best_33 : decode cX9_best 33 = .ok (.aload_n 0, 1) := by decide +kernel
theorem dX9_best_34 : decode cX9_best 34 = .ok (.iload_n 1, 1) := by decide +kernel
theorem dX9_best_35 : decode cX9_best 35 = .ok (.iconst 0, 1) := by decide +kernel
theorem dX9_best_36 : decode cX9_best 36 = .ok (.invokevirtual 254, 3) := by decide +kernel
theorem dX9_best_39 : decode cX9_best 39 = .ok (.aload_n 0, 1) := by decide +kernel
theorem dX9_best_40 : decode cX9_best 40 = .ok (.iload_n 1, 1) := by decide +kernel
theorem dX9_best_41 : decode cX9_best 41 = .ok (.iconst 1, 1) := by decide +kernel
theorem dX9_best_42 : decode cX9_best 42 = .ok (.invokevirtual 254, 3) := by decide +kernel
theorem dX9_best_45 : decode cX9_best 45 = .ok (.iadd, 1) := by decide +kernel
theorem dX9_best_46 : decode cX9_best 46 = .ok (.if_icmp .ge 7, 3) := by decide +kernel
theorem dX9_best_49 : decode cX9_best 49 = .ok (.iload_n 2, 1) := by decide +kernel
theorem dX9_best_50 : decode cX9_best 50 = .ok (.goto 4, 3) := by decide +kernel
theorem dX9_best_53 : decode cX9_best 53 = .ok (.iload_n 1, 1) := by decide +kernel
theorem dX9_best_54 : decode cX9_best 54 = .ok (.istore_n 1, 1) := by decide +kernel
theorem dX9_best_55 : decode cX9_best 55 = .ok (.iinc 2 1, 3) := by decide +kernel
theorem dX9_best_58 : decode cX9_best 58 = .ok (.goto (-44), 3) := by decide +kernel
theorem dX9_best_61 : decode cX9_best 61 = .ok (.iload_n 1, 1) := by decide +kernel
theorem dX9_best_62 : decode cX9_best 62 = .ok (.ireturn, 1) := by decide +kernel
theorem dX9_manyWithout_0 : decode cX9_manyWithout 0 = .ok (.aload_n 0, 1) := by decide +kernel
theorem dX9_manyWithout_1 : decode cX9_manyWithout 1 = .ok (.invokevirtual 183, 3) := by decide +kernel
theorem dX9_manyWithout_4 : decode cX9_manyWithout 4 = .ok (.aload_n 0, 1) := by decide +kernel
theorem dX9_manyWithout_5 : decode cX9_manyWithout 5 = .ok (.invokevirtual 192, 3) := by decide +kernel
theorem dX9_manyWithout_8 : decode cX9_manyWithout 8 = .ok (.invokestatic 257, 3) := by decide +kernel
theorem dX9_manyWithout_11 : decode cX9_manyWithout 11 = .ok (.ireturn, 1) := by decide +kernel
theorem dX9_withoutBy_0 : decode cX9_withoutBy 0 = .ok (.aload_n 0, 1) := by decide +kernel
theorem dX9_withoutBy_1 : decode cX9_withoutBy 1 = .ok (.getfield 162, 3) := by decide +kernel
theorem dX9_withoutBy_4 : decode cX9_withoutBy 4 = .ok (.istore_n 2, 1) := by decide +kernel
theorem dX9_withoutBy_5 : decode cX9_withoutBy 5 = .ok (.aload_n 0, 1) := by decide +kernel
theorem dX9_withoutBy_6 : decode cX9_withoutBy 6 = .ok (.iload_n 1, 1) := by decide +kernel
theorem dX9_withoutBy_7 : decode cX9_withoutBy 7 = .ok (.putfield 162, 3) := by decide +kernel
theorem dX9_withoutBy_10 : decode cX9_withoutBy 10 = .ok (.aload_n 0, 1) := by decide +kernel
theorem dX9_withoutBy_11 : decode cX9_withoutBy 11 = .ok (.invokevirtual 260, 3) := by decide +kernel
theorem dX9_withoutBy_14 : decode cX9_withoutBy 14 = .ok (.istore_n 3, 1) := by decide +kernel
theorem dX9_withoutBy_15 : decode cX9_withoutBy 15 = .ok (.aload_n 0, 1) := by decide +kernel
theorem dX9_withoutBy_16 : decode cX9_withoutBy 16 = .ok (.iload_n 2, 1) := by decide +kernel
theorem dX9_withoutBy_17 : decode cX9_withoutBy 17 = .ok (.putfield 162, 3) := by decide +kernel
theorem dX9_withoutBy_20 : decode cX9_withoutBy 20 = .ok (.iload_n 3, 1) := by decide +kernel
theorem dX9_withoutBy_21 : decode cX9_withoutBy 21 = .ok (.ireturn, 1) := by decide +kernel
theorem dX9_without_0 : decode cX9_without 0 = .ok (.iload_n 1, 1) := by decide +kernel
theorem dX9_without_1 : decode cX9_without 1 = .ok (.i2l, 1) := by decide +kernel
theorem dX9_without_2 : decode cX9_without 2 = .ok (.lconst 0, 1) := by decide +kernel
theorem dX9_without_3 : decode cX9_without 3 = .ok (.ldc2_w 231, 3) := by decide +kernel
theorem dX9_without_6 : decode cX9_without 6 = .ok (.invokestatic 107, 3) := by decide +kernel
theorem dX9_without_9 : decode cX9_without 9 = .ok (.ifCond .ne 6, 3) := by decide +kernel
theorem dX9_without_12 : decode cX9_without 12 = .ok (.bipush (-2), 2) := by decide +kernel
theorem dX9_without_14 : decode cX9_without 14 = .ok (.ireturn, 1) := by decide +kernel
theorem dX9_without_15 : decode cX9_without 15 = .ok (.aload_n 0, 1) := by decide +kernel
theorem dX9_without_16 : decode cX9_without 16 = .ok (.getfield 104, 3) := by decide +kernel
theorem dX9_without_19 : decode cX9_without 19 = .ok (.ifCond .ne 6, 3) := by decide +kernel
theorem dX9_without_22 : decode cX9_without 22 = .ok (.bipush (-3), 2) := by decide +kernel
theorem dX9_without_24 : decode cX9_without 24 = .ok (.ireturn, 1) := by decide +kernel
theorem dX9_without_25 : decode cX9_without 25 = .ok (.iconst 0, 1) := by decide +kernel
theorem dX9_without_26 : decode cX9_without 26 = .ok (.istore_n 2, 1) := by decide +kernel
theorem dX9_without_27 : decode cX9_without 27 = .ok (.iconst 1, 1) := by decide +kernel
theorem dX9_without_28 : decode cX9_without 28 = .ok (.istore_n 3, 1) := by decide +kernel
theorem dX9_without_29 : decode cX9_without 29 = .ok (.iload_n 3, 1) := by decide +kernel
theorem dX9_without_30 : decode cX9_without 30 = .ok (.iconst 3, 1) := by decide +kernel
theorem dX9_without_31 : decode cX9_without 31 = .ok (.if_icmp .ge 28, 3) := by decide +kernel
theorem dX9_without_34 : decode cX9_without 34 = .ok (.aload_n 0, 1) := by decide +kernel
theorem dX9_without_35 : decode cX9_without 35 = .ok (.iload_n 3, 1) := by decide +kernel
theorem dX9_without_36 : decode cX9_without 36 = .ok (.invokevirtual 263, 3) := by decide +kernel
theorem dX9_without_39 : decode cX9_without 39 = .ok (.aload_n 0, 1) := by decide +kernel
theorem dX9_without_40 : decode cX9_without 40 = .ok (.iload_n 2, 1) := by decide +kernel
theorem dX9_without_41 : decode cX9_without 41 = .ok (.invokevirtual 263, 3) := by decide +kernel
theorem dX9_without_44 : decode cX9_without 44 = .ok (.if_icmp .ge 7, 3) := by decide +kernel
theorem dX9_without_47 : decode cX9_without 47 = .ok (.iload_n 3, 1) := by decide +kernel
theorem dX9_without_48 : decode cX9_without 48 = .ok (.goto 4, 3) := by decide +kernel
theorem dX9_without_51 : decode cX9_without 51 = .ok (.iload_n 2, 1) := by decide +kernel
theorem dX9_without_52 : decode cX9_without 52 = .ok (.istore_n 2, 1) := by decide +kernel
theorem dX9_without_53 : decode cX9_without 53 = .ok (.iinc 3 1, 3) := by decide +kernel
theorem dX9_without_56 : decode cX9_without 56 = .ok (.goto (-27), 3) := by decide +kernel
theorem dX9_without_59 : decode cX9_without 59 = .ok (.iload_n 1, 1) := by decide +kernel
theorem dX9_without_60 : decode cX9_without 60 = .ok (.iconst 3, 1) := by decide +kernel
theorem dX9_without_61 : decode cX9_without 61 = .ok (.if_icmp .ge 11, 3) := by decide +kernel
theorem dX9_without_64 : decode cX9_without 64 = .ok (.aload_n 0, 1) := by decide +kernel
theorem dX9_without_65 : decode cX9_without 65 = .ok (.iload_n 1, 1) := by decide +kernel
theorem dX9_without_66 : decode cX9_without 66 = .ok (.invokevirtual 263, 3) := by decide +kernel
theorem dX9_without_69 : decode cX9_without 69 = .ok (.goto 17, 3) := by decide +kernel
theorem dX9_without_72 : decode cX9_without 72 = .ok (.iload_n 1, 1) := by decide +kernel
theorem dX9_without_73 : decode cX9_without 73 = .ok (.iconst 3, 1) := by decide +kernel
theorem dX9_without_74 : decode cX9_without 74 = .ok (.if_icmp .ne 11, 3) := by decide +kernel
theorem dX9_without_77 : decode cX9_without 77 = .ok (.aload_n 0, 1) := by decide +kernel
theorem dX9_without_78 : decode cX9_without 78 = .ok (.iload_n 2, 1) := by decide +kernel
theorem dX9_without_79 : decode cX9_without 79 = .ok (.invokevirtual 263, 3) := by decide +kernel
theorem dX9_without_82 : decode cX9_without 82 = .ok (.goto 4, 3) := by decide +kernel
theorem dX9_without_85 : decode cX9_without 85 = .ok (.iload_n 2, 1) := by decide +kernel
theorem dX9_without_86 : decode cX9_without 86 = .ok (.ireturn, 1) := by decide +kernel
theorem dX9_eats_0 : decode cX9_eats 0 = .ok (.aload_n 0, 1) := by decide +kernel
theorem dX9_eats_1 : decode cX9_eats 1 = .ok (.invokevirtual 183, 3) := by decide +kernel
theorem dX9_eats_4 : decode cX9_eats 4 = .ok (.aload_n 0, 1) := by decide +kernel
theorem dX9_eats_5 : decode cX9_eats 5 = .ok (.getfield 49, 3) := by decide +kernel
theorem dX9_eats_8 : decode cX9_eats 8 = .ok (.iload_n 1, 1) := by decide +kernel
theorem dX9_eats_9 : decode cX9_eats 9 = .ok (.iaload, 1) := by decide +kernel
theorem dX9_eats_10 : decode cX9_eats 10 = .ok (.ireturn, 1) := by decide +kernel
theorem dX9_gain_0 : decode cX9_gain 0 = .ok (.aload_n 0, 1) := by decide +kernel
theorem dX9_gain_1 : decode cX9_gain 1 = .ok (.iload_n 1, 1) := by decide +kernel
theorem dX9_gain_2 : decode cX9_gain 2 = .ok (.invokevirtual 180, 3) := by decide +kernel
theorem dX9_gain_5 : decode cX9_gain 5 = .ok (.ifCond .eq 5, 3) := by decide +kernel
theorem dX9_gain_8 : decode cX9_gain 8 = .ok (.iconst (-1), 1) := by decide +kernel
theorem dX9_gain_9 : decode cX9_gain 9 = .ok (.ireturn, 1) := by decide +kernel
theorem dX9_gain_10 : decode cX9_gain 10 = .ok (.aload_n 0, 1) := by decide +kernel
theorem dX9_gain_11 : decode cX9_gain 11 = .ok (.getfield 19, 3) := by decide +kernel
theorem dX9_gain_14 : decode cX9_gain 14 = .ok (.iload_n 1, 1) := by decide +kernel
theorem dX9_gain_15 : decode cX9_gain 15 = .ok (.iaload, 1) := by decide +kernel
theorem dX9_gain_16 : decode cX9_gain 16 = .ok (.istore_n 2, 1) := by decide +kernel
theorem dX9_gain_17 : decode cX9_gain 17 = .ok (.aload_n 0, 1) := by decide +kernel
theorem dX9_gain_18 : decode cX9_gain 18 = .ok (.iload_n 1, 1) := by decide +kernel
theorem dX9_gain_19 : decode cX9_gain 19 = .ok (.invokevirtual 266, 3) := by decide +kernel
theorem dX9_gain_22 : decode cX9_gain 22 = .ok (.istore_n 3, 1) := by decide +kernel
theorem dX9_gain_23 : decode cX9_gain 23 = .ok (.bipush (-9), 2) := by decide +kernel
theorem dX9_gain_25 : decode cX9_gain 25 = .ok (.istore 4, 2) := by decide +kernel
theorem dX9_gain_27 : decode cX9_gain 27 = .ok (.bipush 9, 2) := by decide +kernel
theorem dX9_gain_29 : decode cX9_gain 29 = .ok (.istore 5, 2) := by decide +kernel
theorem dX9_gain_31 : decode cX9_gain 31 = .ok (.iload 5, 2) := by decide +kernel
theorem dX9_gain_33 : decode cX9_gain 33 = .ok (.iload_n 2, 1) := by decide +kernel
theorem dX9_gain_34 : decode cX9_gain 34 = .ok (.if_icmp .le 35, 3) := by decide +kernel
theorem dX9_gain_37 : decode cX9_gain 37 = .ok (.aload_n 0, 1) := by decide +kernel
theorem dX9_gain_38 : decode cX9_gain 38 = .ok (.getfield 19, 3) := by decide +kernel
theorem dX9_gain_41 : decode cX9_gain 41 = .ok (.iload_n 1, 1) := by decide +kernel
theorem dX9_gain_42 : decode cX9_gain 42 = .ok (.iload 5, 2) := by decide +kernel
theorem dX9_gain_44 : decode cX9_gain 44 = .ok (.iastore, 1) := by decide +kernel
theorem dX9_gain_45 : decode cX9_gain 45 = .ok (.aload_n 0, 1) := by decide +kernel
theorem dX9_gain_46 : decode cX9_gain 46 = .ok (.iload_n 1, 1) := by decide +kernel
theorem dX9_gain_47 : decode cX9_gain 47 = .ok (.invokevirtual 266, 3) := by decide +kernel
theorem dX9_gain_50 : decode cX9_gain 50 = .ok (.iload_n 3, 1) := by decide +kernel
theorem dX9_gain_51 : decode cX9_gain 51 = .ok (.if_icmp .le 8, 3) := by decide +kernel
theorem dX9_gain_54 : decode cX9_gain 54 = .ok (.iload 5, 2) := by decide +kernel
theorem dX9_gain_56 : decode cX9_gain 56 = .ok (.goto 5, 3) := by decide +kernel
theorem dX9_gain_59 : decode cX9_gain 59 = .ok (.iload 4, 2) := by decide +kernel
theorem dX9_gain_61 : decode cX9_gain 61 = .ok (.istore 4, 2) := by decide +kernel
theorem dX9_gain_63 : decode cX9_gain 63 = .ok (.iinc 5 (-1), 3) := by decide +kernel
theorem dX9_gain_66 : decode cX9_gain 66 = .ok (.goto (-35), 3) := by decide +kernel
theorem dX9_gain_69 : decode cX9_gain 69 = .ok (.aload_n 0, 1) := by decide +kernel
theorem dX9_gain_70 : decode cX9_gain 70 = .ok (.getfield 19, 3) := by decide +kernel
theorem dX9_gain_73 : decode cX9_gain 73 = .ok (.iload_n 1, 1) := by decide +kernel
theorem dX9_gain_74 : decode cX9_gain 74 = .ok (.iload_n 2, 1) := by decide +kernel
theorem dX9_gain_75 : decode cX9_gain 75 = .ok (.iastore, 1) := by decide +kernel
theorem dX9_gain_76 : decode cX9_gain 76 = .ok (.iload 4, 2) := by decide +kernel
theorem dX9_gain_78 : decode cX9_gain 78 = .ok (.ireturn, 1) := by decide +kernel
theorem dX9_needs_0 : decode cX9_needs 0 = .ok (.aload_n 0, 1) := by decide +kernel
theorem dX9_needs_1 : decode cX9_needs 1 = .ok (.iload_n 1, 1) := by decide +kernel
theorem dX9_needs_2 : decode cX9_needs 2 = .ok (.invokevirtual 180, 3) := by decide +kernel
theorem dX9_needs_5 : decode cX9_needs 5 = .ok (.ifCond .eq 5, 3) := by decide +kernel
theorem dX9_needs_8 : decode cX9_needs 8 = .ok (.iconst (-1), 1) := by decide +kernel
theorem dX9_needs_9 : decode cX9_needs 9 = .ok (.ireturn, 1) := by decide +kernel
theorem dX9_needs_10 : decode cX9_needs 10 = .ok (.aload_n 0, 1) := by decide +kernel
theorem dX9_needs_11 : decode cX9_needs 11 = .ok (.getfield 165, 3) := by decide +kernel
theorem dX9_needs_14 : decode cX9_needs 14 = .ok (.istore_n 2, 1) := by decide +kernel
theorem dX9_needs_15 : decode cX9_needs 15 = .ok (.bipush (-9), 2) := by decide +kernel
theorem dX9_needs_17 : decode cX9_needs 17 = .ok (.istore_n 3, 1) := by decide +kernel
theorem dX9_needs_18 : decode cX9_needs 18 = .ok (.bipush 9, 2) := by decide +kernel
theorem dX9_needs_20 : decode cX9_needs 20 = .ok (.istore 4, 2) := by decide +kernel
theorem dX9_needs_22 : decode cX9_needs 22 = .ok (.iload 4, 2) := by decide +kernel
theorem dX9_needs_24 : decode cX9_needs 24 = .ok (.ifCond .lt 30, 3) := by decide +kernel
theorem dX9_needs_27 : decode cX9_needs 27 = .ok (.aload_n 0, 1) := by decide +kernel
theorem dX9_needs_28 : decode cX9_needs 28 = .ok (.iload 4, 2) := by decide +kernel
theorem dX9_needs_30 : decode cX9_needs 30 = .ok (.putfield 165, 3) := by decide +kernel
theorem dX9_needs_33 : decode cX9_needs 33 = .ok (.aload_n 0, 1) := by decide +kernel
theorem dX9_needs_34 : decode cX9_needs 34 = .ok (.iload_n 1, 1) := by decide +kernel
theorem dX9_needs_35 : decode cX9_needs 35 = .ok (.invokevirtual 266, 3) := by decide +kernel
theorem dX9_needs_38 : decode cX9_needs 38 = .ok (.ifCond .le 8, 3) := by decide +kernel
theorem dX9_needs_41 : decode cX9_needs 41 = .ok (.iload 4, 2) := by decide +kernel
theorem dX9_needs_43 : decode cX9_needs 43 = .ok (.goto 4, 3) := by decide +kernel
theorem dX9_needs_46 : decode cX9_needs 46 = .ok (.iload_n 3, 1) := by decide +kernel
theorem dX9_needs_47 : decode cX9_needs 47 = .ok (.istore_n 3, 1) := by decide +kernel
theorem dX9_needs_48 : decode cX9_needs 48 = .ok (.iinc 4 (-1), 3) := by decide +kernel
theorem dX9_needs_51 : decode cX9_needs 51 = .ok (.goto (-29), 3) := by decide +kernel
theorem dX9_needs_54 : decode cX9_needs 54 = .ok (.aload_n 0, 1) := by decide +kernel
theorem dX9_needs_55 : decode cX9_needs 55 = .ok (.iload_n 2, 1) := by decide +kernel
theorem dX9_needs_56 : decode cX9_needs 56 = .ok (.putfield 165, 3) := by decide +kernel
theorem dX9_needs_59 : decode cX9_needs 59 = .ok (.iload_n 3, 1) := by decide +kernel
theorem dX9_needs_60 : decode cX9_needs 60 = .ok (.ireturn, 1) := by decide +kernel
theorem dX9_triesParts_0 : decode cX9_triesParts 0 = .ok (.aload_n 0, 1) := by decide +kernel
theorem dX9_triesParts_1 : decode cX9_triesParts 1 = .ok (.getfield 7, 3) := by decide +kernel
theorem dX9_triesParts_4 : decode cX9_triesParts 4 = .ok (.iconst 0, 1) := by decide +kernel
theorem dX9_triesParts_5 : decode cX9_triesParts 5 = .ok (.iload_n 1, 1) := by decide +kernel
theorem dX9_triesParts_6 : decode cX9_triesParts 6 = .ok (.iastore, 1) := by decide +kernel
theorem dX9_triesParts_7 : decode cX9_triesParts 7 = .ok (.aload_n 0, 1) := by decide +kernel
theorem dX9_triesParts_8 : decode cX9_triesParts 8 = .ok (.getfield 7, 3) := by decide +kernel
theorem dX9_triesParts_11 : decode cX9_triesParts 11 = .ok (.iconst 1, 1) := by decide +kernel
theorem dX9_triesParts_12 : decode cX9_triesParts 12 = .ok (.iload_n 2, 1) := by decide +kernel
theorem dX9_triesParts_13 : decode cX9_triesParts 13 = .ok (.iastore, 1) := by decide +kernel
theorem dX9_triesParts_14 : decode cX9_triesParts 14 = .ok (.aload_n 0, 1) := by decide +kernel
theorem dX9_triesParts_15 : decode cX9_triesParts 15 = .ok (.getfield 7, 3) := by decide +kernel
theorem dX9_triesParts_18 : decode cX9_triesParts 18 = .ok (.iconst 2, 1) := by decide +kernel
theorem dX9_triesParts_19 : decode cX9_triesParts 19 = .ok (.iload_n 3, 1) := by decide +kernel
theorem dX9_triesParts_20 : decode cX9_triesParts 20 = .ok (.iastore, 1) := by decide +kernel
theorem dX9_triesParts_21 : decode cX9_triesParts 21 = .ok (.aload_n 0, 1) := by decide +kernel
theorem dX9_triesParts_22 : decode cX9_triesParts 22 = .ok (.invokevirtual 260, 3) := by decide +kernel
theorem dX9_triesParts_25 : decode cX9_triesParts 25 = .ok (.istore 4, 2) := by decide +kernel
theorem dX9_triesParts_27 : decode cX9_triesParts 27 = .ok (.iload 4, 2) := by decide +kernel
theorem dX9_triesParts_29 : decode cX9_triesParts 29 = .ok (.aload_n 0, 1) := by decide +kernel
theorem dX9_triesParts_30 : decode cX9_triesParts 30 = .ok (.getfield 269, 3) := by decide +kernel
theorem dX9_triesParts_33 : decode cX9_triesParts 33 = .ok (.if_icmp .ge 30, 3) := by decide +kernel
theorem dX9_triesParts_36 : decode cX9_triesParts 36 = .ok (.aload_n 0, 1) := by decide +kernel
theorem dX9_triesParts_37 : decode cX9_triesParts 37 = .ok (.iload 4, 2) := by decide +kernel
theorem dX9_triesParts_39 : decode cX9_triesParts 39 = .ok (.putfield 269, 3) := by decide +kernel
theorem dX9_triesParts_42 : decode cX9_triesParts 42 = .ok (.aload_n 0, 1) := by decide +kernel
theorem dX9_triesParts_43 : decode cX9_triesParts 43 = .ok (.getfield 67, 3) := by decide +kernel
theorem dX9_triesParts_46 : decode cX9_triesParts 46 = .ok (.iconst 0, 1) := by decide +kernel
theorem dX9_triesParts_47 : decode cX9_triesParts 47 = .ok (.iload_n 1, 1) := by decide +kernel
theorem dX9_triesParts_48 : decode cX9_triesParts 48 = .ok (.iastore, 1) := by decide +kernel
theorem dX9_triesParts_49 : decode cX9_triesParts 49 = .ok (.aload_n 0, 1) := by decide +kernel
theorem dX9_triesParts_50 : decode cX9_triesParts 50 = .ok (.getfield 67, 3) := by decide +kernel
theorem dX9_triesParts_53 : decode cX9_triesParts 53 = .ok (.iconst 1, 1) := by decide +kernel
theorem dX9_triesParts_54 : decode cX9_triesParts 54 = .ok (.iload_n 2, 1) := by decide +kernel
theorem dX9_triesParts_55 : decode cX9_triesParts 55 = .ok (.iastore, 1) := by decide +kernel
theorem dX9_triesParts_56 : decode cX9_triesParts 56 = .ok (.aload_n 0, 1) := by decide +kernel
theorem dX9_triesParts_57 : decode cX9_triesParts 57 = .ok (.getfield 67, 3) := by decide +kernel
theorem dX9_triesParts_60 : decode cX9_triesParts 60 = .ok (.iconst 2, 1) := by decide +kernel
theorem dX9_triesParts_61 : decode cX9_triesParts 61 = .ok (.iload_n 3, 1) := by decide +kernel
theorem dX9_triesParts_62 : decode cX9_triesParts 62 = .ok (.iastore, 1) := by decide +kernel
theorem dX9_triesParts_63 : decode cX9_triesParts 63 = .ok (.return_, 1) := by decide +kernel
theorem dX9_parts_0 : decode cX9_parts 0 = .ok (.iconst 0, 1) := by decide +kernel
theorem dX9_parts_1 : decode cX9_parts 1 = .ok (.istore_n 1, 1) := by decide +kernel
theorem dX9_parts_2 : decode cX9_parts 2 = .ok (.iconst 0, 1) := by decide +kernel
theorem dX9_parts_3 : decode cX9_parts 3 = .ok (.istore_n 2, 1) := by decide +kernel
theorem dX9_parts_4 : decode cX9_parts 4 = .ok (.iload_n 2, 1) := by decide +kernel
theorem dX9_parts_5 : decode cX9_parts 5 = .ok (.aload_n 0, 1) := by decide +kernel
theorem dX9_parts_6 : decode cX9_parts 6 = .ok (.getfield 111, 3) := by decide +kernel
theorem dX9_parts_9 : decode cX9_parts 9 = .ok (.if_icmp .ge 18, 3) := by decide +kernel
theorem dX9_parts_12 : decode cX9_parts 12 = .ok (.iload_n 1, 1) := by decide +kernel
theorem dX9_parts_13 : decode cX9_parts 13 = .ok (.aload_n 0, 1) := by decide +kernel
theorem dX9_parts_14 : decode cX9_parts 14 = .ok (.getfield 7, 3) := by decide +kernel
theorem dX9_parts_17 : decode cX9_parts 17 = .ok (.iload_n 2, 1) := by decide +kernel
theorem dX9_parts_18 : decode cX9_parts 18 = .ok (.iaload, 1) := by decide +kernel
theorem dX9_parts_19 : decode cX9_parts 19 = .ok (.iadd, 1) := by decide +kernel
theorem dX9_parts_20 : decode cX9_parts 20 = .ok (.istore_n 1, 1) := by decide +kernel
theorem dX9_parts_21 : decode cX9_parts 21 = .ok (.iinc 2 1, 3) := by decide +kernel
theorem dX9_parts_24 : decode cX9_parts 24 = .ok (.goto (-20), 3) := by decide +kernel
theorem dX9_parts_27 : decode cX9_parts 27 = .ok (.aload_n 0, 1) := by decide +kernel
theorem dX9_parts_28 : decode cX9_parts 28 = .ok (.invokevirtual 240, 3) := by decide +kernel
theorem dX9_parts_31 : decode cX9_parts 31 = .ok (.aload_n 0, 1) := by decide +kernel
theorem dX9_parts_32 : decode cX9_parts 32 = .ok (.bipush 99, 2) := by decide +kernel
theorem dX9_parts_34 : decode cX9_parts 34 = .ok (.putfield 269, 3) := by decide +kernel
theorem dX9_parts_37 : decode cX9_parts 37 = .ok (.iconst 0, 1) := by decide +kernel
theorem dX9_parts_38 : decode cX9_parts 38 = .ok (.istore_n 2, 1) := by decide +kernel
theorem dX9_parts_39 : decode cX9_parts 39 = .ok (.iload_n 2, 1) := by decide +kernel
theorem dX9_parts_40 : decode cX9_parts 40 = .ok (.bipush 9, 2) := by decide +kernel
theorem dX9_parts_42 : decode cX9_parts 42 = .ok (.if_icmp .gt 83, 3) := by decide +kernel
theorem dX9_parts_45 : decode cX9_parts 45 = .ok (.iconst 0, 1) := by decide +kernel
theorem dX9_parts_46 : decode cX9_parts 46 = .ok (.istore_n 3, 1) := by decide +kernel
theorem dX9_parts_47 : decode cX9_parts 47 = .ok (.iload_n 3, 1) := by decide +kernel
theorem dX9_parts_48 : decode cX9_parts 48 = .ok (.bipush 9, 2) := by decide +kernel
theorem dX9_parts_50 : decode cX9_parts 50 = .ok (.if_icmp .gt 69, 3) := by decide +kernel
theorem dX9_parts_53 : decode cX9_parts 53 = .ok (.iload_n 1, 1) := by decide +kernel
theorem dX9_parts_54 : decode cX9_parts 54 = .ok (.iload_n 2, 1) := by decide +kernel
theorem dX9_parts_55 : decode cX9_parts 55 = .ok (.isub, 1) := by decide +kernel
theorem dX9_parts_56 : decode cX9_parts 56 = .ok (.iload_n 3, 1) := by decide +kernel
theorem dX9_parts_57 : decode cX9_parts 57 = .ok (.isub, 1) := by decide +kernel
theorem dX9_parts_58 : decode cX9_parts 58 = .ok (.istore 4, 2) := by decide +kernel
theorem dX9_parts_60 : decode cX9_parts 60 = .ok (.iload 4, 2) := by decide +kernel
theorem dX9_parts_62 : decode cX9_parts 62 = .ok (.invokestatic 198, 3) := by decide +kernel
theorem dX9_parts_65 : decode cX9_parts 65 = .ok (.ifCond .eq 32, 3) := by decide +kernel
theorem dX9_parts_68 : decode cX9_parts 68 = .ok (.aload_n 0, 1) := by decide +kernel
theorem dX9_parts_69 : decode cX9_parts 69 = .ok (.getfield 111, 3) := by decide +kernel
theorem dX9_parts_72 : decode cX9_parts 72 = .ok (.iconst 1, 1) := by decide +kernel
theorem dX9_parts_73 : decode cX9_parts 73 = .ok (.if_icmp .gt 7, 3) := by decide +kernel
theorem dX9_parts_76 : decode cX9_parts 76 = .ok (.iload_n 3, 1) := by decide +kernel
theorem dX9_parts_77 : decode cX9_parts 77 = .ok (.ifCond .ne 20, 3) := by decide +kernel
theorem dX9_parts_80 : decode cX9_parts 80 = .ok (.aload_n 0, 1) := by decide +kernel
theorem dX9_parts_81 : decode cX9_parts 81 = .ok (.getfield 111, 3) := by decide +kernel
theorem dX9_parts_84 : decode cX9_parts 84 = .ok (.iconst 2, 1) := by decide +kernel
theorem dX9_parts_85 : decode cX9_parts 85 = .ok (.if_icmp .gt 8, 3) := by decide +kernel
theorem dX9_parts_88 : decode cX9_parts 88 = .ok (.iload 4, 2) := by decide +kernel
theorem dX9_parts_90 : decode cX9_parts 90 = .ok (.ifCond .ne 7, 3) := by decide +kernel
theorem dX9_parts_93 : decode cX9_parts 93 = .ok (.iconst 1, 1) := by decide +kernel
theorem dX9_parts_94 : decode cX9_parts 94 = .ok (.goto 4, 3) := by decide +kernel
theorem dX9_parts_97 : decode cX9_parts 97 = .ok (.iconst 0, 1) := by decide +kernel
theorem dX9_parts_98 : decode cX9_parts 98 = .ok (.istore 5, 2) := by decide +kernel
theorem dX9_parts_100 : decode cX9_parts 100 = .ok (.iload 5, 2) := by decide +kernel
theorem dX9_parts_102 : decode cX9_parts 102 = .ok (.ifCond .eq 11, 3) := by decide +kernel
theorem dX9_parts_105 : decode cX9_parts 105 = .ok (.aload_n 0, 1) := by decide +kernel
theorem dX9_parts_106 : decode cX9_parts 106 = .ok (.iload_n 2, 1) := by decide +kernel
theorem dX9_parts_107 : decode cX9_parts 107 = .ok (.iload_n 3, 1) := by decide +kernel
theorem dX9_parts_108 : decode cX9_parts 108 = .ok (.iload 4, 2) := by decide +kernel
theorem dX9_parts_110 : decode cX9_parts 110 = .ok (.invokevirtual 272, 3) := by decide +kernel
theorem dX9_parts_113 : decode cX9_parts 113 = .ok (.iinc 3 1, 3) := by decide +kernel
theorem dX9_parts_116 : decode cX9_parts 116 = .ok (.goto (-69), 3) := by decide +kernel
theorem dX9_parts_119 : decode cX9_parts 119 = .ok (.iinc 2 1, 3) := by decide +kernel
theorem dX9_parts_122 : decode cX9_parts 122 = .ok (.goto (-83), 3) := by decide +kernel
theorem dX9_parts_125 : decode cX9_parts 125 = .ok (.aload_n 0, 1) := by decide +kernel
theorem dX9_parts_126 : decode cX9_parts 126 = .ok (.invokevirtual 246, 3) := by decide +kernel
theorem dX9_parts_129 : decode cX9_parts 129 = .ok (.return_, 1) := by decide +kernel
theorem dX9_parted_0 : decode cX9_parted 0 = .ok (.iload_n 1, 1) := by decide +kernel
theorem dX9_parted_1 : decode cX9_parted 1 = .ok (.i2l, 1) := by decide +kernel
theorem dX9_parted_2 : decode cX9_parted 2 = .ok (.ldc2_w 276, 3) := by decide +kernel
theorem dX9_parted_5 : decode cX9_parted 5 = .ok (.ldc2_w 153, 3) := by decide +kernel
theorem dX9_parted_8 : decode cX9_parted 8 = .ok (.invokestatic 107, 3) := by decide +kernel
theorem dX9_parted_11 : decode cX9_parted 11 = .ok (.ifCond .ne 6, 3) := by decide +kernel
theorem dX9_parted_14 : decode cX9_parted 14 = .ok (.bipush (-2), 2) := by decide +kernel
theorem dX9_parted_16 : decode cX9_parted 16 = .ok (.ireturn, 1) := by decide +kernel
theorem dX9_parted_17 : decode cX9_parted 17 = .ok (.aload_n 0, 1) := by decide +kernel
theorem dX9_parted_18 : decode cX9_parted 18 = .ok (.getfield 104, 3) := by decide +kernel
theorem dX9_parted_21 : decode cX9_parted 21 = .ok (.ifCond .ne 6, 3) := by decide +kernel
theorem dX9_parted_24 : decode cX9_parted 24 = .ok (.bipush (-3), 2) := by decide +kernel
theorem dX9_parted_26 : decode cX9_parted 26 = .ok (.ireturn, 1) := by decide +kernel
theorem dX9_parted_27 : decode cX9_parted 27 = .ok (.aload_n 0, 1) := by decide +kernel
theorem dX9_parted_28 : decode cX9_parted 28 = .ok (.invokevirtual 278, 3) := by decide +kernel
theorem dX9_parted_31 : decode cX9_parted 31 = .ok (.iload_n 1, 1) := by decide +kernel
theorem dX9_parted_32 : decode cX9_parted 32 = .ok (.ifCond .ge 10, 3) := by decide +kernel
theorem dX9_parted_35 : decode cX9_parted 35 = .ok (.aload_n 0, 1) := by decide +kernel
theorem dX9_parted_36 : decode cX9_parted 36 = .ok (.getfield 269, 3) := by decide +kernel
theorem dX9_parted_39 : decode cX9_parted 39 = .ok (.goto 22, 3) := by decide +kernel
theorem dX9_parted_42 : decode cX9_parted 42 = .ok (.aload_n 0, 1) := by decide +kernel
theorem dX9_parted_43 : decode cX9_parted 43 = .ok (.iload_n 1, 1) := by decide +kernel
theorem dX9_parted_44 : decode cX9_parted 44 = .ok (.invokevirtual 189, 3) := by decide +kernel
theorem dX9_parted_47 : decode cX9_parted 47 = .ok (.ifCond .eq 8, 3) := by decide +kernel
theorem dX9_parted_50 : decode cX9_parted 50 = .ok (.bipush (-9), 2) := by decide +kernel
theorem dX9_parted_52 : decode cX9_parted 52 = .ok (.goto 9, 3) := by decide +kernel
theorem dX9_parted_55 : decode cX9_parted 55 = .ok (.aload_n 0, 1) := by decide +kernel
theorem dX9_parted_56 : decode cX9_parted 56 = .ok (.getfield 67, 3) := by decide +kernel
theorem dX9_parted_59 : decode cX9_parted 59 = .ok (.iload_n 1, 1) := by decide +kernel
theorem dX9_parted_60 : decode cX9_parted 60 = .ok (.iaload, 1) := by decide +kernel
theorem dX9_parted_61 : decode cX9_parted 61 = .ok (.ireturn, 1) := by decide +kernel
theorem dX9_stepsBy_0 : decode cX9_stepsBy 0 = .ok (.iload_n 1, 1) := by decide +kernel
theorem dX9_stepsBy_1 : decode cX9_stepsBy 1 = .ok (.istore_n 2, 1) := by decide +kernel
theorem dX9_stepsBy_2 : decode cX9_stepsBy 2 = .ok (.iconst 0, 1) := by decide +kernel
theorem dX9_stepsBy_3 : decode cX9_stepsBy 3 = .ok (.istore_n 3, 1) := by decide +kernel
theorem dX9_stepsBy_4 : decode cX9_stepsBy 4 = .ok (.iconst 1, 1) := by decide +kernel
theorem dX9_stepsBy_5 : decode cX9_stepsBy 5 = .ok (.istore 4, 2) := by decide +kernel
theorem dX9_stepsBy_7 : decode cX9_stepsBy 7 = .ok (.iconst 0, 1) := by decide +kernel
theorem dX9_stepsBy_8 : decode cX9_stepsBy 8 = .ok (.istore 5, 2) := by decide +kernel
theorem dX9_stepsBy_10 : decode cX9_stepsBy 10 = .ok (.iload 5, 2) := by decide +kernel
theorem dX9_stepsBy_12 : decode cX9_stepsBy 12 = .ok (.aload_n 0, 1) := by decide +kernel
theorem dX9_stepsBy_13 : decode cX9_stepsBy 13 = .ok (.getfield 104, 3) := by decide +kernel
theorem dX9_stepsBy_16 : decode cX9_stepsBy 16 = .ok (.if_icmp .ge 17, 3) := by decide +kernel
theorem dX9_stepsBy_19 : decode cX9_stepsBy 19 = .ok (.aload_n 0, 1) := by decide +kernel
theorem dX9_stepsBy_20 : decode cX9_stepsBy 20 = .ok (.getfield 70, 3) := by decide +kernel
theorem dX9_stepsBy_23 : decode cX9_stepsBy 23 = .ok (.iload 5, 2) := by decide +kernel
theorem dX9_stepsBy_25 : decode cX9_stepsBy 25 = .ok (.iconst 0, 1) := by decide +kernel
theorem dX9_stepsBy_26 : decode cX9_stepsBy 26 = .ok (.iastore, 1) := by decide +kernel
theorem dX9_stepsBy_27 : decode cX9_stepsBy 27 = .ok (.iinc 5 1, 3) := by decide +kernel
theorem dX9_stepsBy_30 : decode cX9_stepsBy 30 = .ok (.goto (-20), 3) := by decide +kernel
theorem dX9_stepsBy_33 : decode cX9_stepsBy 33 = .ok (.iconst 0, 1) := by decide +kernel
theorem dX9_stepsBy_34 : decode cX9_stepsBy 34 = .ok (.istore 5, 2) := by decide +kernel
theorem dX9_stepsBy_36 : decode cX9_stepsBy 36 = .ok (.iload 5, 2) := by decide +kernel
theorem dX9_stepsBy_38 : decode cX9_stepsBy 38 = .ok (.aload_n 0, 1) := by decide +kernel
theorem dX9_stepsBy_39 : decode cX9_stepsBy 39 = .ok (.getfield 104, 3) := by decide +kernel
theorem dX9_stepsBy_42 : decode cX9_stepsBy 42 = .ok (.if_icmp .ge 106, 3) := by decide +kernel
theorem dX9_stepsBy_45 : decode cX9_stepsBy 45 = .ok (.iload_n 2, 1) := by decide +kernel
theorem dX9_stepsBy_46 : decode cX9_stepsBy 46 = .ok (.aload_n 0, 1) := by decide +kernel
theorem dX9_stepsBy_47 : decode cX9_stepsBy 47 = .ok (.getfield 104, 3) := by decide +kernel
theorem dX9_stepsBy_50 : decode cX9_stepsBy 50 = .ok (.irem, 1) := by decide +kernel
theorem dX9_stepsBy_51 : decode cX9_stepsBy 51 = .ok (.istore 6, 2) := by decide +kernel
theorem dX9_stepsBy_53 : decode cX9_stepsBy 53 = .ok (.iload_n 2, 1) := by decide +kernel
theorem dX9_stepsBy_54 : decode cX9_stepsBy 54 = .ok (.aload_n 0, 1) := by decide +kernel
theorem dX9_stepsBy_55 : decode cX9_stepsBy 55 = .ok (.iload 5, 2) := by decide +kernel
theorem dX9_stepsBy_57 : decode cX9_stepsBy 57 = .ok (.invokevirtual 177, 3) := by decide +kernel
theorem dX9_stepsBy_60 : decode cX9_stepsBy 60 = .ok (.ifCond .eq 10, 3) := by decide +kernel
theorem dX9_stepsBy_63 : decode cX9_stepsBy 63 = .ok (.aload_n 0, 1) := by decide +kernel
theorem dX9_stepsBy_64 : decode cX9_stepsBy 64 = .ok (.getfield 104, 3) := by decide +kernel
theorem dX9_stepsBy_67 : decode cX9_stepsBy 67 = .ok (.goto 4, 3) := by decide +kernel
theorem dX9_stepsBy_70 : decode cX9_stepsBy 70 = .ok (.iconst 1, 1) := by decide +kernel
theorem dX9_stepsBy_71 : decode cX9_stepsBy 71 = .ok (.idiv, 1) := by decide +kernel
theorem dX9_stepsBy_72 : decode cX9_stepsBy 72 = .ok (.istore_n 2, 1) := by decide +kernel
theorem dX9_stepsBy_73 : decode cX9_stepsBy 73 = .ok (.aload_n 0, 1) := by decide +kernel
theorem dX9_stepsBy_74 : decode cX9_stepsBy 74 = .ok (.iload 5, 2) := by decide +kernel
theorem dX9_stepsBy_76 : decode cX9_stepsBy 76 = .ok (.invokevirtual 177, 3) := by decide +kernel
theorem dX9_stepsBy_79 : decode cX9_stepsBy 79 = .ok (.ifCond .eq 63, 3) := by decide +kernel
theorem dX9_stepsBy_82 : decode cX9_stepsBy 82 = .ok (.aload_n 0, 1) := by decide +kernel
theorem dX9_stepsBy_83 : decode cX9_stepsBy 83 = .ok (.iload 6, 2) := by decide +kernel
theorem dX9_stepsBy_85 : decode cX9_stepsBy 85 = .ok (.iload 5, 2) := by decide +kernel
theorem dX9_stepsBy_87 : decode cX9_stepsBy 87 = .ok (.invokevirtual 249, 3) := by decide +kernel
theorem dX9_stepsBy_90 : decode cX9_stepsBy 90 = .ok (.istore 7, 2) := by decide +kernel
theorem dX9_stepsBy_92 : decode cX9_stepsBy 92 = .ok (.aload_n 0, 1) := by decide +kernel
theorem dX9_stepsBy_93 : decode cX9_stepsBy 93 = .ok (.getfield 70, 3) := by decide +kernel
theorem dX9_stepsBy_96 : decode cX9_stepsBy 96 = .ok (.iload 6, 2) := by decide +kernel
theorem dX9_stepsBy_98 : decode cX9_stepsBy 98 = .ok (.dup2, 1) := by decide +kernel
theorem dX9_stepsBy_99 : decode cX9_stepsBy 99 = .ok (.iaload, 1) := by decide +kernel
theorem dX9_stepsBy_100 : decode cX9_stepsBy 100 = .ok (.iconst 1, 1) := by decide +kernel
theorem dX9_stepsBy_101 : decode cX9_stepsBy 101 = .ok (.iadd, 1) := by decide +kernel
theorem dX9_stepsBy_102 : decode cX9_stepsBy 102 = .ok (.iastore, 1) := by decide +kernel
theorem dX9_stepsBy_103 : decode cX9_stepsBy 103 = .ok (.iload 4, 2) := by decide +kernel
theorem dX9_stepsBy_105 : decode cX9_stepsBy 105 = .ok (.ifCond .eq 29, 3) := by decide +kernel
theorem dX9_stepsBy_108 : decode cX9_stepsBy 108 = .ok (.iload 7, 2) := by decide +kernel
theorem dX9_stepsBy_110 : decode cX9_stepsBy 110 = .ok (.ifCond .lt 24, 3) := by decide +kernel
theorem dX9_stepsBy_113 : decode cX9_stepsBy 113 = .ok (.aload_n 0, 1) := by decide +kernel
theorem dX9_stepsBy_114 : decode cX9_stepsBy 114 = .ok (.getfield 70, 3) := by decide +kernel
theorem dX9_stepsBy_117 : decode cX9_stepsBy 117 = .ok (.iload 6, 2) := by decide +kernel
theorem dX9_stepsBy_119 : decode cX9_stepsBy 119 = .ok (.iaload, 1) := by decide +kernel
theorem dX9_stepsBy_120 : decode cX9_stepsBy 120 = .ok (.aload_n 0, 1) := by decide +kernel
theorem dX9_stepsBy_121 : decode cX9_stepsBy 121 = .ok (.getfield 49, 3) := by decide +kernel
theorem dX9_stepsBy_124 : decode cX9_stepsBy 124 = .ok (.iload 6, 2) := by decide +kernel
theorem dX9_stepsBy_126 : decode cX9_stepsBy 126 = .ok (.iaload, 1) := by decide +kernel
theorem dX9_stepsBy_127 : decode cX9_stepsBy 127 = .ok (.if_icmp .ge 7, 3) := by decide +kernel
theorem dX9_stepsBy_130 : decode cX9_stepsBy 130 = .ok (.iconst 1, 1) := by decide +kernel
theorem dX9_stepsBy_131 : decode cX9_stepsBy 131 = .ok (.goto 4, 3) := by decide +kernel
theorem dX9_stepsBy_134 : decode cX9_stepsBy 134 = .ok (.iconst 0, 1) := by decide +kernel
theorem dX9_stepsBy_135 : decode cX9_stepsBy 135 = .ok (.istore 4, 2) := by decide +kernel
theorem dX9_stepsBy_137 : decode cX9_stepsBy 137 = .ok (.iload_n 3, 1) := by decide +kernel
theorem dX9_stepsBy_138 : decode cX9_stepsBy 138 = .ok (.iload 7, 2) := by decide +kernel
theorem dX9_stepsBy_140 : decode cX9_stepsBy 140 = .ok (.iadd, 1) := by decide +kernel
theorem dX9_stepsBy_141 : decode cX9_stepsBy 141 = .ok (.istore_n 3, 1) := by decide +kernel
theorem dX9_stepsBy_142 : decode cX9_stepsBy 142 = .ok (.iinc 5 1, 3) := by decide +kernel
theorem dX9_stepsBy_145 : decode cX9_stepsBy 145 = .ok (.goto (-109), 3) := by decide +kernel
theorem dX9_stepsBy_148 : decode cX9_stepsBy 148 = .ok (.iload 4, 2) := by decide +kernel
theorem dX9_stepsBy_150 : decode cX9_stepsBy 150 = .ok (.ifCond .eq 7, 3) := by decide +kernel
theorem dX9_stepsBy_153 : decode cX9_stepsBy 153 = .ok (.iload_n 3, 1) := by decide +kernel
theorem dX9_stepsBy_154 : decode cX9_stepsBy 154 = .ok (.goto 5, 3) := by decide +kernel
theorem dX9_stepsBy_157 : decode cX9_stepsBy 157 = .ok (.bipush (-9), 2) := by decide +kernel
theorem dX9_stepsBy_159 : decode cX9_stepsBy 159 = .ok (.ireturn, 1) := by decide +kernel
theorem dX9_given_0 : decode cX9_given 0 = .ok (.aload_n 0, 1) := by decide +kernel
theorem dX9_given_1 : decode cX9_given 1 = .ok (.getfield 104, 3) := by decide +kernel
theorem dX9_given_4 : decode cX9_given 4 = .ok (.ifCond .ne 6, 3) := by decide +kernel
theorem dX9_given_7 : decode cX9_given 7 = .ok (.bipush (-3), 2) := by decide +kernel
theorem dX9_given_9 : decode cX9_given 9 = .ok (.ireturn, 1) := by decide +kernel
theorem dX9_given_10 : decode cX9_given 10 = .ok (.aload_n 0, 1) := by decide +kernel
theorem dX9_given_11 : decode cX9_given 11 = .ok (.invokevirtual 183, 3) := by decide +kernel
theorem dX9_given_14 : decode cX9_given 14 = .ok (.iconst 1, 1) := by decide +kernel
theorem dX9_given_15 : decode cX9_given 15 = .ok (.istore_n 1, 1) := by decide +kernel
theorem dX9_given_16 : decode cX9_given 16 = .ok (.aload_n 0, 1) := by decide +kernel
theorem dX9_given_17 : decode cX9_given 17 = .ok (.invokevirtual 192, 3) := by decide +kernel
theorem dX9_given_20 : decode cX9_given 20 = .ok (.invokestatic 257, 3) := by decide +kernel
theorem dX9_given_23 : decode cX9_given 23 = .ok (.istore_n 2, 1) := by decide +kernel
theorem dX9_given_24 : decode cX9_given 24 = .ok (.iload_n 2, 1) := by decide +kernel
theorem dX9_given_25 : decode cX9_given 25 = .ok (.ifCond .le 16, 3) := by decide +kernel
theorem dX9_given_28 : decode cX9_given 28 = .ok (.iload_n 1, 1) := by decide +kernel
theorem dX9_given_29 : decode cX9_given 29 = .ok (.aload_n 0, 1) := by decide +kernel
theorem dX9_given_30 : decode cX9_given 30 = .ok (.getfield 104, 3) := by decide +kernel
theorem dX9_given_33 : decode cX9_given 33 = .ok (.imul, 1) := by decide +kernel
theorem dX9_given_34 : decode cX9_given 34 = .ok (.istore_n 1, 1) := by decide +kernel
theorem dX9_given_35 : decode cX9_given 35 = .ok (.iinc 2 (-1), 3) := by decide +kernel
theorem dX9_given_38 : decode cX9_given 38 = .ok (.goto (-14), 3) := by decide +kernel
theorem dX9_given_41 : decode cX9_given 41 = .ok (.bipush (-9), 2) := by decide +kernel
theorem dX9_given_43 : decode cX9_given 43 = .ok (.istore_n 2, 1) := by decide +kernel
theorem dX9_given_44 : decode cX9_given 44 = .ok (.iconst 0, 1) := by decide +kernel
theorem dX9_given_45 : decode cX9_given 45 = .ok (.istore_n 3, 1) := by decide +kernel
theorem dX9_given_46 : decode cX9_given 46 = .ok (.iload_n 3, 1) := by decide +kernel
theorem dX9_given_47 : decode cX9_given 47 = .ok (.iload_n 1, 1) := by decide +kernel
theorem dX9_given_48 : decode cX9_given 48 = .ok (.if_icmp .ge 38, 3) := by decide +kernel
theorem dX9_given_51 : decode cX9_given 51 = .ok (.aload_n 0, 1) := by decide +kernel
theorem dX9_given_52 : decode cX9_given 52 = .ok (.iload_n 3, 1) := by decide +kernel
theorem dX9_given_53 : decode cX9_given 53 = .ok (.invokevirtual 281, 3) := by decide +kernel
theorem dX9_given_56 : decode cX9_given 56 = .ok (.istore 4, 2) := by decide +kernel
theorem dX9_given_58 : decode cX9_given 58 = .ok (.iload 4, 2) := by decide +kernel
theorem dX9_given_60 : decode cX9_given 60 = .ok (.ifCond .lt 18, 3) := by decide +kernel
theorem dX9_given_63 : decode cX9_given 63 = .ok (.iload_n 2, 1) := by decide +kernel
theorem dX9_given_64 : decode cX9_given 64 = .ok (.ifCond .lt 9, 3) := by decide +kernel
theorem dX9_given_67 : decode cX9_given 67 = .ok (.iload 4, 2) := by decide +kernel
theorem dX9_given_69 : decode cX9_given 69 = .ok (.iload_n 2, 1) := by decide +kernel
theorem dX9_given_70 : decode cX9_given 70 = .ok (.if_icmp .ge 8, 3) := by decide +kernel
theorem dX9_given_73 : decode cX9_given 73 = .ok (.iload 4, 2) := by decide +kernel
theorem dX9_given_75 : decode cX9_given 75 = .ok (.goto 4, 3) := by decide +kernel
theorem dX9_given_78 : decode cX9_given 78 = .ok (.iload_n 2, 1) := by decide +kernel
theorem dX9_given_79 : decode cX9_given 79 = .ok (.istore_n 2, 1) := by decide +kernel
theorem dX9_given_80 : decode cX9_given 80 = .ok (.iinc 3 1, 3) := by decide +kernel
theorem dX9_given_83 : decode cX9_given 83 = .ok (.goto (-37), 3) := by decide +kernel
theorem dX9_given_86 : decode cX9_given 86 = .ok (.iload_n 2, 1) := by decide +kernel
theorem dX9_given_87 : decode cX9_given 87 = .ok (.ireturn, 1) := by decide +kernel
theorem dX9_wintersOn_0 : decode cX9_wintersOn 0 = .ok (.aload_n 0, 1) := by decide +kernel
theorem dX9_wintersOn_1 : decode cX9_wintersOn 1 = .ok (.invokevirtual 183, 3) := by decide +kernel
theorem dX9_wintersOn_4 : decode cX9_wintersOn 4 = .ok (.iconst 0, 1) := by decide +kernel
theorem dX9_wintersOn_5 : decode cX9_wintersOn 5 = .ok (.istore_n 1, 1) := by decide +kernel
theorem dX9_wintersOn_6 : decode cX9_wintersOn 6 = .ok (.iload_n 1, 1) := by decide +kernel
theorem dX9_wintersOn_7 : decode cX9_wintersOn 7 = .ok (.aload_n 0, 1) := by decide +kernel
theorem dX9_wintersOn_8 : decode cX9_wintersOn 8 = .ok (.getfield 104, 3) := by decide +kernel
theorem dX9_wintersOn_11 : decode cX9_wintersOn 11 = .ok (.if_icmp .ge 93, 3) := by decide +kernel
theorem dX9_wintersOn_14 : decode cX9_wintersOn 14 = .ok (.aload_n 0, 1) := by decide +kernel
theorem dX9_wintersOn_15 : decode cX9_wintersOn 15 = .ok (.getfield 16, 3) := by decide +kernel
theorem dX9_wintersOn_18 : decode cX9_wintersOn 18 = .ok (.iload_n 1, 1) := by decide +kernel
theorem dX9_wintersOn_19 : decode cX9_wintersOn 19 = .ok (.iaload, 1) := by decide +kernel
theorem dX9_wintersOn_20 : decode cX9_wintersOn 20 = .ok (.ifCond .le 25, 3) := by decide +kernel
theorem dX9_wintersOn_23 : decode cX9_wintersOn 23 = .ok (.aload_n 0, 1) := by decide +kernel
theorem dX9_wintersOn_24 : decode cX9_wintersOn 24 = .ok (.getfield 49, 3) := by decide +kernel
theorem dX9_wintersOn_27 : decode cX9_wintersOn 27 = .ok (.iload_n 1, 1) := by decide +kernel
theorem dX9_wintersOn_28 : decode cX9_wintersOn 28 = .ok (.iaload, 1) := by decide +kernel
theorem dX9_wintersOn_29 : decode cX9_wintersOn 29 = .ok (.ifCond .le 16, 3) := by decide +kernel
theorem dX9_wintersOn_32 : decode cX9_wintersOn 32 = .ok (.aload_n 0, 1) := by decide +kernel
theorem dX9_wintersOn_33 : decode cX9_wintersOn 33 = .ok (.getfield 19, 3) := by decide +kernel
theorem dX9_wintersOn_36 : decode cX9_wintersOn 36 = .ok (.iload_n 1, 1) := by decide +kernel
theorem dX9_wintersOn_37 : decode cX9_wintersOn 37 = .ok (.iaload, 1) := by decide +kernel
theorem dX9_wintersOn_38 : decode cX9_wintersOn 38 = .ok (.ifCond .le 7, 3) := by decide +kernel
theorem dX9_wintersOn_41 : decode cX9_wintersOn 41 = .ok (.iconst 1, 1) := by decide +kernel
theorem dX9_wintersOn_42 : decode cX9_wintersOn 42 = .ok (.goto 4, 3) := by decide +kernel
theorem dX9_wintersOn_45 : decode cX9_wintersOn 45 = .ok (.iconst 0, 1) := by decide +kernel
theorem dX9_wintersOn_46 : decode cX9_wintersOn 46 = .ok (.istore_n 2, 1) := by decide +kernel
theorem dX9_wintersOn_47 : decode cX9_wintersOn 47 = .ok (.aload_n 0, 1) := by decide +kernel
theorem dX9_wintersOn_48 : decode cX9_wintersOn 48 = .ok (.iload_n 1, 1) := by decide +kernel
theorem dX9_wintersOn_49 : decode cX9_wintersOn 49 = .ok (.invokevirtual 177, 3) := by decide +kernel
theorem dX9_wintersOn_52 : decode cX9_wintersOn 52 = .ok (.ifCond .eq 18, 3) := by decide +kernel
theorem dX9_wintersOn_55 : decode cX9_wintersOn 55 = .ok (.aload_n 0, 1) := by decide +kernel
theorem dX9_wintersOn_56 : decode cX9_wintersOn 56 = .ok (.getfield 19, 3) := by decide +kernel
theorem dX9_wintersOn_59 : decode cX9_wintersOn 59 = .ok (.iload_n 1, 1) := by decide +kernel
theorem dX9_wintersOn_60 : decode cX9_wintersOn 60 = .ok (.iaload, 1) := by decide +kernel
theorem dX9_wintersOn_61 : decode cX9_wintersOn 61 = .ok (.bipush 9, 2) := by decide +kernel
theorem dX9_wintersOn_63 : decode cX9_wintersOn 63 = .ok (.if_icmp .ge 7, 3) := by decide +kernel
theorem dX9_wintersOn_66 : decode cX9_wintersOn 66 = .ok (.iconst 1, 1) := by decide +kernel
theorem dX9_wintersOn_67 : decode cX9_wintersOn 67 = .ok (.goto 4, 3) := by decide +kernel
theorem dX9_wintersOn_70 : decode cX9_wintersOn 70 = .ok (.iconst 0, 1) := by decide +kernel
theorem dX9_wintersOn_71 : decode cX9_wintersOn 71 = .ok (.istore_n 3, 1) := by decide +kernel
theorem dX9_wintersOn_72 : decode cX9_wintersOn 72 = .ok (.aload_n 0, 1) := by decide +kernel
theorem dX9_wintersOn_73 : decode cX9_wintersOn 73 = .ok (.getfield 19, 3) := by decide +kernel
theorem dX9_wintersOn_76 : decode cX9_wintersOn 76 = .ok (.iload_n 1, 1) := by decide +kernel
theorem dX9_wintersOn_77 : decode cX9_wintersOn 77 = .ok (.dup2, 1) := by decide +kernel
theorem dX9_wintersOn_78 : decode cX9_wintersOn 78 = .ok (.iaload, 1) := by decide +kernel
theorem dX9_wintersOn_79 : decode cX9_wintersOn 79 = .ok (.iload_n 3, 1) := by decide +kernel
theorem dX9_wintersOn_80 : decode cX9_wintersOn 80 = .ok (.ifCond .eq 7, 3) := by decide +kernel
theorem dX9_wintersOn_83 : decode cX9_wintersOn 83 = .ok (.iconst 1, 1) := by decide +kernel
theorem dX9_wintersOn_84 : decode cX9_wintersOn 84 = .ok (.goto 12, 3) := by decide +kernel
theorem dX9_wintersOn_87 : decode cX9_wintersOn 87 = .ok (.iload_n 2, 1) := by decide +kernel
theorem dX9_wintersOn_88 : decode cX9_wintersOn 88 = .ok (.ifCond .eq 7, 3) := by decide +kernel
theorem dX9_wintersOn_91 : decode cX9_wintersOn 91 = .ok (.iconst (-1), 1) := by decide +kernel
theorem dX9_wintersOn_92 : decode cX9_wintersOn 92 = .ok (.goto 4, 3) := by decide +kernel
theorem dX9_wintersOn_95 : decode cX9_wintersOn 95 = .ok (.iconst 0, 1) := by decide +kernel
theorem dX9_wintersOn_96 : decode cX9_wintersOn 96 = .ok (.iadd, 1) := by decide +kernel
theorem dX9_wintersOn_97 : decode cX9_wintersOn 97 = .ok (.iastore, 1) := by decide +kernel
theorem dX9_wintersOn_98 : decode cX9_wintersOn 98 = .ok (.iinc 1 1, 3) := by decide +kernel
theorem dX9_wintersOn_101 : decode cX9_wintersOn 101 = .ok (.goto (-95), 3) := by decide +kernel
theorem dX9_wintersOn_104 : decode cX9_wintersOn 104 = .ok (.return_, 1) := by decide +kernel
theorem dX9_showsAsNumber_0 : decode cX9_showsAsNumber 0 = .ok (.iconst 0, 1) := by decide +kernel
theorem dX9_showsAsNumber_1 : decode cX9_showsAsNumber 1 = .ok (.istore_n 1, 1) := by decide +kernel
theorem dX9_showsAsNumber_2 : decode cX9_showsAsNumber 2 = .ok (.iconst 0, 1) := by decide +kernel
theorem dX9_showsAsNumber_3 : decode cX9_showsAsNumber 3 = .ok (.istore_n 2, 1) := by decide +kernel
theorem dX9_showsAsNumber_4 : decode cX9_showsAsNumber 4 = .ok (.iload_n 2, 1) := by decide +kernel
theorem dX9_showsAsNumber_5 : decode cX9_showsAsNumber 5 = .ok (.aload_n 0, 1) := by decide +kernel
theorem dX9_showsAsNumber_6 : decode cX9_showsAsNumber 6 = .ok (.getfield 104, 3) := by decide +kernel
theorem dX9_showsAsNumber_9 : decode cX9_showsAsNumber 9 = .ok (.if_icmp .ge 21, 3) := by decide +kernel
theorem dX9_showsAsNumber_12 : decode cX9_showsAsNumber 12 = .ok (.bipush 10, 2) := by decide +kernel
theorem dX9_showsAsNumber_14 : decode cX9_showsAsNumber 14 = .ok (.iload_n 1, 1) := by decide +kernel
theorem dX9_showsAsNumber_15 : decode cX9_showsAsNumber 15 = .ok (.imul, 1) := by decide +kernel
theorem dX9_showsAsNumber_16 : decode cX9_showsAsNumber 16 = .ok (.aload_n 0, 1) := by decide +kernel
theorem dX9_showsAsNumber_17 : decode cX9_showsAsNumber 17 = .ok (.getfield 19, 3) := by decide +kernel
theorem dX9_showsAsNumber_20 : decode cX9_showsAsNumber 20 = .ok (.iload_n 2, 1) := by decide +kernel
theorem dX9_showsAsNumber_21 : decode cX9_showsAsNumber 21 = .ok (.iaload, 1) := by decide +kernel
theorem dX9_showsAsNumber_22 : decode cX9_showsAsNumber 22 = .ok (.iadd, 1) := by decide +kernel
theorem dX9_showsAsNumber_23 : decode cX9_showsAsNumber 23 = .ok (.istore_n 1, 1) := by decide +kernel
theorem dX9_showsAsNumber_24 : decode cX9_showsAsNumber 24 = .ok (.iinc 2 1, 3) := by decide +kernel
theorem dX9_showsAsNumber_27 : decode cX9_showsAsNumber 27 = .ok (.goto (-23), 3) := by decide +kernel
theorem dX9_showsAsNumber_30 : decode cX9_showsAsNumber 30 = .ok (.iload_n 1, 1) := by decide +kernel
theorem dX9_showsAsNumber_31 : decode cX9_showsAsNumber 31 = .ok (.ireturn, 1) := by decide +kernel
theorem dX9_metBefore_0 : decode cX9_metBefore 0 = .ok (.bipush (-9), 2) := by decide +kernel
theorem dX9_metBefore_2 : decode cX9_metBefore 2 = .ok (.istore_n 3, 1) := by decide +kernel
theorem dX9_metBefore_3 : decode cX9_metBefore 3 = .ok (.iload_n 2, 1) := by decide +kernel
theorem dX9_metBefore_4 : decode cX9_metBefore 4 = .ok (.iconst 1, 1) := by decide +kernel
theorem dX9_metBefore_5 : decode cX9_metBefore 5 = .ok (.isub, 1) := by decide +kernel
theorem dX9_metBefore_6 : decode cX9_metBefore 6 = .ok (.istore 4, 2) := by decide +kernel
theorem dX9_metBefore_8 : decode cX9_metBefore 8 = .ok (.iload 4, 2) := by decide +kernel
theorem dX9_metBefore_10 : decode cX9_metBefore 10 = .ok (.ifCond .lt 27, 3) := by decide +kernel
theorem dX9_metBefore_13 : decode cX9_metBefore 13 = .ok (.aload_n 0, 1) := by decide +kernel
theorem dX9_metBefore_14 : decode cX9_metBefore 14 = .ok (.getfield 73, 3) := by decide +kernel
theorem dX9_metBefore_17 : decode cX9_metBefore 17 = .ok (.iload 4, 2) := by decide +kernel
theorem dX9_metBefore_19 : decode cX9_metBefore 19 = .ok (.iaload, 1) := by decide +kernel
theorem dX9_metBefore_20 : decode cX9_metBefore 20 = .ok (.iload_n 1, 1) := by decide +kernel
theorem dX9_metBefore_21 : decode cX9_metBefore 21 = .ok (.if_icmp .ne 8, 3) := by decide +kernel
theorem dX9_metBefore_24 : decode cX9_metBefore 24 = .ok (.iload 4, 2) := by decide +kernel
theorem dX9_metBefore_26 : decode cX9_metBefore 26 = .ok (.goto 4, 3) := by decide +kernel
theorem dX9_metBefore_29 : decode cX9_metBefore 29 = .ok (.iload_n 3, 1) := by decide +kernel
theorem dX9_metBefore_30 : decode cX9_metBefore 30 = .ok (.istore_n 3, 1) := by decide +kernel
theorem dX9_metBefore_31 : decode cX9_metBefore 31 = .ok (.iinc 4 (-1), 3) := by decide +kernel
theorem dX9_metBefore_34 : decode cX9_metBefore 34 = .ok (.goto (-26), 3) := by decide +kernel
theorem dX9_metBefore_37 : decode cX9_metBefore 37 = .ok (.iload_n 3, 1) := by decide +kernel
theorem dX9_metBefore_38 : decode cX9_metBefore 38 = .ok (.ireturn, 1) := by decide +kernel
theorem dX9_settles_0 : decode cX9_settles 0 = .ok (.iload_n 1, 1) := by decide +kernel
theorem dX9_settles_1 : decode cX9_settles 1 = .ok (.i2l, 1) := by decide +kernel
theorem dX9_settles_2 : decode cX9_settles 2 = .ok (.lconst 0, 1) := by decide +kernel
theorem dX9_settles_3 : decode cX9_settles 3 = .ok (.lconst 1, 1) := by decide +kernel
theorem dX9_settles_4 : decode cX9_settles 4 = .ok (.invokestatic 107, 3) := by decide +kernel
theorem dX9_settles_7 : decode cX9_settles 7 = .ok (.ifCond .ne 6, 3) := by decide +kernel
theorem dX9_settles_10 : decode cX9_settles 10 = .ok (.bipush (-2), 2) := by decide +kernel
theorem dX9_settles_12 : decode cX9_settles 12 = .ok (.ireturn, 1) := by decide +kernel
theorem dX9_settles_13 : decode cX9_settles 13 = .ok (.aload_n 0, 1) := by decide +kernel
theorem dX9_settles_14 : decode cX9_settles 14 = .ok (.getfield 104, 3) := by decide +kernel
theorem dX9_settles_17 : decode cX9_settles 17 = .ok (.ifCond .ne 6, 3) := by decide +kernel
theorem dX9_settles_20 : decode cX9_settles 20 = .ok (.bipush (-3), 2) := by decide +kernel
theorem dX9_settles_22 : decode cX9_settles 22 = .ok (.ireturn, 1) := by decide +kernel
theorem dX9_settles_23 : decode cX9_settles 23 = .ok (.aload_n 0, 1) := by decide +kernel
theorem dX9_settles_24 : decode cX9_settles 24 = .ok (.invokevirtual 240, 3) := by decide +kernel
theorem dX9_settles_27 : decode cX9_settles 27 = .ok (.iconst 0, 1) := by decide +kernel
theorem dX9_settles_28 : decode cX9_settles 28 = .ok (.istore_n 2, 1) := by decide +kernel
theorem dX9_settles_29 : decode cX9_settles 29 = .ok (.bipush (-9), 2) := by decide +kernel
theorem dX9_settles_31 : decode cX9_settles 31 = .ok (.istore_n 3, 1) := by decide +kernel
theorem dX9_settles_32 : decode cX9_settles 32 = .ok (.iload_n 3, 1) := by decide +kernel
theorem dX9_settles_33 : decode cX9_settles 33 = .ok (.ifCond .ge 44, 3) := by decide +kernel
theorem dX9_settles_36 : decode cX9_settles 36 = .ok (.iload_n 2, 1) := by decide +kernel
theorem dX9_settles_37 : decode cX9_settles 37 = .ok (.sipush 300, 3) := by decide +kernel
theorem dX9_settles_40 : decode cX9_settles 40 = .ok (.if_icmp .gt 37, 3) := by decide +kernel
theorem dX9_settles_43 : decode cX9_settles 43 = .ok (.aload_n 0, 1) := by decide +kernel
theorem dX9_settles_44 : decode cX9_settles 44 = .ok (.aload_n 0, 1) := by decide +kernel
theorem dX9_settles_45 : decode cX9_settles 45 = .ok (.invokevirtual 284, 3) := by decide +kernel
theorem dX9_settles_48 : decode cX9_settles 48 = .ok (.iload_n 2, 1) := by decide +kernel
theorem dX9_settles_49 : decode cX9_settles 49 = .ok (.invokevirtual 287, 3) := by decide +kernel
theorem dX9_settles_52 : decode cX9_settles 52 = .ok (.istore_n 3, 1) := by decide +kernel
theorem dX9_settles_53 : decode cX9_settles 53 = .ok (.iload_n 3, 1) := by decide +kernel
theorem dX9_settles_54 : decode cX9_settles 54 = .ok (.ifCond .ge (-22), 3) := by decide +kernel
theorem dX9_settles_57 : decode cX9_settles 57 = .ok (.aload_n 0, 1) := by decide +kernel
theorem dX9_settles_58 : decode cX9_settles 58 = .ok (.getfield 73, 3) := by decide +kernel
theorem dX9_settles_61 : decode cX9_settles 61 = .ok (.iload_n 2, 1) := by decide +kernel
theorem dX9_settles_62 : decode cX9_settles 62 = .ok (.aload_n 0, 1) := by decide +kernel
theorem dX9_settles_63 : decode cX9_settles 63 = .ok (.invokevirtual 284, 3) := by decide +kernel
theorem dX9_settles_66 : decode cX9_settles 66 = .ok (.iastore, 1) := by decide +kernel
theorem dX9_settles_67 : decode cX9_settles 67 = .ok (.iinc 2 1, 3) := by decide +kernel
theorem dX9_settles_70 : decode cX9_settles 70 = .ok (.aload_n 0, 1) := by decide +kernel
theorem dX9_settles_71 : decode cX9_settles 71 = .ok (.invokevirtual 290, 3) := by decide +kernel
theorem dX9_settles_74 : decode cX9_settles 74 = .ok (.goto (-42), 3) := by decide +kernel
theorem dX9_settles_77 : decode cX9_settles 77 = .ok (.aload_n 0, 1) := by decide +kernel
theorem dX9_settles_78 : decode cX9_settles 78 = .ok (.invokevirtual 246, 3) := by decide +kernel
theorem dX9_settles_81 : decode cX9_settles 81 = .ok (.iload_n 3, 1) := by decide +kernel
theorem dX9_settles_82 : decode cX9_settles 82 = .ok (.ifCond .ge 8, 3) := by decide +kernel
theorem dX9_settles_85 : decode cX9_settles 85 = .ok (.bipush (-9), 2) := by decide +kernel
theorem dX9_settles_87 : decode cX9_settles 87 = .ok (.goto 14, 3) := by decide +kernel
theorem dX9_settles_90 : decode cX9_settles 90 = .ok (.iload_n 1, 1) := by decide +kernel
theorem dX9_settles_91 : decode cX9_settles 91 = .ok (.ifCond .ne 7, 3) := by decide +kernel
theorem dX9_settles_94 : decode cX9_settles 94 = .ok (.iload_n 3, 1) := by decide +kernel
theorem dX9_settles_95 : decode cX9_settles 95 = .ok (.goto 6, 3) := by decide +kernel
theorem dX9_settles_98 : decode cX9_settles 98 = .ok (.iload_n 2, 1) := by decide +kernel
theorem dX9_settles_99 : decode cX9_settles 99 = .ok (.iload_n 3, 1) := by decide +kernel
theorem dX9_settles_100 : decode cX9_settles 100 = .ok (.isub, 1) := by decide +kernel
theorem dX9_settles_101 : decode cX9_settles 101 = .ok (.ireturn, 1) := by decide +kernel
theorem dX9_more_0 : decode cX9_more 0 = .ok (.iload_n 1, 1) := by decide +kernel
theorem dX9_more_1 : decode cX9_more 1 = .ok (.i2l, 1) := by decide +kernel
theorem dX9_more_2 : decode cX9_more 2 = .ok (.lconst 1, 1) := by decide +kernel
theorem dX9_more_3 : decode cX9_more 3 = .ok (.ldc2_w 293, 3) := by decide +kernel
theorem dX9_more_6 : decode cX9_more 6 = .ok (.invokestatic 107, 3) := by decide +kernel
theorem dX9_more_9 : decode cX9_more 9 = .ok (.ifCond .ne 6, 3) := by decide +kernel
theorem dX9_more_12 : decode cX9_more 12 = .ok (.bipush (-2), 2) := by decide +kernel
theorem dX9_more_14 : decode cX9_more 14 = .ok (.ireturn, 1) := by decide +kernel
theorem dX9_more_15 : decode cX9_more 15 = .ok (.aload_n 0, 1) := by decide +kernel
theorem dX9_more_16 : decode cX9_more 16 = .ok (.getfield 104, 3) := by decide +kernel
theorem dX9_more_19 : decode cX9_more 19 = .ok (.ifCond .ne 6, 3) := by decide +kernel
theorem dX9_more_22 : decode cX9_more 22 = .ok (.bipush (-3), 2) := by decide +kernel
theorem dX9_more_24 : decode cX9_more 24 = .ok (.ireturn, 1) := by decide +kernel
theorem dX9_more_25 : decode cX9_more 25 = .ok (.iconst 0, 1) := by decide +kernel
theorem dX9_more_26 : decode cX9_more 26 = .ok (.istore_n 2, 1) := by decide +kernel
theorem dX9_more_27 : decode cX9_more 27 = .ok (.iload_n 2, 1) := by decide +kernel
theorem dX9_more_28 : decode cX9_more 28 = .ok (.iload_n 1, 1) := by decide +kernel
theorem dX9_more_29 : decode cX9_more 29 = .ok (.if_icmp .ge 13, 3) := by decide +kernel
theorem dX9_more_32 : decode cX9_more 32 = .ok (.aload_n 0, 1) := by decide +kernel
theorem dX9_more_33 : decode cX9_more 33 = .ok (.invokevirtual 290, 3) := by decide +kernel
theorem dX9_more_36 : decode cX9_more 36 = .ok (.iinc 2 1, 3) := by decide +kernel
theorem dX9_more_39 : decode cX9_more 39 = .ok (.goto (-12), 3) := by decide +kernel
theorem dX9_more_42 : decode cX9_more 42 = .ok (.aload_n 0, 1) := by decide +kernel
theorem dX9_more_43 : decode cX9_more 43 = .ok (.invokevirtual 260, 3) := by decide +kernel
theorem dX9_more_46 : decode cX9_more 46 = .ok (.ireturn, 1) := by decide +kernel
theorem dX9_reading_0 : decode cX9_reading 0 = .ok (.aload_n 0, 1) := by decide +kernel
theorem dX9_reading_1 : decode cX9_reading 1 = .ok (.iload_n 1, 1) := by decide +kernel
theorem dX9_reading_2 : decode cX9_reading 2 = .ok (.invokevirtual 180, 3) := by decide +kernel
theorem dX9_reading_5 : decode cX9_reading 5 = .ok (.ifCond .eq 5, 3) := by decide +kernel
theorem dX9_reading_8 : decode cX9_reading 8 = .ok (.iconst (-1), 1) := by decide +kernel
theorem dX9_reading_9 : decode cX9_reading 9 = .ok (.ireturn, 1) := by decide +kernel
theorem dX9_reading_10 : decode cX9_reading 10 = .ok (.iload_n 2, 1) := by decide +kernel
theorem dX9_reading_11 : decode cX9_reading 11 = .ok (.invokestatic 198, 3) := by decide +kernel
theorem dX9_reading_14 : decode cX9_reading 14 = .ok (.ifCond .ne 6, 3) := by decide +kernel
theorem dX9_reading_17 : decode cX9_reading 17 = .ok (.bipush (-2), 2) := by decide +kernel
theorem dX9_reading_19 : decode cX9_reading 19 = .ok (.ireturn, 1) := by decide +kernel
theorem dX9_reading_20 : decode cX9_reading 20 = .ok (.aload_n 0, 1) := by decide +kernel
theorem dX9_reading_21 : decode cX9_reading 21 = .ok (.getfield 168, 3) := by decide +kernel
theorem dX9_reading_24 : decode cX9_reading 24 = .ok (.bipush 8, 2) := by decide +kernel
theorem dX9_reading_26 : decode cX9_reading 26 = .ok (.if_icmp .ne 6, 3) := by decide +kernel
theorem dX9_reading_29 : decode cX9_reading 29 = .ok (.bipush (-4), 2) := by decide +kernel
theorem dX9_reading_31 : decode cX9_reading 31 = .ok (.ireturn, 1) := by decide +kernel
theorem dX9_reading_32 : decode cX9_reading 32 = .ok (.aload_n 0, 1) := by decide +kernel
theorem dX9_reading_33 : decode cX9_reading 33 = .ok (.getfield 76, 3) := by decide +kernel
theorem dX9_reading_36 : decode cX9_reading 36 = .ok (.aload_n 0, 1) := by decide +kernel
theorem dX9_reading_37 : decode cX9_reading 37 = .ok (.getfield 168, 3) := by decide +kernel
theorem dX9_reading_40 : decode cX9_reading 40 = .ok (.iload_n 1, 1) := by decide +kernel
theorem dX9_reading_41 : decode cX9_reading 41 = .ok (.iastore, 1) := by decide +kernel
theorem dX9_reading_42 : decode cX9_reading 42 = .ok (.aload_n 0, 1) := by decide +kernel
theorem dX9_reading_43 : decode cX9_reading 43 = .ok (.getfield 79, 3) := by decide +kernel
theorem dX9_reading_46 : decode cX9_reading 46 = .ok (.aload_n 0, 1) := by decide +kernel
theorem dX9_reading_47 : decode cX9_reading 47 = .ok (.getfield 168, 3) := by decide +kernel
theorem dX9_reading_50 : decode cX9_reading 50 = .ok (.iload_n 2, 1) := by decide +kernel
theorem dX9_reading_51 : decode cX9_reading 51 = .ok (.iastore, 1) := by decide +kernel
theorem dX9_reading_52 : decode cX9_reading 52 = .ok (.aload_n 0, 1) := by decide +kernel
theorem dX9_reading_53 : decode cX9_reading 53 = .ok (.dup, 1) := by decide +kernel
theorem dX9_reading_54 : decode cX9_reading 54 = .ok (.getfield 168, 3) := by decide +kernel
theorem dX9_reading_57 : decode cX9_reading 57 = .ok (.iconst 1, 1) := by decide +kernel
theorem dX9_reading_58 : decode cX9_reading 58 = .ok (.iadd, 1) := by decide +kernel
theorem dX9_reading_59 : decode cX9_reading 59 = .ok (.putfield 168, 3) := by decide +kernel
theorem dX9_reading_62 : decode cX9_reading 62 = .ok (.aload_n 0, 1) := by decide +kernel
theorem dX9_reading_63 : decode cX9_reading 63 = .ok (.getfield 168, 3) := by decide +kernel
theorem dX9_reading_66 : decode cX9_reading 66 = .ok (.iconst 1, 1) := by decide +kernel
theorem dX9_reading_67 : decode cX9_reading 67 = .ok (.isub, 1) := by decide +kernel
theorem dX9_reading_68 : decode cX9_reading 68 = .ok (.ireturn, 1) := by decide +kernel
theorem dX9_back_0 : decode cX9_back 0 = .ok (.iload_n 1, 1) := by decide +kernel
theorem dX9_back_1 : decode cX9_back 1 = .ok (.i2l, 1) := by decide +kernel
theorem dX9_back_2 : decode cX9_back 2 = .ok (.lconst 0, 1) := by decide +kernel
theorem dX9_back_3 : decode cX9_back 3 = .ok (.aload_n 0, 1) := by decide +kernel
theorem dX9_back_4 : decode cX9_back 4 = .ok (.getfield 168, 3) := by decide +kernel
theorem dX9_back_7 : decode cX9_back 7 = .ok (.i2l, 1) := by decide +kernel
theorem dX9_back_8 : decode cX9_back 8 = .ok (.invokestatic 107, 3) := by decide +kernel
theorem dX9_back_11 : decode cX9_back 11 = .ok (.ifCond .ne 6, 3) := by decide +kernel
theorem dX9_back_14 : decode cX9_back 14 = .ok (.bipush (-2), 2) := by decide +kernel
theorem dX9_back_16 : decode cX9_back 16 = .ok (.ireturn, 1) := by decide +kernel
theorem dX9_back_17 : decode cX9_back 17 = .ok (.aload_n 0, 1) := by decide +kernel
theorem dX9_back_18 : decode cX9_back 18 = .ok (.dup, 1) := by decide +kernel
theorem dX9_back_19 : decode cX9_back 19 = .ok (.getfield 168, 3) := by decide +kernel
theorem dX9_back_22 : decode cX9_back 22 = .ok (.iload_n 1, 1) := by decide +kernel
theorem dX9_back_23 : decode cX9_back 23 = .ok (.isub, 1) := by decide +kernel
theorem dX9_back_24 : decode cX9_back 24 = .ok (.putfield 168, 3) := by decide +kernel
theorem dX9_back_27 : decode cX9_back 27 = .ok (.aload_n 0, 1) := by decide +kernel
theorem dX9_back_28 : decode cX9_back 28 = .ok (.getfield 168, 3) := by decide +kernel
theorem dX9_back_31 : decode cX9_back 31 = .ok (.ireturn, 1) := by decide +kernel
theorem dX9_areSo_0 : decode cX9_areSo 0 = .ok (.aload_n 0, 1) := by decide +kernel
theorem dX9_areSo_1 : decode cX9_areSo 1 = .ok (.invokevirtual 183, 3) := by decide +kernel
theorem dX9_areSo_4 : decode cX9_areSo 4 = .ok (.iconst 1, 1) := by decide +kernel
theorem dX9_areSo_5 : decode cX9_areSo 5 = .ok (.istore_n 1, 1) := by decide +kernel
theorem dX9_areSo_6 : decode cX9_areSo 6 = .ok (.iconst 0, 1) := by decide +kernel
theorem dX9_areSo_7 : decode cX9_areSo 7 = .ok (.istore_n 2, 1) := by decide +kernel
theorem dX9_areSo_8 : decode cX9_areSo 8 = .ok (.iload_n 2, 1) := by decide +kernel
theorem dX9_areSo_9 : decode cX9_areSo 9 = .ok (.aload_n 0, 1) := by decide +kernel
theorem dX9_areSo_10 : decode cX9_areSo 10 = .ok (.getfield 168, 3) := by decide +kernel
theorem dX9_areSo_13 : decode cX9_areSo 13 = .ok (.if_icmp .ge 39, 3) := by decide +kernel
theorem dX9_areSo_16 : decode cX9_areSo 16 = .ok (.iload_n 1, 1) := by decide +kernel
theorem dX9_areSo_17 : decode cX9_areSo 17 = .ok (.ifCond .eq 27, 3) := by decide +kernel
theorem dX9_areSo_20 : decode cX9_areSo 20 = .ok (.aload_n 0, 1) := by decide +kernel
theorem dX9_areSo_21 : decode cX9_areSo 21 = .ok (.getfield 49, 3) := by decide +kernel
theorem dX9_areSo_24 : decode cX9_areSo 24 = .ok (.aload_n 0, 1) := by decide +kernel
theorem dX9_areSo_25 : decode cX9_areSo 25 = .ok (.getfield 76, 3) := by decide +kernel
theorem dX9_areSo_28 : decode cX9_areSo 28 = .ok (.iload_n 2, 1) := by decide +kernel
theorem dX9_areSo_29 : decode cX9_areSo 29 = .ok (.iaload, 1) := by decide +kernel
theorem dX9_areSo_30 : decode cX9_areSo 30 = .ok (.iaload, 1) := by decide +kernel
theorem dX9_areSo_31 : decode cX9_areSo 31 = .ok (.aload_n 0, 1) := by decide +kernel
theorem dX9_areSo_32 : decode cX9_areSo 32 = .ok (.getfield 79, 3) := by decide +kernel
theorem dX9_areSo_35 : decode cX9_areSo 35 = .ok (.iload_n 2, 1) := by decide +kernel
theorem dX9_areSo_36 : decode cX9_areSo 36 = .ok (.iaload, 1) := by decide +kernel
theorem dX9_areSo_37 : decode cX9_areSo 37 = .ok (.if_icmp .ne 7, 3) := by decide +kernel
theorem dX9_areSo_40 : decode cX9_areSo 40 = .ok (.iconst 1, 1) := by decide +kernel
theorem dX9_areSo_41 : decode cX9_areSo 41 = .ok (.goto 4, 3) := by decide +kernel
theorem dX9_areSo_44 : decode cX9_areSo 44 = .ok (.iconst 0, 1) := by decide +kernel
theorem dX9_areSo_45 : decode cX9_areSo 45 = .ok (.istore_n 1, 1) := by decide +kernel
theorem dX9_areSo_46 : decode cX9_areSo 46 = .ok (.iinc 2 1, 3) := by decide +kernel
theorem dX9_areSo_49 : decode cX9_areSo 49 = .ok (.goto (-41), 3) := by decide +kernel
theorem dX9_areSo_52 : decode cX9_areSo 52 = .ok (.iload_n 1, 1) := by decide +kernel
theorem dX9_areSo_53 : decode cX9_areSo 53 = .ok (.ireturn, 1) := by decide +kernel
theorem dX9_kinds_0 : decode cX9_kinds 0 = .ok (.aload_n 0, 1) := by decide +kernel
theorem dX9_kinds_1 : decode cX9_kinds 1 = .ok (.iload_n 1, 1) := by decide +kernel
theorem dX9_kinds_2 : decode cX9_kinds 2 = .ok (.invokevirtual 180, 3) := by decide +kernel
theorem dX9_kinds_5 : decode cX9_kinds 5 = .ok (.ifCond .eq 5, 3) := by decide +kernel
theorem dX9_kinds_8 : decode cX9_kinds 8 = .ok (.iconst (-1), 1) := by decide +kernel
theorem dX9_kinds_9 : decode cX9_kinds 9 = .ok (.ireturn, 1) := by decide +kernel
theorem dX9_kinds_10 : decode cX9_kinds 10 = .ok (.aload_n 0, 1) := by decide +kernel
theorem dX9_kinds_11 : decode cX9_kinds 11 = .ok (.getfield 13, 3) := by decide +kernel
theorem dX9_kinds_14 : decode cX9_kinds 14 = .ok (.iload_n 1, 1) := by decide +kernel
theorem dX9_kinds_15 : decode cX9_kinds 15 = .ok (.iaload, 1) := by decide +kernel
theorem dX9_kinds_16 : decode cX9_kinds 16 = .ok (.istore_n 2, 1) := by decide +kernel
theorem dX9_kinds_17 : decode cX9_kinds 17 = .ok (.iconst 0, 1) := by decide +kernel
theorem dX9_kinds_18 : decode cX9_kinds 18 = .ok (.istore_n 3, 1) := by decide +kernel
theorem dX9_kinds_19 : decode cX9_kinds 19 = .ok (.iconst 0, 1) := by decide +kernel
theorem dX9_kinds_20 : decode cX9_kinds 20 = .ok (.istore 4, 2) := by decide +kernel
theorem dX9_kinds_22 : decode cX9_kinds 22 = .ok (.iload 4, 2) := by decide +kernel
theorem dX9_kinds_24 : decode cX9_kinds 24 = .ok (.iconst 3, 1) := by decide +kernel
theorem dX9_kinds_25 : decode cX9_kinds 25 = .ok (.if_icmp .ge 35, 3) := by decide +kernel
theorem dX9_kinds_28 : decode cX9_kinds 28 = .ok (.aload_n 0, 1) := by decide +kernel
theorem dX9_kinds_29 : decode cX9_kinds 29 = .ok (.getfield 13, 3) := by decide +kernel
theorem dX9_kinds_32 : decode cX9_kinds 32 = .ok (.iload_n 1, 1) := by decide +kernel
theorem dX9_kinds_33 : decode cX9_kinds 33 = .ok (.iload 4, 2) := by decide +kernel
theorem dX9_kinds_35 : decode cX9_kinds 35 = .ok (.iastore, 1) := by decide +kernel
theorem dX9_kinds_36 : decode cX9_kinds 36 = .ok (.iload_n 3, 1) := by decide +kernel
theorem dX9_kinds_37 : decode cX9_kinds 37 = .ok (.aload_n 0, 1) := by decide +kernel
theorem dX9_kinds_38 : decode cX9_kinds 38 = .ok (.invokevirtual 295, 3) := by decide +kernel
theorem dX9_kinds_41 : decode cX9_kinds 41 = .ok (.ifCond .eq 10, 3) := by decide +kernel
theorem dX9_kinds_44 : decode cX9_kinds 44 = .ok (.iconst 1, 1) := by decide +kernel
theorem dX9_kinds_45 : decode cX9_kinds 45 = .ok (.iload 4, 2) := by decide +kernel
theorem dX9_kinds_47 : decode cX9_kinds 47 = .ok (.ishl, 1) := by decide +kernel
theorem dX9_kinds_48 : decode cX9_kinds 48 = .ok (.goto 4, 3) := by decide +kernel
theorem dX9_kinds_51 : decode cX9_kinds 51 = .ok (.iconst 0, 1) := by decide +kernel
theorem dX9_kinds_52 : decode cX9_kinds 52 = .ok (.ior, 1) := by decide +kernel
theorem dX9_kinds_53 : decode cX9_kinds 53 = .ok (.istore_n 3, 1) := by decide +kernel
theorem dX9_kinds_54 : decode cX9_kinds 54 = .ok (.iinc 4 1, 3) := by decide +kernel
theorem dX9_kinds_57 : decode cX9_kinds 57 = .ok (.goto (-35), 3) := by decide +kernel
theorem dX9_kinds_60 : decode cX9_kinds 60 = .ok (.aload_n 0, 1) := by decide +kernel
theorem dX9_kinds_61 : decode cX9_kinds 61 = .ok (.getfield 13, 3) := by decide +kernel
theorem dX9_kinds_64 : decode cX9_kinds 64 = .ok (.iload_n 1, 1) := by decide +kernel
theorem dX9_kinds_65 : decode cX9_kinds 65 = .ok (.iload_n 2, 1) := by decide +kernel
theorem dX9_kinds_66 : decode cX9_kinds 66 = .ok (.iastore, 1) := by decide +kernel
theorem dX9_kinds_67 : decode cX9_kinds 67 = .ok (.iload_n 3, 1) := by decide +kernel
theorem dX9_kinds_68 : decode cX9_kinds 68 = .ok (.ireturn, 1) := by decide +kernel
theorem dX9_shows_0 : decode cX9_shows 0 = .ok (.aload_n 0, 1) := by decide +kernel
theorem dX9_shows_1 : decode cX9_shows 1 = .ok (.iload_n 1, 1) := by decide +kernel
theorem dX9_shows_2 : decode cX9_shows 2 = .ok (.invokevirtual 180, 3) := by decide +kernel
theorem dX9_shows_5 : decode cX9_shows 5 = .ok (.ifCond .eq 5, 3) := by decide +kernel
theorem dX9_shows_8 : decode cX9_shows 8 = .ok (.iconst (-1), 1) := by decide +kernel
theorem dX9_shows_9 : decode cX9_shows 9 = .ok (.ireturn, 1) := by decide +kernel
theorem dX9_shows_10 : decode cX9_shows 10 = .ok (.aload_n 0, 1) := by decide +kernel
theorem dX9_shows_11 : decode cX9_shows 11 = .ok (.getfield 19, 3) := by decide +kernel
theorem dX9_shows_14 : decode cX9_shows 14 = .ok (.iload_n 1, 1) := by decide +kernel
theorem dX9_shows_15 : decode cX9_shows 15 = .ok (.iaload, 1) := by decide +kernel
theorem dX9_shows_16 : decode cX9_shows 16 = .ok (.istore_n 2, 1) := by decide +kernel
theorem dX9_shows_17 : decode cX9_shows 17 = .ok (.iconst 0, 1) := by decide +kernel
theorem dX9_shows_18 : decode cX9_shows 18 = .ok (.istore_n 3, 1) := by decide +kernel
theorem dX9_shows_19 : decode cX9_shows 19 = .ok (.iconst 0, 1) := by decide +kernel
theorem dX9_shows_20 : decode cX9_shows 20 = .ok (.istore 4, 2) := by decide +kernel
theorem dX9_shows_22 : decode cX9_shows 22 = .ok (.iload 4, 2) := by decide +kernel
theorem dX9_shows_24 : decode cX9_shows 24 = .ok (.bipush 9, 2) := by decide +kernel
theorem dX9_shows_26 : decode cX9_shows 26 = .ok (.if_icmp .gt 35, 3) := by decide +kernel
theorem dX9_shows_29 : decode cX9_shows 29 = .ok (.aload_n 0, 1) := by decide +kernel
theorem dX9_shows_30 : decode cX9_shows 30 = .ok (.getfield 19, 3) := by decide +kernel
theorem dX9_shows_33 : decode cX9_shows 33 = .ok (.iload_n 1, 1) := by decide +kernel
theorem dX9_shows_34 : decode cX9_shows 34 = .ok (.iload 4, 2) := by decide +kernel
theorem dX9_shows_36 : decode cX9_shows 36 = .ok (.iastore, 1) := by decide +kernel
theorem dX9_shows_37 : decode cX9_shows 37 = .ok (.iload_n 3, 1) := by decide +kernel
theorem dX9_shows_38 : decode cX9_shows 38 = .ok (.aload_n 0, 1) := by decide +kernel
theorem dX9_shows_39 : decode cX9_shows 39 = .ok (.invokevirtual 295, 3) := by decide +kernel
theorem dX9_shows_42 : decode cX9_shows 42 = .ok (.ifCond .eq 10, 3) := by decide +kernel
theorem dX9_shows_45 : decode cX9_shows 45 = .ok (.iconst 1, 1) := by decide +kernel
theorem dX9_shows_46 : decode cX9_shows 46 = .ok (.iload 4, 2) := by decide +kernel
theorem dX9_shows_48 : decode cX9_shows 48 = .ok (.ishl, 1) := by decide +kernel
theorem dX9_shows_49 : decode cX9_shows 49 = .ok (.goto 4, 3) := by decide +kernel
theorem dX9_shows_52 : decode cX9_shows 52 = .ok (.iconst 0, 1) := by decide +kernel
theorem dX9_shows_53 : decode cX9_shows 53 = .ok (.ior, 1) := by decide +kernel
theorem dX9_shows_54 : decode cX9_shows 54 = .ok (.istore_n 3, 1) := by decide +kernel
theorem dX9_shows_55 : decode cX9_shows 55 = .ok (.iinc 4 1, 3) := by decide +kernel
theorem dX9_shows_58 : decode cX9_shows 58 = .ok (.goto (-36), 3) := by decide +kernel
theorem dX9_shows_61 : decode cX9_shows 61 = .ok (.aload_n 0, 1) := by decide +kernel
theorem dX9_shows_62 : decode cX9_shows 62 = .ok (.getfield 19, 3) := by decide +kernel
theorem dX9_shows_65 : decode cX9_shows 65 = .ok (.iload_n 1, 1) := by decide +kernel
theorem dX9_shows_66 : decode cX9_shows 66 = .ok (.iload_n 2, 1) := by decide +kernel
theorem dX9_shows_67 : decode cX9_shows 67 = .ok (.iastore, 1) := by decide +kernel
theorem dX9_shows_68 : decode cX9_shows 68 = .ok (.iload_n 3, 1) := by decide +kernel
theorem dX9_shows_69 : decode cX9_shows 69 = .ok (.ireturn, 1) := by decide +kernel
theorem dX9_chalks_0 : decode cX9_chalks 0 = .ok (.aload_n 0, 1) := by decide +kernel
theorem dX9_chalks_1 : decode cX9_chalks 1 = .ok (.getfield 104, 3) := by decide +kernel
theorem dX9_chalks_4 : decode cX9_chalks 4 = .ok (.ifCond .ne 6, 3) := by decide +kernel
theorem dX9_chalks_7 : decode cX9_chalks 7 = .ok (.bipush (-3), 2) := by decide +kernel
theorem dX9_chalks_9 : decode cX9_chalks 9 = .ok (.ireturn, 1) := by decide +kernel
theorem dX9_chalks_10 : decode cX9_chalks 10 = .ok (.aload_n 0, 1) := by decide +kernel
theorem dX9_chalks_11 : decode cX9_chalks 11 = .ok (.getfield 165, 3) := by decide +kernel
theorem dX9_chalks_14 : decode cX9_chalks 14 = .ok (.istore_n 1, 1) := by decide +kernel
theorem dX9_chalks_15 : decode cX9_chalks 15 = .ok (.iconst 0, 1) := by decide +kernel
theorem dX9_chalks_16 : decode cX9_chalks 16 = .ok (.istore_n 2, 1) := by decide +kernel
theorem dX9_chalks_17 : decode cX9_chalks 17 = .ok (.iconst 0, 1) := by decide +kernel
theorem dX9_chalks_18 : decode cX9_chalks 18 = .ok (.istore_n 3, 1) := by decide +kernel
theorem dX9_chalks_19 : decode cX9_chalks 19 = .ok (.iload_n 3, 1) := by decide +kernel
theorem dX9_chalks_20 : decode cX9_chalks 20 = .ok (.bipush 9, 2) := by decide +kernel
theorem dX9_chalks_22 : decode cX9_chalks 22 = .ok (.if_icmp .gt 31, 3) := by decide +kernel
theorem dX9_chalks_25 : decode cX9_chalks 25 = .ok (.aload_n 0, 1) := by decide +kernel
theorem dX9_chalks_26 : decode cX9_chalks 26 = .ok (.iload_n 3, 1) := by decide +kernel
theorem dX9_chalks_27 : decode cX9_chalks 27 = .ok (.putfield 165, 3) := by decide +kernel
theorem dX9_chalks_30 : decode cX9_chalks 30 = .ok (.iload_n 2, 1) := by decide +kernel
theorem dX9_chalks_31 : decode cX9_chalks 31 = .ok (.aload_n 0, 1) := by decide +kernel
theorem dX9_chalks_32 : decode cX9_chalks 32 = .ok (.invokevirtual 295, 3) := by decide +kernel
theorem dX9_chalks_35 : decode cX9_chalks 35 = .ok (.ifCond .eq 9, 3) := by decide +kernel
theorem dX9_chalks_38 : decode cX9_chalks 38 = .ok (.iconst 1, 1) := by decide +kernel
theorem dX9_chalks_39 : decode cX9_chalks 39 = .ok (.iload_n 3, 1) := by decide +kernel
theorem dX9_chalks_40 : decode cX9_chalks 40 = .ok (.ishl, 1) := by decide +kernel
theorem dX9_chalks_41 : decode cX9_chalks 41 = .ok (.goto 4, 3) := by decide +kernel
theorem dX9_chalks_44 : decode cX9_chalks 44 = .ok (.iconst 0, 1) := by decide +kernel
theorem dX9_chalks_45 : decode cX9_chalks 45 = .ok (.ior, 1) := by decide +kernel
theorem dX9_chalks_46 : decode cX9_chalks 46 = .ok (.istore_n 2, 1) := by decide +kernel
theorem dX9_chalks_47 : decode cX9_chalks 47 = .ok (.iinc 3 1, 3) := by decide +kernel
theorem dX9_chalks_50 : decode cX9_chalks 50 = .ok (.goto (-31), 3) := by decide +kernel
theorem dX9_chalks_53 : decode cX9_chalks 53 = .ok (.aload_n 0, 1) := by decide +kernel
theorem dX9_chalks_54 : decode cX9_chalks 54 = .ok (.iload_n 1, 1) := by decide +kernel
theorem dX9_chalks_55 : decode cX9_chalks 55 = .ok (.putfield 165, 3) := by decide +kernel
theorem dX9_chalks_58 : decode cX9_chalks 58 = .ok (.iload_n 2, 1) := by decide +kernel
theorem dX9_chalks_59 : decode cX9_chalks 59 = .ok (.ireturn, 1) := by decide +kernel
theorem dX9_odds_0 : decode cX9_odds 0 = .ok (.aload_n 0, 1) := by decide +kernel
theorem dX9_odds_1 : decode cX9_odds 1 = .ok (.iload_n 1, 1) := by decide +kernel
theorem dX9_odds_2 : decode cX9_odds 2 = .ok (.invokevirtual 180, 3) := by decide +kernel
theorem dX9_odds_5 : decode cX9_odds 5 = .ok (.ifCond .ne 13, 3) := by decide +kernel
theorem dX9_odds_8 : decode cX9_odds 8 = .ok (.iload_n 2, 1) := by decide +kernel
theorem dX9_odds_9 : decode cX9_odds 9 = .ok (.i2l, 1) := by decide +kernel
theorem dX9_odds_10 : decode cX9_odds 10 = .ok (.lconst 0, 1) := by decide +kernel
theorem dX9_odds_11 : decode cX9_odds 11 = .ok (.lconst 1, 1) := by decide +kernel
theorem dX9_odds_12 : decode cX9_odds 12 = .ok (.invokestatic 107, 3) := by decide +kernel
theorem dX9_odds_15 : decode cX9_odds 15 = .ok (.ifCond .ne 7, 3) := by decide +kernel
theorem dX9_odds_18 : decode cX9_odds 18 = .ok (.invokestatic 100, 3) := by decide +kernel
theorem dX9_odds_21 : decode cX9_odds 21 = .ok (.lreturn, 1) := by decide +kernel
theorem dX9_odds_22 : decode cX9_odds 22 = .ok (.aload_n 0, 1) := by decide +kernel
theorem dX9_odds_23 : decode cX9_odds 23 = .ok (.getfield 162, 3) := by decide +kernel
theorem dX9_odds_26 : decode cX9_odds 26 = .ok (.istore_n 3, 1) := by decide +kernel
theorem dX9_odds_27 : decode cX9_odds 27 = .ok (.aload_n 0, 1) := by decide +kernel
theorem dX9_odds_28 : decode cX9_odds 28 = .ok (.getfield 165, 3) := by decide +kernel
theorem dX9_odds_31 : decode cX9_odds 31 = .ok (.istore 4, 2) := by decide +kernel
theorem dX9_odds_33 : decode cX9_odds 33 = .ok (.iconst 0, 1) := by decide +kernel
theorem dX9_odds_34 : decode cX9_odds 34 = .ok (.istore 5, 2) := by decide +kernel
theorem dX9_odds_36 : decode cX9_odds 36 = .ok (.iconst 0, 1) := by decide +kernel
theorem dX9_odds_37 : decode cX9_odds 37 = .ok (.istore 6, 2) := by decide +kernel
theorem dX9_odds_39 : decode cX9_odds 39 = .ok (.iload 6, 2) := by decide +kernel
theorem dX9_odds_41 : decode cX9_odds 41 = .ok (.bipush 30, 2) := by decide +kernel
theorem dX9_odds_43 : decode cX9_odds 43 = .ok (.if_icmp .ge 45, 3) := by decide +kernel
theorem dX9_odds_46 : decode cX9_odds 46 = .ok (.aload_n 0, 1) := by decide +kernel
theorem dX9_odds_47 : decode cX9_odds 47 = .ok (.iload 6, 2) := by decide +kernel
theorem dX9_odds_49 : decode cX9_odds 49 = .ok (.bipush 10, 2) := by decide +kernel
theorem dX9_odds_51 : decode cX9_odds 51 = .ok (.idiv, 1) := by decide +kernel
theorem dX9_odds_52 : decode cX9_odds 52 = .ok (.putfield 162, 3) := by decide +kernel
theorem dX9_odds_55 : decode cX9_odds 55 = .ok (.aload_n 0, 1) := by decide +kernel
theorem dX9_odds_56 : decode cX9_odds 56 = .ok (.iload 6, 2) := by decide +kernel
theorem dX9_odds_58 : decode cX9_odds 58 = .ok (.bipush 10, 2) := by decide +kernel
theorem dX9_odds_60 : decode cX9_odds 60 = .ok (.irem, 1) := by decide +kernel
theorem dX9_odds_61 : decode cX9_odds 61 = .ok (.putfield 165, 3) := by decide +kernel
theorem dX9_odds_64 : decode cX9_odds 64 = .ok (.iload 5, 2) := by decide +kernel
theorem dX9_odds_66 : decode cX9_odds 66 = .ok (.aload_n 0, 1) := by decide +kernel
theorem dX9_odds_67 : decode cX9_odds 67 = .ok (.iload_n 1, 1) := by decide +kernel
theorem dX9_odds_68 : decode cX9_odds 68 = .ok (.invokevirtual 266, 3) := by decide +kernel
theorem dX9_odds_71 : decode cX9_odds 71 = .ok (.ifCond .le 7, 3) := by decide +kernel
theorem dX9_odds_74 : decode cX9_odds 74 = .ok (.iconst 1, 1) := by decide +kernel
theorem dX9_odds_75 : decode cX9_odds 75 = .ok (.goto 4, 3) := by decide +kernel
theorem dX9_odds_78 : decode cX9_odds 78 = .ok (.iconst 0, 1) := by decide +kernel
theorem dX9_odds_79 : decode cX9_odds 79 = .ok (.iadd, 1) := by decide +kernel
theorem dX9_odds_80 : decode cX9_odds 80 = .ok (.istore 5, 2) := by decide +kernel
theorem dX9_odds_82 : decode cX9_odds 82 = .ok (.iinc 6 1, 3) := by decide +kernel
theorem dX9_odds_85 : decode cX9_odds 85 = .ok (.goto (-46), 3) := by decide +kernel
theorem dX9_odds_88 : decode cX9_odds 88 = .ok (.aload_n 0, 1) := by decide +kernel
theorem dX9_odds_89 : decode cX9_odds 89 = .ok (.iload_n 3, 1) := by decide +kernel
theorem dX9_odds_90 : decode cX9_odds 90 = .ok (.putfield 162, 3) := by decide +kernel
theorem dX9_odds_93 : decode cX9_odds 93 = .ok (.aload_n 0, 1) := by decide +kernel
theorem dX9_odds_94 : decode cX9_odds 94 = .ok (.iload 4, 2) := by decide +kernel
theorem dX9_odds_96 : decode cX9_odds 96 = .ok (.putfield 165, 3) := by decide +kernel
theorem dX9_odds_99 : decode cX9_odds 99 = .ok (.iload 5, 2) := by decide +kernel
theorem dX9_odds_101 : decode cX9_odds 101 = .ok (.i2l, 1) := by decide +kernel
theorem dX9_odds_102 : decode cX9_odds 102 = .ok (.ldc2_w 252, 3) := by decide +kernel
theorem dX9_odds_105 : decode cX9_odds 105 = .ok (.iload_n 2, 1) := by decide +kernel
theorem dX9_odds_106 : decode cX9_odds 106 = .ok (.invokestatic 299, 3) := by decide +kernel
theorem dX9_odds_109 : decode cX9_odds 109 = .ok (.lreturn, 1) := by decide +kernel
theorem dX9_noSheet_0 : decode cX9_noSheet 0 = .ok (.iload_n 0, 1) := by decide +kernel
theorem dX9_noSheet_1 : decode cX9_noSheet 1 = .ok (.i2l, 1) := by decide +kernel
theorem dX9_noSheet_2 : decode cX9_noSheet 2 = .ok (.lconst 0, 1) := by decide +kernel
theorem dX9_noSheet_3 : decode cX9_noSheet 3 = .ok (.ldc2_w 303, 3) := by decide +kernel
theorem dX9_noSheet_6 : decode cX9_noSheet 6 = .ok (.invokestatic 107, 3) := by decide +kernel
theorem dX9_noSheet_9 : decode cX9_noSheet 9 = .ok (.ifCond .ne 7, 3) := by decide +kernel
theorem dX9_noSheet_12 : decode cX9_noSheet 12 = .ok (.iconst 1, 1) := by decide +kernel
theorem dX9_noSheet_13 : decode cX9_noSheet 13 = .ok (.goto 4, 3) := by decide +kernel
theorem dX9_noSheet_16 : decode cX9_noSheet 16 = .ok (.iconst 0, 1) := by decide +kernel
theorem dX9_noSheet_17 : decode cX9_noSheet 17 = .ok (.ireturn, 1) := by decide +kernel
theorem dX9_sheet_0 : decode cX9_sheet 0 = .ok (.iload_n 1, 1) := by decide +kernel
theorem dX9_sheet_1 : decode cX9_sheet 1 = .ok (.invokestatic 146, 3) := by decide +kernel
theorem dX9_sheet_4 : decode cX9_sheet 4 = .ok (.ifCond .eq 9, 3) := by decide +kernel
theorem dX9_sheet_7 : decode cX9_sheet 7 = .ok (.aload_n 0, 1) := by decide +kernel
theorem dX9_sheet_8 : decode cX9_sheet 8 = .ok (.iconst (-1), 1) := by decide +kernel
theorem dX9_sheet_9 : decode cX9_sheet 9 = .ok (.invokevirtual 150, 3) := by decide +kernel
theorem dX9_sheet_12 : decode cX9_sheet 12 = .ok (.ireturn, 1) := by decide +kernel
theorem dX9_sheet_13 : decode cX9_sheet 13 = .ok (.iload_n 2, 1) := by decide +kernel
theorem dX9_sheet_14 : decode cX9_sheet 14 = .ok (.i2l, 1) := by decide +kernel
theorem dX9_sheet_15 : decode cX9_sheet 15 = .ok (.lconst 0, 1) := by decide +kernel
theorem dX9_sheet_16 : decode cX9_sheet 16 = .ok (.ldc2_w 153, 3) := by decide +kernel
theorem dX9_sheet_19 : decode cX9_sheet 19 = .ok (.invokestatic 107, 3) := by decide +kernel
theorem dX9_sheet_22 : decode cX9_sheet 22 = .ok (.ifCond .eq 9, 3) := by decide +kernel
theorem dX9_sheet_25 : decode cX9_sheet 25 = .ok (.iload_n 3, 1) := by decide +kernel
theorem dX9_sheet_26 : decode cX9_sheet 26 = .ok (.bipush 60, 2) := by decide +kernel
theorem dX9_sheet_28 : decode cX9_sheet 28 = .ok (.if_icmp .le 10, 3) := by decide +kernel
theorem dX9_sheet_31 : decode cX9_sheet 31 = .ok (.aload_n 0, 1) := by decide +kernel
theorem dX9_sheet_32 : decode cX9_sheet 32 = .ok (.bipush (-2), 2) := by decide +kernel
theorem dX9_sheet_34 : decode cX9_sheet 34 = .ok (.invokevirtual 150, 3) := by decide +kernel
theorem dX9_sheet_37 : decode cX9_sheet 37 = .ok (.ireturn, 1) := by decide +kernel
theorem dX9_sheet_38 : decode cX9_sheet 38 = .ok (.iload_n 3, 1) := by decide +kernel
theorem dX9_sheet_39 : decode cX9_sheet 39 = .ok (.ifCond .ge 9, 3) := by decide +kernel
theorem dX9_sheet_42 : decode cX9_sheet 42 = .ok (.aload_n 0, 1) := by decide +kernel
theorem dX9_sheet_43 : decode cX9_sheet 43 = .ok (.iconst 4, 1) := by decide +kernel
theorem dX9_sheet_44 : decode cX9_sheet 44 = .ok (.invokevirtual 138, 3) := by decide +kernel
theorem dX9_sheet_47 : decode cX9_sheet 47 = .ok (.ireturn, 1) := by decide +kernel
theorem dX9_sheet_48 : decode cX9_sheet 48 = .ok (.aload_n 0, 1) := by decide +kernel
theorem dX9_sheet_49 : decode cX9_sheet 49 = .ok (.getfield 82, 3) := by decide +kernel
theorem dX9_sheet_52 : decode cX9_sheet 52 = .ok (.iload_n 1, 1) := by decide +kernel
theorem dX9_sheet_53 : decode cX9_sheet 53 = .ok (.iload_n 3, 1) := by decide +kernel
theorem dX9_sheet_54 : decode cX9_sheet 54 = .ok (.iastore, 1) := by decide +kernel
theorem dX9_sheet_55 : decode cX9_sheet 55 = .ok (.aload_n 0, 1) := by decide +kernel
theorem dX9_sheet_56 : decode cX9_sheet 56 = .ok (.getfield 85, 3) := by decide +kernel
theorem dX9_sheet_59 : decode cX9_sheet 59 = .ok (.iload_n 1, 1) := by decide +kernel
theorem dX9_sheet_60 : decode cX9_sheet 60 = .ok (.iload_n 2, 1) := by decide +kernel
theorem dX9_sheet_61 : decode cX9_sheet 61 = .ok (.iastore, 1) := by decide +kernel
theorem dX9_sheet_62 : decode cX9_sheet 62 = .ok (.iconst 0, 1) := by decide +kernel
theorem dX9_sheet_63 : decode cX9_sheet 63 = .ok (.istore 4, 2) := by decide +kernel
theorem dX9_sheet_65 : decode cX9_sheet 65 = .ok (.iload 4, 2) := by decide +kernel
theorem dX9_sheet_67 : decode cX9_sheet 67 = .ok (.iload_n 3, 1) := by decide +kernel
theorem dX9_sheet_68 : decode cX9_sheet 68 = .ok (.if_icmp .ge 22, 3) := by decide +kernel
theorem dX9_sheet_71 : decode cX9_sheet 71 = .ok (.aload_n 0, 1) := by decide +kernel
theorem dX9_sheet_72 : decode cX9_sheet 72 = .ok (.getfield 88, 3) := by decide +kernel
theorem dX9_sheet_75 : decode cX9_sheet 75 = .ok (.bipush 60, 2) := by decide +kernel
theorem dX9_sheet_77 : decode cX9_sheet 77 = .ok (.iload_n 1, 1) := by decide +kernel
theorem dX9_sheet_78 : decode cX9_sheet 78 = .ok (.imul, 1) := by decide +kernel
theorem dX9_sheet_79 : decode cX9_sheet 79 = .ok (.iload 4, 2) := by decide +kernel
theorem dX9_sheet_81 : decode cX9_sheet 81 = .ok (.iadd, 1) := by decide +kernel
theorem dX9_sheet_82 : decode cX9_sheet 82 = .ok (.iconst 0, 1) := by decide +kernel
theorem dX9_sheet_83 : decode cX9_sheet 83 = .ok (.iastore, 1) := by decide +kernel
theorem dX9_sheet_84 : decode cX9_sheet 84 = .ok (.iinc 4 1, 3) := by decide +kernel
theorem dX9_sheet_87 : decode cX9_sheet 87 = .ok (.goto (-22), 3) := by decide +kernel
theorem dX9_sheet_90 : decode cX9_sheet 90 = .ok (.aload_n 0, 1) := by decide +kernel
theorem dX9_sheet_91 : decode cX9_sheet 91 = .ok (.iconst 1, 1) := by decide +kernel
theorem dX9_sheet_92 : decode cX9_sheet 92 = .ok (.invokevirtual 150, 3) := by decide +kernel
theorem dX9_sheet_95 : decode cX9_sheet 95 = .ok (.ireturn, 1) := by decide +kernel
theorem dX9_lose_0 : decode cX9_lose 0 = .ok (.iload_n 1, 1) := by decide +kernel
theorem dX9_lose_1 : decode cX9_lose 1 = .ok (.invokestatic 146, 3) := by decide +kernel
theorem dX9_lose_4 : decode cX9_lose 4 = .ok (.ifCond .eq 5, 3) := by decide +kernel
theorem dX9_lose_7 : decode cX9_lose 7 = .ok (.iconst (-1), 1) := by decide +kernel
theorem dX9_lose_8 : decode cX9_lose 8 = .ok (.ireturn, 1) := by decide +kernel
theorem dX9_lose_9 : decode cX9_lose 9 = .ok (.aload_n 0, 1) := by decide +kernel
theorem dX9_lose_10 : decode cX9_lose 10 = .ok (.getfield 82, 3) := by decide +kernel
theorem dX9_lose_13 : decode cX9_lose 13 = .ok (.iload_n 1, 1) := by decide +kernel
theorem dX9_lose_14 : decode cX9_lose 14 = .ok (.iaload, 1) := by decide +kernel
theorem dX9_lose_15 : decode cX9_lose 15 = .ok (.ifCond .ge 7, 3) := by decide +kernel
theorem dX9_lose_18 : decode cX9_lose 18 = .ok (.iconst 0, 1) := by decide +kernel
theorem dX9_lose_19 : decode cX9_lose 19 = .ok (.goto 4, 3) := by decide +kernel
theorem dX9_lose_22 : decode cX9_lose 22 = .ok (.iconst 1, 1) := by decide +kernel
theorem dX9_lose_23 : decode cX9_lose 23 = .ok (.istore_n 2, 1) := by decide +kernel
theorem dX9_lose_24 : decode cX9_lose 24 = .ok (.aload_n 0, 1) := by decide +kernel
theorem dX9_lose_25 : decode cX9_lose 25 = .ok (.getfield 82, 3) := by decide +kernel
theorem dX9_lose_28 : decode cX9_lose 28 = .ok (.iload_n 1, 1) := by decide +kernel
theorem dX9_lose_29 : decode cX9_lose 29 = .ok (.iconst (-1), 1) := by decide +kernel
theorem dX9_lose_30 : decode cX9_lose 30 = .ok (.iastore, 1) := by decide +kernel
theorem dX9_lose_31 : decode cX9_lose 31 = .ok (.iload_n 2, 1) := by decide +kernel
theorem dX9_lose_32 : decode cX9_lose 32 = .ok (.ireturn, 1) := by decide +kernel
theorem dX9_noCell_0 : decode cX9_noCell 0 = .ok (.aload_n 0, 1) := by decide +kernel
theorem dX9_noCell_1 : decode cX9_noCell 1 = .ok (.getfield 82, 3) := by decide +kernel
theorem dX9_noCell_4 : decode cX9_noCell 4 = .ok (.iload_n 1, 1) := by decide +kernel
theorem dX9_noCell_5 : decode cX9_noCell 5 = .ok (.iaload, 1) := by decide +kernel
theorem dX9_noCell_6 : decode cX9_noCell 6 = .ok (.ifCond .ge 7, 3) := by decide +kernel
theorem dX9_noCell_9 : decode cX9_noCell 9 = .ok (.iconst 1, 1) := by decide +kernel
theorem dX9_noCell_10 : decode cX9_noCell 10 = .ok (.goto 26, 3) := by decide +kernel
theorem dX9_noCell_13 : decode cX9_noCell 13 = .ok (.iload_n 2, 1) := by decide +kernel
theorem dX9_noCell_14 : decode cX9_noCell 14 = .ok (.i2l, 1) := by decide +kernel
theorem dX9_noCell_15 : decode cX9_noCell 15 = .ok (.lconst 0, 1) := by decide +kernel
theorem dX9_noCell_16 : decode cX9_noCell 16 = .ok (.aload_n 0, 1) := by decide +kernel
theorem dX9_noCell_17 : decode cX9_noCell 17 = .ok (.getfield 82, 3) := by decide +kernel
theorem dX9_noCell_20 : decode cX9_noCell 20 = .ok (.iload_n 1, 1) := by decide +kernel
theorem dX9_noCell_21 : decode cX9_noCell 21 = .ok (.iaload, 1) := by decide +kernel
theorem dX9_noCell_22 : decode cX9_noCell 22 = .ok (.i2l, 1) := by decide +kernel
theorem dX9_noCell_23 : decode cX9_noCell 23 = .ok (.lconst 1, 1) := by decide +kernel
theorem dX9_noCell_24 : decode cX9_noCell 24 = .ok (.lsub, 1) := by decide +kernel
theorem dX9_noCell_25 : decode cX9_noCell 25 = .ok (.invokestatic 107, 3) := by decide +kernel
theorem dX9_noCell_28 : decode cX9_noCell 28 = .ok (.ifCond .eq 7, 3) := by decide +kernel
theorem dX9_noCell_31 : decode cX9_noCell 31 = .ok (.iconst 0, 1) := by decide +kernel
theorem dX9_noCell_32 : decode cX9_noCell 32 = .ok (.goto 4, 3) := by decide +kernel
theorem dX9_noCell_35 : decode cX9_noCell 35 = .ok (.iconst 3, 1) := by decide +kernel
theorem dX9_noCell_36 : decode cX9_noCell 36 = .ok (.ireturn, 1) := by decide +kernel
theorem dX9_put_0 : decode cX9_put 0 = .ok (.iload_n 1, 1) := by decide +kernel
theorem dX9_put_1 : decode cX9_put 1 = .ok (.invokestatic 146, 3) := by decide +kernel
theorem dX9_put_4 : decode cX9_put 4 = .ok (.ifCond .eq 9, 3) := by decide +kernel
theorem dX9_put_7 : decode cX9_put 7 = .ok (.aload_n 0, 1) := by decide +kernel
theorem dX9_put_8 : decode cX9_put 8 = .ok (.iconst (-1), 1) := by decide +kernel
theorem dX9_put_9 : decode cX9_put 9 = .ok (.invokevirtual 150, 3) := by decide +kernel
theorem dX9_put_12 : decode cX9_put 12 = .ok (.ireturn, 1) := by decide +kernel
theorem dX9_put_13 : decode cX9_put 13 = .ok (.aload_n 0, 1) := by decide +kernel
theorem dX9_put_14 : decode cX9_put 14 = .ok (.iload_n 1, 1) := by decide +kernel
theorem dX9_put_15 : decode cX9_put 15 = .ok (.iload_n 2, 1) := by decide +kernel
theorem dX9_put_16 : decode cX9_put 16 = .ok (.invokevirtual 305, 3) := by decide +kernel
theorem dX9_put_19 : decode cX9_put 19 = .ok (.ifCond .le 14, 3) := by decide +kernel
theorem dX9_put_22 : decode cX9_put 22 = .ok (.aload_n 0, 1) := by decide +kernel
theorem dX9_put_23 : decode cX9_put 23 = .ok (.aload_n 0, 1) := by decide +kernel
theorem dX9_put_24 : decode cX9_put 24 = .ok (.iload_n 1, 1) := by decide +kernel
theorem dX9_put_25 : decode cX9_put 25 = .ok (.iload_n 2, 1) := by decide +kernel
theorem dX9_put_26 : decode cX9_put 26 = .ok (.invokevirtual 305, 3) := by decide +kernel
theorem dX9_put_29 : decode cX9_put 29 = .ok (.invokevirtual 138, 3) := by decide +kernel
theorem dX9_put_32 : decode cX9_put 32 = .ok (.ireturn, 1) := by decide +kernel
theorem dX9_put_33 : decode cX9_put 33 = .ok (.aload_n 0, 1) := by decide +kernel
theorem dX9_put_34 : decode cX9_put 34 = .ok (.getfield 88, 3) := by decide +kernel
theorem dX9_put_37 : decode cX9_put 37 = .ok (.bipush 60, 2) := by decide +kernel
theorem dX9_put_39 : decode cX9_put 39 = .ok (.iload_n 1, 1) := by decide +kernel
theorem dX9_put_40 : decode cX9_put 40 = .ok (.imul, 1) := by decide +kernel
theorem dX9_put_41 : decode cX9_put 41 = .ok (.iload_n 2, 1) := by decide +kernel
theorem dX9_put_42 : decode cX9_put 42 = .ok (.iadd, 1) := by decide +kernel
theorem dX9_put_43 : decode cX9_put 43 = .ok (.aload_n 0, 1) := by decide +kernel
theorem dX9_put_44 : decode cX9_put 44 = .ok (.getfield 85, 3) := by decide +kernel
theorem dX9_put_47 : decode cX9_put 47 = .ok (.iload_n 1, 1) := by decide +kernel
theorem dX9_put_48 : decode cX9_put 48 = .ok (.iaload, 1) := by decide +kernel
theorem dX9_put_49 : decode cX9_put 49 = .ok (.ifCond .ne 8, 3) := by decide +kernel
theorem dX9_put_52 : decode cX9_put 52 = .ok (.iload_n 3, 1) := by decide +kernel
theorem dX9_put_53 : decode cX9_put 53 = .ok (.i2b, 1) := by decide +kernel
theorem dX9_put_54 : decode cX9_put 54 = .ok (.goto 19, 3) := by decide +kernel
theorem dX9_put_57 : decode cX9_put 57 = .ok (.aload_n 0, 1) := by decide +kernel
theorem dX9_put_58 : decode cX9_put 58 = .ok (.getfield 85, 3) := by decide +kernel
theorem dX9_put_61 : decode cX9_put 61 = .ok (.iload_n 1, 1) := by decide +kernel
theorem dX9_put_62 : decode cX9_put 62 = .ok (.iaload, 1) := by decide +kernel
theorem dX9_put_63 : decode cX9_put 63 = .ok (.iconst 1, 1) := by decide +kernel
theorem dX9_put_64 : decode cX9_put 64 = .ok (.if_icmp .ne 8, 3) := by decide +kernel
theorem dX9_put_67 : decode cX9_put 67 = .ok (.iload_n 3, 1) := by decide +kernel
theorem dX9_put_68 : decode cX9_put 68 = .ok (.i2s, 1) := by decide +kernel
theorem dX9_put_69 : decode cX9_put 69 = .ok (.goto 4, 3) := by decide +kernel
theorem dX9_put_72 : decode cX9_put 72 = .ok (.iload_n 3, 1) := by decide +kernel
theorem dX9_put_73 : decode cX9_put 73 = .ok (.iastore, 1) := by decide +kernel
theorem dX9_put_74 : decode cX9_put 74 = .ok (.aload_n 0, 1) := by decide +kernel
theorem dX9_put_75 : decode cX9_put 75 = .ok (.iconst 1, 1) := by decide +kernel
theorem dX9_put_76 : decode cX9_put 76 = .ok (.invokevirtual 150, 3) := by decide +kernel
theorem dX9_put_79 : decode cX9_put 79 = .ok (.ireturn, 1) := by decide +kernel
theorem dX9_cell_0 : decode cX9_cell 0 = .ok (.aload_n 0, 1) := by decide +kernel
theorem dX9_cell_1 : decode cX9_cell 1 = .ok (.iconst 0, 1) := by decide +kernel
theorem dX9_cell_2 : decode cX9_cell 2 = .ok (.putfield 96, 3) := by decide +kernel
theorem dX9_cell_5 : decode cX9_cell 5 = .ok (.iload_n 1, 1) := by decide +kernel
theorem dX9_cell_6 : decode cX9_cell 6 = .ok (.invokestatic 146, 3) := by decide +kernel
theorem dX9_cell_9 : decode cX9_cell 9 = .ok (.ifCond .ne 15, 3) := by decide +kernel
theorem dX9_cell_12 : decode cX9_cell 12 = .ok (.iload_n 3, 1) := by decide +kernel
theorem dX9_cell_13 : decode cX9_cell 13 = .ok (.i2l, 1) := by decide +kernel
theorem dX9_cell_14 : decode cX9_cell 14 = .ok (.lconst 0, 1) := by decide +kernel
theorem dX9_cell_15 : decode cX9_cell 15 = .ok (.ldc2_w 153, 3) := by decide +kernel
theorem dX9_cell_18 : decode cX9_cell 18 = .ok (.invokestatic 107, 3) := by decide +kernel
theorem dX9_cell_21 : decode cX9_cell 21 = .ok (.ifCond .ne 7, 3) := by decide +kernel
theorem dX9_cell_24 : decode cX9_cell 24 = .ok (.invokestatic 100, 3) := by decide +kernel
theorem dX9_cell_27 : decode cX9_cell 27 = .ok (.lreturn, 1) := by decide +kernel
theorem dX9_cell_28 : decode cX9_cell 28 = .ok (.aload_n 0, 1) := by decide +kernel
theorem dX9_cell_29 : decode cX9_cell 29 = .ok (.getfield 82, 3) := by decide +kernel
theorem dX9_cell_32 : decode cX9_cell 32 = .ok (.iload_n 1, 1) := by decide +kernel
theorem dX9_cell_33 : decode cX9_cell 33 = .ok (.iaload, 1) := by decide +kernel
theorem dX9_cell_34 : decode cX9_cell 34 = .ok (.ifCond .lt 19, 3) := by decide +kernel
theorem dX9_cell_37 : decode cX9_cell 37 = .ok (.aload_n 0, 1) := by decide +kernel
theorem dX9_cell_38 : decode cX9_cell 38 = .ok (.getfield 85, 3) := by decide +kernel
theorem dX9_cell_41 : decode cX9_cell 41 = .ok (.iload_n 1, 1) := by decide +kernel
theorem dX9_cell_42 : decode cX9_cell 42 = .ok (.iaload, 1) := by decide +kernel
theorem dX9_cell_43 : decode cX9_cell 43 = .ok (.iload_n 3, 1) := by decide +kernel
theorem dX9_cell_44 : decode cX9_cell 44 = .ok (.if_icmp .eq 9, 3) := by decide +kernel
theorem dX9_cell_47 : decode cX9_cell 47 = .ok (.aload_n 0, 1) := by decide +kernel
theorem dX9_cell_48 : decode cX9_cell 48 = .ok (.iconst 2, 1) := by decide +kernel
theorem dX9_cell_49 : decode cX9_cell 49 = .ok (.invokevirtual 308, 3) := by decide +kernel
theorem dX9_cell_52 : decode cX9_cell 52 = .ok (.lreturn, 1) := by decide +kernel
theorem dX9_cell_53 : decode cX9_cell 53 = .ok (.aload_n 0, 1) := by decide +kernel
theorem dX9_cell_54 : decode cX9_cell 54 = .ok (.iload_n 1, 1) := by decide +kernel
theorem dX9_cell_55 : decode cX9_cell 55 = .ok (.iload_n 2, 1) := by decide +kernel
theorem dX9_cell_56 : decode cX9_cell 56 = .ok (.invokevirtual 305, 3) := by decide +kernel
theorem dX9_cell_59 : decode cX9_cell 59 = .ok (.ifCond .le 16, 3) := by decide +kernel
theorem dX9_cell_62 : decode cX9_cell 62 = .ok (.aload_n 0, 1) := by decide +kernel
theorem dX9_cell_63 : decode cX9_cell 63 = .ok (.aload_n 0, 1) := by decide +kernel
theorem dX9_cell_64 : decode cX9_cell 64 = .ok (.iload_n 1, 1) := by decide +kernel
theorem dX9_cell_65 : decode cX9_cell 65 = .ok (.iload_n 2, 1) := by decide +kernel
theorem dX9_cell_66 : decode cX9_cell 66 = .ok (.invokevirtual 305, 3) := by decide +kernel
theorem dX9_cell_69 : decode cX9_cell 69 = .ok (.invokevirtual 308, 3) := by decide +kernel
theorem dX9_cell_72 : decode cX9_cell 72 = .ok (.goto 15, 3) := by decide +kernel
theorem dX9_cell_75 : decode cX9_cell 75 = .ok (.aload_n 0, 1) := by decide +kernel
theorem dX9_cell_76 : decode cX9_cell 76 = .ok (.getfield 88, 3) := by decide +kernel
theorem dX9_cell_79 : decode cX9_cell 79 = .ok (.bipush 60, 2) := by decide +kernel
theorem dX9_cell_81 : decode cX9_cell 81 = .ok (.iload_n 1, 1) := by decide +kernel
theorem dX9_cell_82 : decode cX9_cell 82 = .ok (.imul, 1) := by decide +kernel
theorem dX9_cell_83 : decode cX9_cell 83 = .ok (.iload_n 2, 1) := by decide +kernel
theorem dX9_cell_84 : decode cX9_cell 84 = .ok (.iadd, 1) := by decide +kernel
theorem dX9_cell_85 : decode cX9_cell 85 = .ok (.iaload, 1) := by decide +kernel
theorem dX9_cell_86 : decode cX9_cell 86 = .ok (.i2l, 1) := by decide +kernel
theorem dX9_cell_87 : decode cX9_cell 87 = .ok (.lreturn, 1) := by decide +kernel
theorem dX9_isBeyond_0 : decode cX9_isBeyond 0 = .ok (.iload_n 0, 1) := by decide +kernel
theorem dX9_isBeyond_1 : decode cX9_isBeyond 1 = .ok (.ifCond .lt 19, 3) := by decide +kernel
theorem dX9_isBeyond_4 : decode cX9_isBeyond 4 = .ok (.lload_n 1, 1) := by decide +kernel
theorem dX9_isBeyond_5 : decode cX9_isBeyond 5 = .ok (.lconst 0, 1) := by decide +kernel
theorem dX9_isBeyond_6 : decode cX9_isBeyond 6 = .ok (.lcmp, 1) := by decide +kernel
theorem dX9_isBeyond_7 : decode cX9_isBeyond 7 = .ok (.ifCond .lt 13, 3) := by decide +kernel
theorem dX9_isBeyond_10 : decode cX9_isBeyond 10 = .ok (.iload_n 0, 1) := by decide +kernel
theorem dX9_isBeyond_11 : decode cX9_isBeyond 11 = .ok (.i2l, 1) := by decide +kernel
theorem dX9_isBeyond_12 : decode cX9_isBeyond 12 = .ok (.lload_n 1, 1) := by decide +kernel
theorem dX9_isBeyond_13 : decode cX9_isBeyond 13 = .ok (.ladd, 1) := by decide +kernel
theorem dX9_isBeyond_14 : decode cX9_isBeyond 14 = .ok (.iload_n 3, 1) := by decide +kernel
theorem dX9_isBeyond_15 : decode cX9_isBeyond 15 = .ok (.i2l, 1) := by decide +kernel
theorem dX9_isBeyond_16 : decode cX9_isBeyond 16 = .ok (.lcmp, 1) := by decide +kernel
theorem dX9_isBeyond_17 : decode cX9_isBeyond 17 = .ok (.ifCond .le 7, 3) := by decide +kernel
theorem dX9_isBeyond_20 : decode cX9_isBeyond 20 = .ok (.iconst 1, 1) := by decide +kernel
theorem dX9_isBeyond_21 : decode cX9_isBeyond 21 = .ok (.goto 4, 3) := by decide +kernel
theorem dX9_isBeyond_24 : decode cX9_isBeyond 24 = .ok (.iconst 0, 1) := by decide +kernel
theorem dX9_isBeyond_25 : decode cX9_isBeyond 25 = .ok (.ireturn, 1) := by decide +kernel
theorem dX9_copy_0 : decode cX9_copy 0 = .ok (.iload_n 1, 1) := by decide +kernel
theorem dX9_copy_1 : decode cX9_copy 1 = .ok (.invokestatic 146, 3) := by decide +kernel
theorem dX9_copy_4 : decode cX9_copy 4 = .ok (.ifCond .ne 10, 3) := by decide +kernel
theorem dX9_copy_7 : decode cX9_copy 7 = .ok (.iload_n 3, 1) := by decide +kernel
theorem dX9_copy_8 : decode cX9_copy 8 = .ok (.invokestatic 146, 3) := by decide +kernel
theorem dX9_copy_11 : decode cX9_copy 11 = .ok (.ifCond .eq 9, 3) := by decide +kernel
theorem dX9_copy_14 : decode cX9_copy 14 = .ok (.aload_n 0, 1) := by decide +kernel
theorem dX9_copy_15 : decode cX9_copy 15 = .ok (.iconst (-1), 1) := by decide +kernel
theorem dX9_copy_16 : decode cX9_copy 16 = .ok (.invokevirtual 150, 3) := by decide +kernel
theorem dX9_copy_19 : decode cX9_copy 19 = .ok (.ireturn, 1) := by decide +kernel
theorem dX9_copy_20 : decode cX9_copy 20 = .ok (.aload_n 0, 1) := by decide +kernel
theorem dX9_copy_21 : decode cX9_copy 21 = .ok (.getfield 82, 3) := by decide +kernel
theorem dX9_copy_24 : decode cX9_copy 24 = .ok (.iload_n 1, 1) := by decide +kernel
theorem dX9_copy_25 : decode cX9_copy 25 = .ok (.iaload, 1) := by decide +kernel
theorem dX9_copy_26 : decode cX9_copy 26 = .ok (.ifCond .lt 12, 3) := by decide +kernel
theorem dX9_copy_29 : decode cX9_copy 29 = .ok (.aload_n 0, 1) := by decide +kernel
theorem dX9_copy_30 : decode cX9_copy 30 = .ok (.getfield 82, 3) := by decide +kernel
theorem dX9_copy_33 : decode cX9_copy 33 = .ok (.iload_n 3, 1) := by decide +kernel
theorem dX9_copy_34 : decode cX9_copy 34 = .ok (.iaload, 1) := by decide +kernel
theorem dX9_copy_35 : decode cX9_copy 35 = .ok (.ifCond .ge 9, 3) := by decide +kernel
theorem dX9_copy_38 : decode cX9_copy 38 = .ok (.aload_n 0, 1) := by decide +kernel
theorem dX9_copy_39 : decode cX9_copy 39 = .ok (.iconst 1, 1) := by decide +kernel
theorem dX9_copy_40 : decode cX9_copy 40 = .ok (.invokevirtual 138, 3) := by decide +kernel
theorem dX9_copy_43 : decode cX9_copy 43 = .ok (.ireturn, 1) := by decide +kernel
theorem dX9_copy_44 : decode cX9_copy 44 = .ok (.aload_n 0, 1) := by decide +kernel
theorem dX9_copy_45 : decode cX9_copy 45 = .ok (.getfield 85, 3) := by decide +kernel
theorem dX9_copy_48 : decode cX9_copy 48 = .ok (.iload_n 1, 1) := by decide +kernel
theorem dX9_copy_49 : decode cX9_copy 49 = .ok (.iaload, 1) := by decide +kernel
theorem dX9_copy_50 : decode cX9_copy 50 = .ok (.aload_n 0, 1) := by decide +kernel
theorem dX9_copy_51 : decode cX9_copy 51 = .ok (.getfield 85, 3) := by decide +kernel
theorem dX9_copy_54 : decode cX9_copy 54 = .ok (.iload_n 3, 1) := by decide +kernel
theorem dX9_copy_55 : decode cX9_copy 55 = .ok (.iaload, 1) := by decide +kernel
theorem dX9_copy_56 : decode cX9_copy 56 = .ok (.if_icmp .eq 9, 3) := by decide +kernel
theorem dX9_copy_59 : decode cX9_copy 59 = .ok (.aload_n 0, 1) := by decide +kernel
theorem dX9_copy_60 : decode cX9_copy 60 = .ok (.iconst 2, 1) := by decide +kernel
theorem dX9_copy_61 : decode cX9_copy 61 = .ok (.invokevirtual 138, 3) := by decide +kernel
theorem dX9_copy_64 : decode cX9_copy 64 = .ok (.ireturn, 1) := by decide +kernel
theorem dX9_copy_65 : decode cX9_copy 65 = .ok (.iload_n 2, 1) := by decide +kernel
theorem dX9_copy_66 : decode cX9_copy 66 = .ok (.iload 5, 2) := by decide +kernel
theorem dX9_copy_68 : decode cX9_copy 68 = .ok (.i2l, 1) := by decide +kernel
theorem dX9_copy_69 : decode cX9_copy 69 = .ok (.aload_n 0, 1) := by decide +kernel
theorem dX9_copy_70 : decode cX9_copy 70 = .ok (.getfield 82, 3) := by decide +kernel
theorem dX9_copy_73 : decode cX9_copy 73 = .ok (.iload_n 1, 1) := by decide +kernel
theorem dX9_copy_74 : decode cX9_copy 74 = .ok (.iaload, 1) := by decide +kernel
theorem dX9_copy_75 : decode cX9_copy 75 = .ok (.invokestatic 142, 3) := by decide +kernel
theorem dX9_copy_78 : decode cX9_copy 78 = .ok (.ifCond .ne 20, 3) := by decide +kernel
theorem dX9_copy_81 : decode cX9_copy 81 = .ok (.iload 4, 2) := by decide +kernel
theorem dX9_copy_83 : decode cX9_copy 83 = .ok (.iload 5, 2) := by decide +kernel
theorem dX9_copy_85 : decode cX9_copy 85 = .ok (.i2l, 1) := by decide +kernel
theorem dX9_copy_86 : decode cX9_copy 86 = .ok (.aload_n 0, 1) := by decide +kernel
theorem dX9_copy_87 : decode cX9_copy 87 = .ok (.getfield 82, 3) := by decide +kernel
theorem dX9_copy_90 : decode cX9_copy 90 = .ok (.iload_n 3, 1) := by decide +kernel
theorem dX9_copy_91 : decode cX9_copy 91 = .ok (.iaload, 1) := by decide +kernel
theorem dX9_copy_92 : decode cX9_copy 92 = .ok (.invokestatic 142, 3) := by decide +kernel
theorem dX9_copy_95 : decode cX9_copy 95 = .ok (.ifCond .eq 9, 3) := by decide +kernel
theorem dX9_copy_98 : decode cX9_copy 98 = .ok (.aload_n 0, 1) := by decide +kernel
theorem dX9_copy_99 : decode cX9_copy 99 = .ok (.iconst 3, 1) := by decide +kernel
theorem dX9_copy_100 : decode cX9_copy 100 = .ok (.invokevirtual 138, 3) := by decide +kernel
theorem dX9_copy_103 : decode cX9_copy 103 = .ok (.ireturn, 1) := by decide +kernel
theorem dX9_copy_104 : decode cX9_copy 104 = .ok (.iconst 0, 1) := by decide +kernel
theorem dX9_copy_105 : decode cX9_copy 105 = .ok (.istore 6, 2) := by decide +kernel
theorem dX9_copy_107 : decode cX9_copy 107 = .ok (.iload 6, 2) := by decide +kernel
theorem dX9_copy_109 : decode cX9_copy 109 = .ok (.iload 5, 2) := by decide +kernel
theorem dX9_copy_111 : decode cX9_copy 111 = .ok (.if_icmp .ge 30, 3) := by decide +kernel
theorem dX9_copy_114 : decode cX9_copy 114 = .ok (.aload_n 0, 1) := by decide +kernel
theorem dX9_copy_115 : decode cX9_copy 115 = .ok (.getfield 91, 3) := by decide +kernel
theorem dX9_copy_118 : decode cX9_copy 118 = .ok (.iload 6, 2) := by decide +kernel
theorem dX9_copy_120 : decode cX9_copy 120 = .ok (.aload_n 0, 1) := by decide +kernel
theorem dX9_copy_121 : decode cX9_copy 121 = .ok (.getfield 88, 3) := by decide +kernel
theorem dX9_copy_124 : decode cX9_copy 124 = .ok (.bipush 60, 2) := by decide +kernel
theorem dX9_copy_126 : decode cX9_copy 126 = .ok (.iload_n 1, 1) := by decide +kernel
theorem dX9_copy_127 : decode cX9_copy 127 = .ok (.imul, 1) := by decide +kernel
theorem dX9_copy_128 : decode cX9_copy 128 = .ok (.iload_n 2, 1) := by decide +kernel
theorem dX9_copy_129 : decode cX9_copy 129 = .ok (.iadd, 1) := by decide +kernel
theorem dX9_copy_130 : decode cX9_copy 130 = .ok (.iload 6, 2) := by decide +kernel
theorem dX9_copy_132 : decode cX9_copy 132 = .ok (.iadd, 1) := by decide +kernel
theorem dX9_copy_133 : decode cX9_copy 133 = .ok (.iaload, 1) := by decide +kernel
theorem dX9_copy_134 : decode cX9_copy 134 = .ok (.iastore, 1) := by decide +kernel
theorem dX9_copy_135 : decode cX9_copy 135 = .ok (.iinc 6 1, 3) := by decide +kernel
theorem dX9_copy_138 : decode cX9_copy 138 = .ok (.goto (-31), 3) := by decide +kernel
theorem dX9_copy_141 : decode cX9_copy 141 = .ok (.iconst 0, 1) := by decide +kernel
theorem dX9_copy_142 : decode cX9_copy 142 = .ok (.istore 6, 2) := by decide +kernel
theorem dX9_copy_144 : decode cX9_copy 144 = .ok (.iload 6, 2) := by decide +kernel
theorem dX9_copy_146 : decode cX9_copy 146 = .ok (.iload 5, 2) := by decide +kernel
theorem dX9_copy_148 : decode cX9_copy 148 = .ok (.if_icmp .ge 31, 3) := by decide +kernel
theorem dX9_copy_151 : decode cX9_copy 151 = .ok (.aload_n 0, 1) := by decide +kernel
theorem dX9_copy_152 : decode cX9_copy 152 = .ok (.getfield 88, 3) := by decide +kernel
theorem dX9_copy_155 : decode cX9_copy 155 = .ok (.bipush 60, 2) := by decide +kernel
theorem dX9_copy_157 : decode cX9_copy 157 = .ok (.iload_n 3, 1) := by decide +kernel
theorem dX9_copy_158 : decode cX9_copy 158 = .ok (.imul, 1) := by decide +kernel
theorem dX9_copy_159 : decode cX9_copy 159 = .ok (.iload 4, 2) := by decide +kernel
theorem dX9_copy_161 : decode cX9_copy 161 = .ok (.iadd, 1) := by decide +kernel
theorem dX9_copy_162 : decode cX9_copy 162 = .ok (.iload 6, 2) := by decide +kernel
theorem dX9_copy_164 : decode cX9_copy 164 = .ok (.iadd, 1) := by decide +kernel
theorem dX9_copy_165 : decode cX9_copy 165 = .ok (.aload_n 0, 1) := by decide +kernel
theorem dX9_copy_166 : decode cX9_copy 166 = .ok (.getfield 91, 3) := by decide +kernel
theorem dX9_copy_169 : decode cX9_copy 169 = .ok (.iload 6, 2) := by decide +kernel
theorem dX9_copy_171 : decode cX9_copy 171 = .ok (.iaload, 1) := by decide +kernel
theorem dX9_copy_172 : decode cX9_copy 172 = .ok (.iastore, 1) := by decide +kernel
theorem dX9_copy_173 : decode cX9_copy 173 = .ok (.iinc 6 1, 3) := by decide +kernel
theorem dX9_copy_176 : decode cX9_copy 176 = .ok (.goto (-32), 3) := by decide +kernel
theorem dX9_copy_179 : decode cX9_copy 179 = .ok (.aload_n 0, 1) := by decide +kernel
theorem dX9_copy_180 : decode cX9_copy 180 = .ok (.iload 5, 2) := by decide +kernel
theorem dX9_copy_182 : decode cX9_copy 182 = .ok (.invokevirtual 150, 3) := by decide +kernel
theorem dX9_copy_185 : decode cX9_copy 185 = .ok (.ireturn, 1) := by decide +kernel
theorem dX9_traced_0 : decode cX9_traced 0 = .ok (.aload_n 0, 1) := by decide +kernel
theorem dX9_traced_1 : decode cX9_traced 1 = .ok (.bipush 31, 2) := by decide +kernel
theorem dX9_traced_3 : decode cX9_traced 3 = .ok (.aload_n 0, 1) := by decide +kernel
theorem dX9_traced_4 : decode cX9_traced 4 = .ok (.getfield 312, 3) := by decide +kernel
theorem dX9_traced_7 : decode cX9_traced 7 = .ok (.imul, 1) := by decide +kernel
theorem dX9_traced_8 : decode cX9_traced 8 = .ok (.iload_n 1, 1) := by decide +kernel
theorem dX9_traced_9 : decode cX9_traced 9 = .ok (.iadd, 1) := by decide +kernel
theorem dX9_traced_10 : decode cX9_traced 10 = .ok (.putfield 312, 3) := by decide +kernel
theorem dX9_traced_13 : decode cX9_traced 13 = .ok (.return_, 1) := by decide +kernel
theorem dX9_tell_0 : decode cX9_tell 0 = .ok (.aload_n 0, 1) := by decide +kernel
theorem dX9_tell_1 : decode cX9_tell 1 = .ok (.iload_n 1, 1) := by decide +kernel
theorem dX9_tell_2 : decode cX9_tell 2 = .ok (.invokevirtual 180, 3) := by decide +kernel
theorem dX9_tell_5 : decode cX9_tell 5 = .ok (.ifCond .eq 5, 3) := by decide +kernel
theorem dX9_tell_8 : decode cX9_tell 8 = .ok (.iconst (-1), 1) := by decide +kernel
theorem dX9_tell_9 : decode cX9_tell 9 = .ok (.ireturn, 1) := by decide +kernel
theorem dX9_tell_10 : decode cX9_tell 10 = .ok (.aload_n 0, 1) := by decide +kernel
theorem dX9_tell_11 : decode cX9_tell 11 = .ok (.getfield 13, 3) := by decide +kernel
theorem dX9_tell_14 : decode cX9_tell 14 = .ok (.iload_n 1, 1) := by decide +kernel
theorem dX9_tell_15 : decode cX9_tell 15 = .ok (.iaload, 1) := by decide +kernel
theorem dX9_tell_16 : decode cX9_tell 16 = .ok (.istore_n 2, 1) := by decide +kernel
theorem dX9_tell_17 : decode cX9_tell 17 = .ok (.iload_n 2, 1) := by decide +kernel
theorem dX9_tell_18 : decode cX9_tell 18 = .ok (.iconst 2, 1) := by decide +kernel
theorem dX9_tell_19 : decode cX9_tell 19 = .ok (.if_icmp .ne 8, 3) := by decide +kernel
theorem dX9_tell_22 : decode cX9_tell 22 = .ok (.aload_n 0, 1) := by decide +kernel
theorem dX9_tell_23 : decode cX9_tell 23 = .ok (.iconst 3, 1) := by decide +kernel
theorem dX9_tell_24 : decode cX9_tell 24 = .ok (.invokevirtual 315, 3) := by decide +kernel
theorem dX9_tell_27 : decode cX9_tell 27 = .ok (.iload_n 2, 1) := by decide +kernel
theorem dX9_tell_28 : decode cX9_tell 28 = .ok (.ifCond .le 8, 3) := by decide +kernel
theorem dX9_tell_31 : decode cX9_tell 31 = .ok (.aload_n 0, 1) := by decide +kernel
theorem dX9_tell_32 : decode cX9_tell 32 = .ok (.iconst 2, 1) := by decide +kernel
theorem dX9_tell_33 : decode cX9_tell 33 = .ok (.invokevirtual 315, 3) := by decide +kernel
theorem dX9_tell_36 : decode cX9_tell 36 = .ok (.aload_n 0, 1) := by decide +kernel
theorem dX9_tell_37 : decode cX9_tell 37 = .ok (.iconst 1, 1) := by decide +kernel
theorem dX9_tell_38 : decode cX9_tell 38 = .ok (.invokevirtual 315, 3) := by decide +kernel
theorem dX9_tell_41 : decode cX9_tell 41 = .ok (.iload_n 2, 1) := by decide +kernel
theorem dX9_tell_42 : decode cX9_tell 42 = .ok (.iconst 2, 1) := by decide +kernel
theorem dX9_tell_43 : decode cX9_tell 43 = .ok (.if_icmp .ne 8, 3) := by decide +kernel
theorem dX9_tell_46 : decode cX9_tell 46 = .ok (.aload_n 0, 1) := by decide +kernel
theorem dX9_tell_47 : decode cX9_tell 47 = .ok (.iconst 1, 1) := by decide +kernel
theorem dX9_tell_48 : decode cX9_tell 48 = .ok (.invokevirtual 315, 3) := by decide +kernel
theorem dX9_tell_51 : decode cX9_tell 51 = .ok (.aload_n 0, 1) := by decide +kernel
theorem dX9_tell_52 : decode cX9_tell 52 = .ok (.getfield 19, 3) := by decide +kernel
theorem dX9_tell_55 : decode cX9_tell 55 = .ok (.iload_n 1, 1) := by decide +kernel
theorem dX9_tell_56 : decode cX9_tell 56 = .ok (.iaload, 1) := by decide +kernel
theorem dX9_tell_57 : decode cX9_tell 57 = .ok (.istore_n 3, 1) := by decide +kernel
theorem dX9_tell_58 : decode cX9_tell 58 = .ok (.iload_n 2, 1) := by decide +kernel
theorem dX9_tell_59 : decode cX9_tell 59 = .ok (.ifCond .ne 7, 3) := by decide +kernel
theorem dX9_tell_62 : decode cX9_tell 62 = .ok (.iload_n 3, 1) := by decide +kernel
theorem dX9_tell_63 : decode cX9_tell 63 = .ok (.goto 21, 3) := by decide +kernel
theorem dX9_tell_66 : decode cX9_tell 66 = .ok (.iload_n 2, 1) := by decide +kernel
theorem dX9_tell_67 : decode cX9_tell 67 = .ok (.iconst 1, 1) := by decide +kernel
theorem dX9_tell_68 : decode cX9_tell 68 = .ok (.if_icmp .ne 10, 3) := by decide +kernel
theorem dX9_tell_71 : decode cX9_tell 71 = .ok (.iload_n 3, 1) := by decide +kernel
theorem dX9_tell_72 : decode cX9_tell 72 = .ok (.bipush 100, 2) := by decide +kernel
theorem dX9_tell_74 : decode cX9_tell 74 = .ok (.iadd, 1) := by decide +kernel
theorem dX9_tell_75 : decode cX9_tell 75 = .ok (.goto 9, 3) := by decide +kernel
theorem dX9_tell_78 : decode cX9_tell 78 = .ok (.iconst 2, 1) := by decide +kernel
theorem dX9_tell_79 : decode cX9_tell 79 = .ok (.iload_n 3, 1) := by decide +kernel
theorem dX9_tell_80 : decode cX9_tell 80 = .ok (.imul, 1) := by decide +kernel
theorem dX9_tell_81 : decode cX9_tell 81 = .ok (.bipush 100, 2) := by decide +kernel
theorem dX9_tell_83 : decode cX9_tell 83 = .ok (.iadd, 1) := by decide +kernel
theorem dX9_tell_84 : decode cX9_tell 84 = .ok (.ireturn, 1) := by decide +kernel
theorem dX9_greet_0 : decode cX9_greet 0 = .ok (.aload_n 0, 1) := by decide +kernel
theorem dX9_greet_1 : decode cX9_greet 1 = .ok (.iload_n 1, 1) := by decide +kernel
theorem dX9_greet_2 : decode cX9_greet 2 = .ok (.invokevirtual 180, 3) := by decide +kernel
theorem dX9_greet_5 : decode cX9_greet 5 = .ok (.ifCond .eq 5, 3) := by decide +kernel
theorem dX9_greet_8 : decode cX9_greet 8 = .ok (.iconst (-1), 1) := by decide +kernel
theorem dX9_greet_9 : decode cX9_greet 9 = .ok (.ireturn, 1) := by decide +kernel
theorem dX9_greet_10 : decode cX9_greet 10 = .ok (.aload_n 0, 1) := by decide +kernel
theorem dX9_greet_11 : decode cX9_greet 11 = .ok (.aload_n 0, 1) := by decide +kernel
theorem dX9_greet_12 : decode cX9_greet 12 = .ok (.getfield 13, 3) := by decide +kernel
theorem dX9_greet_15 : decode cX9_greet 15 = .ok (.iload_n 1, 1) := by decide +kernel
theorem dX9_greet_16 : decode cX9_greet 16 = .ok (.iaload, 1) := by decide +kernel
theorem dX9_greet_17 : decode cX9_greet 17 = .ok (.iconst 2, 1) := by decide +kernel
theorem dX9_greet_18 : decode cX9_greet 18 = .ok (.if_icmp .ne 7, 3) := by decide +kernel
theorem dX9_greet_21 : decode cX9_greet 21 = .ok (.iconst 5, 1) := by decide +kernel
theorem dX9_greet_22 : decode cX9_greet 22 = .ok (.goto 4, 3) := by decide +kernel
theorem dX9_greet_25 : decode cX9_greet 25 = .ok (.iconst 4, 1) := by decide +kernel
theorem dX9_greet_26 : decode cX9_greet 26 = .ok (.invokevirtual 315, 3) := by decide +kernel
theorem dX9_greet_29 : decode cX9_greet 29 = .ok (.aload_n 0, 1) := by decide +kernel
theorem dX9_greet_30 : decode cX9_greet 30 = .ok (.getfield 13, 3) := by decide +kernel
theorem dX9_greet_33 : decode cX9_greet 33 = .ok (.iload_n 1, 1) := by decide +kernel
theorem dX9_greet_34 : decode cX9_greet 34 = .ok (.iaload, 1) := by decide +kernel
theorem dX9_greet_35 : decode cX9_greet 35 = .ok (.iconst 2, 1) := by decide +kernel
theorem dX9_greet_36 : decode cX9_greet 36 = .ok (.if_icmp .ne 8, 3) := by decide +kernel
theorem dX9_greet_39 : decode cX9_greet 39 = .ok (.bipush 60, 2) := by decide +kernel
theorem dX9_greet_41 : decode cX9_greet 41 = .ok (.goto 9, 3) := by decide +kernel
theorem dX9_greet_44 : decode cX9_greet 44 = .ok (.aload_n 0, 1) := by decide +kernel
theorem dX9_greet_45 : decode cX9_greet 45 = .ok (.getfield 16, 3) := by decide +kernel
theorem dX9_greet_48 : decode cX9_greet 48 = .ok (.iload_n 1, 1) := by decide +kernel
theorem dX9_greet_49 : decode cX9_greet 49 = .ok (.iaload, 1) := by decide +kernel
theorem dX9_greet_50 : decode cX9_greet 50 = .ok (.ireturn, 1) := by decide +kernel
theorem dX9_as_0 : decode cX9_as 0 = .ok (.aload_n 0, 1) := by decide +kernel
theorem dX9_as_1 : decode cX9_as 1 = .ok (.iload_n 1, 1) := by decide +kernel
theorem dX9_as_2 : decode cX9_as 2 = .ok (.invokevirtual 180, 3) := by decide +kernel
theorem dX9_as_5 : decode cX9_as 5 = .ok (.ifCond .eq 9, 3) := by decide +kernel
theorem dX9_as_8 : decode cX9_as 8 = .ok (.aload_n 0, 1) := by decide +kernel
theorem dX9_as_9 : decode cX9_as 9 = .ok (.iconst (-1), 1) := by decide +kernel
theorem dX9_as_10 : decode cX9_as 10 = .ok (.invokevirtual 150, 3) := by decide +kernel
theorem dX9_as_13 : decode cX9_as 13 = .ok (.ireturn, 1) := by decide +kernel
theorem dX9_as_14 : decode cX9_as 14 = .ok (.iload_n 2, 1) := by decide +kernel
theorem dX9_as_15 : decode cX9_as 15 = .ok (.i2l, 1) := by decide +kernel
theorem dX9_as_16 : decode cX9_as 16 = .ok (.lconst 0, 1) := by decide +kernel
theorem dX9_as_17 : decode cX9_as 17 = .ok (.ldc2_w 153, 3) := by decide +kernel
theorem dX9_as_20 : decode cX9_as 20 = .ok (.invokestatic 107, 3) := by decide +kernel
theorem dX9_as_23 : decode cX9_as 23 = .ok (.ifCond .ne 10, 3) := by decide +kernel
theorem dX9_as_26 : decode cX9_as 26 = .ok (.aload_n 0, 1) := by decide +kernel
theorem dX9_as_27 : decode cX9_as 27 = .ok (.bipush (-2), 2) := by decide +kernel
theorem dX9_as_29 : decode cX9_as 29 = .ok (.invokevirtual 150, 3) := by decide +kernel
theorem dX9_as_32 : decode cX9_as 32 = .ok (.ireturn, 1) := by decide +kernel
theorem dX9_as_33 : decode cX9_as 33 = .ok (.aload_n 0, 1) := by decide +kernel
theorem dX9_as_34 : decode cX9_as 34 = .ok (.getfield 13, 3) := by decide +kernel
theorem dX9_as_37 : decode cX9_as 37 = .ok (.iload_n 1, 1) := by decide +kernel
theorem dX9_as_38 : decode cX9_as 38 = .ok (.iaload, 1) := by decide +kernel
theorem dX9_as_39 : decode cX9_as 39 = .ok (.iload_n 2, 1) := by decide +kernel
theorem dX9_as_40 : decode cX9_as 40 = .ok (.if_icmp .lt 11, 3) := by decide +kernel
theorem dX9_as_43 : decode cX9_as 43 = .ok (.aload_n 0, 1) := by decide +kernel
theorem dX9_as_44 : decode cX9_as 44 = .ok (.iconst 1, 1) := by decide +kernel
theorem dX9_as_45 : decode cX9_as 45 = .ok (.invokevirtual 150, 3) := by decide +kernel
theorem dX9_as_48 : decode cX9_as 48 = .ok (.goto 8, 3) := by decide +kernel
theorem dX9_as_51 : decode cX9_as 51 = .ok (.aload_n 0, 1) := by decide +kernel
theorem dX9_as_52 : decode cX9_as 52 = .ok (.iconst 2, 1) := by decide +kernel
theorem dX9_as_53 : decode cX9_as 53 = .ok (.invokevirtual 138, 3) := by decide +kernel
theorem dX9_as_56 : decode cX9_as 56 = .ok (.ireturn, 1) := by decide +kernel
theorem dX9_trace_0 : decode cX9_trace 0 = .ok (.aload_n 0, 1) := by decide +kernel
theorem dX9_trace_1 : decode cX9_trace 1 = .ok (.getfield 312, 3) := by decide +kernel
theorem dX9_trace_4 : decode cX9_trace 4 = .ok (.ireturn, 1) := by decide +kernel
theorem dX9_fault_0 : decode cX9_fault 0 = .ok (.aload_n 0, 1) := by decide +kernel
theorem dX9_fault_1 : decode cX9_fault 1 = .ok (.getfield 96, 3) := by decide +kernel
theorem dX9_fault_4 : decode cX9_fault 4 = .ok (.ireturn, 1) := by decide +kernel
theorem dX9_many_0 : decode cX9_many 0 = .ok (.iconst 0, 1) := by decide +kernel
theorem dX9_many_1 : decode cX9_many 1 = .ok (.istore_n 2, 1) := by decide +kernel
theorem dX9_many_2 : decode cX9_many 2 = .ok (.iconst 0, 1) := by decide +kernel
theorem dX9_many_3 : decode cX9_many 3 = .ok (.istore_n 3, 1) := by decide +kernel
theorem dX9_many_4 : decode cX9_many 4 = .ok (.iload_n 3, 1) := by decide +kernel
theorem dX9_many_5 : decode cX9_many 5 = .ok (.aload_n 0, 1) := by decide +kernel
theorem dX9_many_6 : decode cX9_many 6 = .ok (.getfield 111, 3) := by decide +kernel
theorem dX9_many_9 : decode cX9_many 9 = .ok (.if_icmp .ge 18, 3) := by decide +kernel
theorem dX9_many_12 : decode cX9_many 12 = .ok (.iload_n 2, 1) := by decide +kernel
theorem dX9_many_13 : decode cX9_many 13 = .ok (.aload_n 0, 1) := by decide +kernel
theorem dX9_many_14 : decode cX9_many 14 = .ok (.getfield 7, 3) := by decide +kernel
theorem dX9_many_17 : decode cX9_many 17 = .ok (.iload_n 3, 1) := by decide +kernel
theorem dX9_many_18 : decode cX9_many 18 = .ok (.iaload, 1) := by decide +kernel
theorem dX9_many_19 : decode cX9_many 19 = .ok (.iadd, 1) := by decide +kernel
theorem dX9_many_20 : decode cX9_many 20 = .ok (.istore_n 2, 1) := by decide +kernel
theorem dX9_many_21 : decode cX9_many 21 = .ok (.iinc 3 1, 3) := by decide +kernel
theorem dX9_many_24 : decode cX9_many 24 = .ok (.goto (-20), 3) := by decide +kernel
theorem dX9_many_27 : decode cX9_many 27 = .ok (.iload_n 1, 1) := by decide +kernel
theorem dX9_many_28 : decode cX9_many 28 = .ok (.tableswitch 76 0 6 #[44, 49, 54, 59, 61, 66, 71], 44) := by decide +kernel
theorem dX9_many_72 : decode cX9_many 72 = .ok (.aload_n 0, 1) := by decide +kernel
theorem dX9_many_73 : decode cX9_many 73 = .ok (.getfield 111, 3) := by decide +kernel
theorem dX9_many_76 : decode cX9_many 76 = .ok (.ireturn, 1) := by decide +kernel
theorem dX9_many_77 : decode cX9_many 77 = .ok (.aload_n 0, 1) := by decide +kernel
theorem dX9_many_78 : decode cX9_many 78 = .ok (.getfield 104, 3) := by decide +kernel
theorem dX9_many_81 : decode cX9_many 81 = .ok (.ireturn, 1) := by decide +kernel
theorem dX9_many_82 : decode cX9_many 82 = .ok (.aload_n 0, 1) := by decide +kernel
theorem dX9_many_83 : decode cX9_many 83 = .ok (.invokevirtual 260, 3) := by decide +kernel
theorem dX9_many_86 : decode cX9_many 86 = .ok (.ireturn, 1) := by decide +kernel
theorem dX9_many_87 : decode cX9_many 87 = .ok (.iload_n 2, 1) := by decide +kernel
theorem dX9_many_88 : decode cX9_many 88 = .ok (.ireturn, 1) := by decide +kernel
theorem dX9_many_89 : decode cX9_many 89 = .ok (.aload_n 0, 1) := by decide +kernel
theorem dX9_many_90 : decode cX9_many 90 = .ok (.getfield 168, 3) := by decide +kernel
theorem dX9_many_93 : decode cX9_many 93 = .ok (.ireturn, 1) := by decide +kernel
theorem dX9_many_94 : decode cX9_many 94 = .ok (.aload_n 0, 1) := by decide +kernel
theorem dX9_many_95 : decode cX9_many 95 = .ok (.getfield 162, 3) := by decide +kernel
theorem dX9_many_98 : decode cX9_many 98 = .ok (.ireturn, 1) := by decide +kernel
theorem dX9_many_99 : decode cX9_many 99 = .ok (.aload_n 0, 1) := by decide +kernel
theorem dX9_many_100 : decode cX9_many 100 = .ok (.getfield 165, 3) := by decide +kernel
theorem dX9_many_103 : decode cX9_many 103 = .ok (.ireturn, 1) := by decide +kernel
theorem dX9_many_104 : decode cX9_many 104 = .ok (.bipush (-2), 2) := by decide +kernel
theorem dX9_many_106 : decode cX9_many 106 = .ok (.ireturn, 1) := by decide +kernel
