theorem dX9_init_0 : decode cX9_init 0 = .ok (.aload_n 0, 1) := by decide +kernel
theorem dX9_init_1 : decode cX9_init 1 = .ok (.invokespecial 1, 3) := by decide +kernel
theorem dX9_init_4 : decode cX9_init 4 = .ok (.aload_n 0, 1) := by decide +kernel
theorem dX9_init_5 : decode cX9_init 5 = .ok (.iconst 3, 1) := by decide +kernel
theorem dX9_init_6 : decode cX9_init 6 = .ok (.newarray .int, 2) := by decide +kernel
theorem dX9_init_8 : decode cX9_init 8 = .ok (.putfield 7, 3) := by decide +kernel
theorem dX9_init_11 : decode cX9_init 11 = .ok (.aload_n 0, 1) := by decide +kernel
theorem dX9_init_12 : decode cX9_init 12 = .ok (.bipush 6, 2) := by decide +kernel
theorem dX9_init_14 : decode cX9_init 14 = .ok (.newarray .int, 2) := by decide +kernel
theorem dX9_init_16 : decode cX9_init 16 = .ok (.putfield 13, 3) := by decide +kernel
theorem dX9_init_19 : decode cX9_init 19 = .ok (.aload_n 0, 1) := by decide +kernel
theorem dX9_init_20 : decode cX9_init 20 = .ok (.bipush 6, 2) := by decide +kernel
theorem dX9_init_22 : decode cX9_init 22 = .ok (.newarray .int, 2) := by decide +kernel
theorem dX9_init_24 : decode cX9_init 24 = .ok (.putfield 16, 3) := by decide +kernel
theorem dX9_init_27 : decode cX9_init 27 = .ok (.aload_n 0, 1) := by decide +kernel
theorem dX9_init_28 : decode cX9_init 28 = .ok (.bipush 6, 2) := by decide +kernel
theorem dX9_init_30 : decode cX9_init 30 = .ok (.newarray .int, 2) := by decide +kernel
theorem dX9_init_32 : decode cX9_init 32 = .ok (.putfield 19, 3) := by decide +kernel
theorem dX9_init_35 : decode cX9_init 35 = .ok (.aload_n 0, 1) := by decide +kernel
theorem dX9_init_36 : decode cX9_init 36 = .ok (.bipush 6, 2) := by decide +kernel
theorem dX9_init_38 : decode cX9_init 38 = .ok (.newarray .int, 2) := by decide +kernel
theorem dX9_init_40 : decode cX9_init 40 = .ok (.putfield 22, 3) := by decide +kernel
theorem dX9_init_43 : decode cX9_init 43 = .ok (.aload_n 0, 1) := by decide +kernel
theorem dX9_init_44 : decode cX9_init 44 = .ok (.bipush 6, 2) := by decide +kernel
theorem dX9_init_46 : decode cX9_init 46 = .ok (.newarray .int, 2) := by decide +kernel
theorem dX9_init_48 : decode cX9_init 48 = .ok (.putfield 25, 3) := by decide +kernel
theorem dX9_init_51 : decode cX9_init 51 = .ok (.aload_n 0, 1) := by decide +kernel
theorem dX9_init_52 : decode cX9_init 52 = .ok (.bipush 6, 2) := by decide +kernel
theorem dX9_init_54 : decode cX9_init 54 = .ok (.newarray .int, 2) := by decide +kernel
theorem dX9_init_56 : decode cX9_init 56 = .ok (.putfield 28, 3) := by decide +kernel
theorem dX9_init_59 : decode cX9_init 59 = .ok (.aload_n 0, 1) := by decide +kernel
theorem dX9_init_60 : decode cX9_init 60 = .ok (.iconst 3, 1) := by decide +kernel
theorem dX9_init_61 : decode cX9_init 61 = .ok (.newarray .int, 2) := by decide +kernel
theorem dX9_init_63 : decode cX9_init 63 = .ok (.putfield 31, 3) := by decide +kernel
theorem dX9_init_66 : decode cX9_init 66 = .ok (.aload_n 0, 1) := by decide +kernel
theorem dX9_init_67 : decode cX9_init 67 = .ok (.bipush 6, 2) := by decide +kernel
theorem dX9_init_69 : decode cX9_init 69 = .ok (.newarray .int, 2) := by decide +kernel
theorem dX9_init_71 : decode cX9_init 71 = .ok (.putfield 34, 3) := by decide +kernel
theorem dX9_init_74 : decode cX9_init 74 = .ok (.aload_n 0, 1) := by decide +kernel
theorem dX9_init_75 : decode cX9_init 75 = .ok (.bipush 6, 2) := by decide +kernel
theorem dX9_init_77 : decode cX9_init 77 = .ok (.newarray .int, 2) := by decide +kernel
theorem dX9_init_79 : decode cX9_init 79 = .ok (.putfield 37, 3) := by decide +kernel
theorem dX9_init_82 : decode cX9_init 82 = .ok (.aload_n 0, 1) := by decide +kernel
theorem dX9_init_83 : decode cX9_init 83 = .ok (.bipush 6, 2) := by decide +kernel
theorem dX9_init_85 : decode cX9_init 85 = .ok (.newarray .int, 2) := by decide +kernel
theorem dX9_init_87 : decode cX9_init 87 = .ok (.putfield 40, 3) := by decide +kernel
theorem dX9_init_90 : decode cX9_init 90 = .ok (.aload_n 0, 1) := by decide +kernel
theorem dX9_init_91 : decode cX9_init 91 = .ok (.bipush 6, 2) := by decide +kernel
theorem dX9_init_93 : decode cX9_init 93 = .ok (.newarray .int, 2) := by decide +kernel
theorem dX9_init_95 : decode cX9_init 95 = .ok (.putfield 43, 3) := by decide +kernel
theorem dX9_init_98 : decode cX9_init 98 = .ok (.aload_n 0, 1) := by decide +kernel
theorem dX9_init_99 : decode cX9_init 99 = .ok (.bipush 6, 2) := by decide +kernel
theorem dX9_init_101 : decode cX9_init 101 = .ok (.newarray .int, 2) := by decide +kernel
theorem dX9_init_103 : decode cX9_init 103 = .ok (.putfield 46, 3) := by decide +kernel
theorem dX9_init_106 : decode cX9_init 106 = .ok (.aload_n 0, 1) := by decide +kernel
theorem dX9_init_107 : decode cX9_init 107 = .ok (.bipush 6, 2) := by decide +kernel
theorem dX9_init_109 : decode cX9_init 109 = .ok (.newarray .int, 2) := by decide +kernel
theorem dX9_init_111 : decode cX9_init 111 = .ok (.putfield 49, 3) := by decide +kernel
theorem dX9_init_114 : decode cX9_init 114 = .ok (.aload_n 0, 1) := by decide +kernel
theorem dX9_init_115 : decode cX9_init 115 = .ok (.bipush 6, 2) := by decide +kernel
theorem dX9_init_117 : decode cX9_init 117 = .ok (.newarray .int, 2) := by decide +kernel
theorem dX9_init_119 : decode cX9_init 119 = .ok (.putfield 52, 3) := by decide +kernel
theorem dX9_init_122 : decode cX9_init 122 = .ok (.aload_n 0, 1) := by decide +kernel
theorem dX9_init_123 : decode cX9_init 123 = .ok (.iconst 3, 1) := by decide +kernel
theorem dX9_init_124 : decode cX9_init 124 = .ok (.newarray .int, 2) := by decide +kernel
theorem dX9_init_126 : decode cX9_init 126 = .ok (.putfield 55, 3) := by decide +kernel
theorem dX9_init_129 : decode cX9_init 129 = .ok (.aload_n 0, 1) := by decide +kernel
theorem dX9_init_130 : decode cX9_init 130 = .ok (.iconst 3, 1) := by decide +kernel
theorem dX9_init_131 : decode cX9_init 131 = .ok (.newarray .int, 2) := by decide +kernel
theorem dX9_init_133 : decode cX9_init 133 = .ok (.putfield 58, 3) := by decide +kernel
theorem dX9_init_136 : decode cX9_init 136 = .ok (.aload_n 0, 1) := by decide +kernel
theorem dX9_init_137 : decode cX9_init 137 = .ok (.bipush 6, 2) := by decide +kernel
theorem dX9_init_139 : decode cX9_init 139 = .ok (.newarray .int, 2) := by decide +kernel
theorem dX9_init_141 : decode cX9_init 141 = .ok (.putfield 61, 3) := by decide +kernel
theorem dX9_init_144 : decode cX9_init 144 = .ok (.aload_n 0, 1) := by decide +kernel
theorem dX9_init_145 : decode cX9_init 145 = .ok (.bipush 6, 2) := by decide +kernel
theorem dX9_init_147 : decode cX9_init 147 = .ok (.newarray .int, 2) := by decide +kernel
theorem dX9_init_149 : decode cX9_init 149 = .ok (.putfield 64, 3) := by decide +kernel
theorem dX9_init_152 : decode cX9_init 152 = .ok (.aload_n 0, 1) := by decide +kernel
theorem dX9_init_153 : decode cX9_init 153 = .ok (.iconst 3, 1) := by decide +kernel
theorem dX9_init_154 : decode cX9_init 154 = .ok (.newarray .int, 2) := by decide +kernel
theorem dX9_init_156 : decode cX9_init 156 = .ok (.putfield 67, 3) := by decide +kernel
theorem dX9_init_159 : decode cX9_init 159 = .ok (.aload_n 0, 1) := by decide +kernel
theorem dX9_init_160 : decode cX9_init 160 = .ok (.bipush 6, 2) := by decide +kernel
theorem dX9_init_162 : decode cX9_init 162 = .ok (.newarray .int, 2) := by decide +kernel
theorem dX9_init_164 : decode cX9_init 164 = .ok (.putfield 70, 3) := by decide +kernel
theorem dX9_init_167 : decode cX9_init 167 = .ok (.aload_n 0, 1) := by decide +kernel
theorem dX9_init_168 : decode cX9_init 168 = .ok (.sipush 301, 3) := by decide +kernel
theorem dX9_init_171 : decode cX9_init 171 = .ok (.newarray .int, 2) := by decide +kernel
theorem dX9_init_173 : decode cX9_init 173 = .ok (.putfield 73, 3) := by decide +kernel
theorem dX9_init_176 : decode cX9_init 176 = .ok (.aload_n 0, 1) := by decide +kernel
theorem dX9_init_177 : decode cX9_init 177 = .ok (.bipush 8, 2) := by decide +kernel
theorem dX9_init_179 : decode cX9_init 179 = .ok (.newarray .int, 2) := by decide +kernel
theorem dX9_init_181 : decode cX9_init 181 = .ok (.putfield 76, 3) := by decide +kernel
theorem dX9_init_184 : decode cX9_init 184 = .ok (.aload_n 0, 1) := by decide +kernel
theorem dX9_init_185 : decode cX9_init 185 = .ok (.bipush 8, 2) := by decide +kernel
theorem dX9_init_187 : decode cX9_init 187 = .ok (.newarray .int, 2) := by decide +kernel
theorem dX9_init_189 : decode cX9_init 189 = .ok (.putfield 79, 3) := by decide +kernel
theorem dX9_init_192 : decode cX9_init 192 = .ok (.aload_n 0, 1) := by decide +kernel
theorem dX9_init_193 : decode cX9_init 193 = .ok (.iconst 4, 1) := by decide +kernel
theorem dX9_init_194 : decode cX9_init 194 = .ok (.newarray .int, 2) := by decide +kernel
theorem dX9_init_196 : decode cX9_init 196 = .ok (.putfield 82, 3) := by decide +kernel
theorem dX9_init_199 : decode cX9_init 199 = .ok (.aload_n 0, 1) := by decide +kernel
theorem dX9_init_200 : decode cX9_init 200 = .ok (.iconst 4, 1) := by decide +kernel
theorem dX9_init_201 : decode cX9_init 201 = .ok (.newarray .int, 2) := by decide +kernel
theorem dX9_init_203 : decode cX9_init 203 = .ok (.putfield 85, 3) := by decide +kernel
theorem dX9_init_206 : decode cX9_init 206 = .ok (.aload_n 0, 1) := by decide +kernel
theorem dX9_init_207 : decode cX9_init 207 = .ok (.sipush 240, 3) := by decide +kernel
theorem dX9_init_210 : decode cX9_init 210 = .ok (.newarray .int, 2) := by decide +kernel
theorem dX9_init_212 : decode cX9_init 212 = .ok (.putfield 88, 3) := by decide +kernel
theorem dX9_init_215 : decode cX9_init 215 = .ok (.aload_n 0, 1) := by decide +kernel
theorem dX9_init_216 : decode cX9_init 216 = .ok (.bipush 60, 2) := by decide +kernel
theorem dX9_init_218 : decode cX9_init 218 = .ok (.newarray .int, 2) := by decide +kernel
theorem dX9_init_220 : decode cX9_init 220 = .ok (.putfield 91, 3) := by decide +kernel
theorem dX9_init_223 : decode cX9_init 223 = .ok (.iconst 0, 1) := by decide +kernel
theorem dX9_init_224 : decode cX9_init 224 = .ok (.istore_n 1, 1) := by decide +kernel
theorem dX9_init_225 : decode cX9_init 225 = .ok (.iload_n 1, 1) := by decide +kernel
theorem dX9_init_226 : decode cX9_init 226 = .ok (.iconst 4, 1) := by decide +kernel
theorem dX9_init_227 : decode cX9_init 227 = .ok (.if_icmp .ge 16, 3) := by decide +kernel
theorem dX9_init_230 : decode cX9_init 230 = .ok (.aload_n 0, 1) := by decide +kernel
theorem dX9_init_231 : decode cX9_init 231 = .ok (.getfield 82, 3) := by decide +kernel
theorem dX9_init_234 : decode cX9_init 234 = .ok (.iload_n 1, 1) := by decide +kernel
theorem dX9_init_235 : decode cX9_init 235 = .ok (.iconst (-1), 1) := by decide +kernel
theorem dX9_init_236 : decode cX9_init 236 = .ok (.iastore, 1) := by decide +kernel
theorem dX9_init_237 : decode cX9_init 237 = .ok (.iinc 1 1, 3) := by decide +kernel
theorem dX9_init_240 : decode cX9_init 240 = .ok (.goto (-15), 3) := by decide +kernel
theorem dX9_init_243 : decode cX9_init 243 = .ok (.return_, 1) := by decide +kernel
theorem dX9_in_0 : decode cX9_in 0 = .ok (.lload_n 0, 1) := by decide +kernel
theorem dX9_in_1 : decode cX9_in 1 = .ok (.lload_n 2, 1) := by decide +kernel
theorem dX9_in_2 : decode cX9_in 2 = .ok (.lcmp, 1) := by decide +kernel
theorem dX9_in_3 : decode cX9_in 3 = .ok (.ifCond .lt 14, 3) := by decide +kernel
theorem dX9_in_6 : decode cX9_in 6 = .ok (.lload_n 0, 1) := by decide +kernel
theorem dX9_in_7 : decode cX9_in 7 = .ok (.lload 4, 2) := by decide +kernel
theorem dX9_in_9 : decode cX9_in 9 = .ok (.lcmp, 1) := by decide +kernel
theorem dX9_in_10 : decode cX9_in 10 = .ok (.ifCond .gt 7, 3) := by decide +kernel
theorem dX9_in_13 : decode cX9_in 13 = .ok (.iconst 1, 1) := by decide +kernel
theorem dX9_in_14 : decode cX9_in 14 = .ok (.goto 4, 3) := by decide +kernel
theorem dX9_in_17 : decode cX9_in 17 = .ok (.iconst 0, 1) := by decide +kernel
theorem dX9_in_18 : decode cX9_in 18 = .ok (.ireturn, 1) := by decide +kernel
theorem dX9_lost_0 : decode cX9_lost 0 = .ok (.ldc2_w 94, 3) := by decide +kernel
theorem dX9_lost_3 : decode cX9_lost 3 = .ok (.lreturn, 1) := by decide +kernel
theorem dX9_bits_0 : decode cX9_bits 0 = .ok (.iconst 0, 1) := by decide +kernel
theorem dX9_bits_1 : decode cX9_bits 1 = .ok (.istore_n 1, 1) := by decide +kernel
theorem dX9_bits_2 : decode cX9_bits 2 = .ok (.iload_n 0, 1) := by decide +kernel
theorem dX9_bits_3 : decode cX9_bits 3 = .ok (.istore_n 2, 1) := by decide +kernel
theorem dX9_bits_4 : decode cX9_bits 4 = .ok (.iload_n 2, 1) := by decide +kernel
theorem dX9_bits_5 : decode cX9_bits 5 = .ok (.ifCond .le 16, 3) := by decide +kernel
theorem dX9_bits_8 : decode cX9_bits 8 = .ok (.iload_n 1, 1) := by decide +kernel
theorem dX9_bits_9 : decode cX9_bits 9 = .ok (.iload_n 2, 1) := by decide +kernel
theorem dX9_bits_10 : decode cX9_bits 10 = .ok (.iconst 1, 1) := by decide +kernel
theorem dX9_bits_11 : decode cX9_bits 11 = .ok (.iand, 1) := by decide +kernel
theorem dX9_bits_12 : decode cX9_bits 12 = .ok (.iadd, 1) := by decide +kernel
theorem dX9_bits_13 : decode cX9_bits 13 = .ok (.istore_n 1, 1) := by decide +kernel
theorem dX9_bits_14 : decode cX9_bits 14 = .ok (.iload_n 2, 1) := by decide +kernel
theorem dX9_bits_15 : decode cX9_bits 15 = .ok (.iconst 1, 1) := by decide +kernel
theorem dX9_bits_16 : decode cX9_bits 16 = .ok (.ishr, 1) := by decide +kernel
theorem dX9_bits_17 : decode cX9_bits 17 = .ok (.istore_n 2, 1) := by decide +kernel
theorem dX9_bits_18 : decode cX9_bits 18 = .ok (.goto (-14), 3) := by decide +kernel
theorem dX9_bits_21 : decode cX9_bits 21 = .ok (.iload_n 1, 1) := by decide +kernel
theorem dX9_bits_22 : decode cX9_bits 22 = .ok (.ireturn, 1) := by decide +kernel
theorem dX9_share_0 : decode cX9_share 0 = .ok (.lload_n 0, 1) := by decide +kernel
theorem dX9_share_1 : decode cX9_share 1 = .ok (.lstore 5, 2) := by decide +kernel
theorem dX9_share_3 : decode cX9_share 3 = .ok (.lload_n 2, 1) := by decide +kernel
theorem dX9_share_4 : decode cX9_share 4 = .ok (.lstore 7, 2) := by decide +kernel
theorem dX9_share_6 : decode cX9_share 6 = .ok (.lload 7, 2) := by decide +kernel
theorem dX9_share_8 : decode cX9_share 8 = .ok (.lconst 0, 1) := by decide +kernel
theorem dX9_share_9 : decode cX9_share 9 = .ok (.lcmp, 1) := by decide +kernel
theorem dX9_share_10 : decode cX9_share 10 = .ok (.ifCond .eq 21, 3) := by decide +kernel
theorem dX9_share_13 : decode cX9_share 13 = .ok (.lload 5, 2) := by decide +kernel
theorem dX9_share_15 : decode cX9_share 15 = .ok (.lload 7, 2) := by decide +kernel
theorem dX9_share_17 : decode cX9_share 17 = .ok (.lrem, 1) := by decide +kernel
theorem dX9_share_18 : decode cX9_share 18 = .ok (.lstore 9, 2) := by decide +kernel
theorem dX9_share_20 : decode cX9_share 20 = .ok (.lload 7, 2) := by decide +kernel
theorem dX9_share_22 : decode cX9_share 22 = .ok (.lstore 5, 2) := by decide +kernel
theorem dX9_share_24 : decode cX9_share 24 = .ok (.lload 9, 2) := by decide +kernel
theorem dX9_share_26 : decode cX9_share 26 = .ok (.lstore 7, 2) := by decide +kernel
theorem dX9_share_28 : decode cX9_share 28 = .ok (.goto (-22), 3) := by decide +kernel
theorem dX9_share_31 : decode cX9_share 31 = .ok (.iload 4, 2) := by decide +kernel
theorem dX9_share_33 : decode cX9_share 33 = .ok (.ifCond .ne 7, 3) := by decide +kernel
theorem dX9_share_36 : decode cX9_share 36 = .ok (.lload_n 0, 1) := by decide +kernel
theorem dX9_share_37 : decode cX9_share 37 = .ok (.goto 4, 3) := by decide +kernel
theorem dX9_share_40 : decode cX9_share 40 = .ok (.lload_n 2, 1) := by decide +kernel
theorem dX9_share_41 : decode cX9_share 41 = .ok (.lload 5, 2) := by decide +kernel
theorem dX9_share_43 : decode cX9_share 43 = .ok (.ldiv, 1) := by decide +kernel
theorem dX9_share_44 : decode cX9_share 44 = .ok (.lreturn, 1) := by decide +kernel
theorem dX9_refused_0 : decode cX9_refused 0 = .ok (.aload_n 0, 1) := by decide +kernel
theorem dX9_refused_1 : decode cX9_refused 1 = .ok (.iconst 0, 1) := by decide +kernel
theorem dX9_refused_2 : decode cX9_refused 2 = .ok (.putfield 96, 3) := by decide +kernel
theorem dX9_refused_5 : decode cX9_refused 5 = .ok (.iload_n 1, 1) := by decide +kernel
theorem dX9_refused_6 : decode cX9_refused 6 = .ok (.ireturn, 1) := by decide +kernel
theorem dX9_failed_0 : decode cX9_failed 0 = .ok (.aload_n 0, 1) := by decide +kernel
theorem dX9_failed_1 : decode cX9_failed 1 = .ok (.iload_n 1, 1) := by decide +kernel
theorem dX9_failed_2 : decode cX9_failed 2 = .ok (.putfield 96, 3) := by decide +kernel
theorem dX9_failed_5 : decode cX9_failed 5 = .ok (.bipush (-10), 2) := by decide +kernel
theorem dX9_failed_7 : decode cX9_failed 7 = .ok (.iload_n 1, 1) := by decide +kernel
theorem dX9_failed_8 : decode cX9_failed 8 = .ok (.isub, 1) := by decide +kernel
theorem dX9_failed_9 : decode cX9_failed 9 = .ok (.ireturn, 1) := by decide +kernel
theorem dX9_failedLong_0 : decode cX9_failedLong 0 = .ok (.aload_n 0, 1) := by decide +kernel
theorem dX9_failedLong_1 : decode cX9_failedLong 1 = .ok (.iload_n 1, 1) := by decide +kernel
theorem dX9_failedLong_2 : decode cX9_failedLong 2 = .ok (.putfield 96, 3) := by decide +kernel
theorem dX9_failedLong_5 : decode cX9_failedLong 5 = .ok (.invokestatic 100, 3) := by decide +kernel
theorem dX9_failedLong_8 : decode cX9_failedLong 8 = .ok (.lreturn, 1) := by decide +kernel
theorem dX9_noComer_0 : decode cX9_noComer 0 = .ok (.iload_n 1, 1) := by decide +kernel
theorem dX9_noComer_1 : decode cX9_noComer 1 = .ok (.i2l, 1) := by decide +kernel
theorem dX9_noComer_2 : decode cX9_noComer 2 = .ok (.lconst 0, 1) := by decide +kernel
theorem dX9_noComer_3 : decode cX9_noComer 3 = .ok (.aload_n 0, 1) := by decide +kernel
theorem dX9_noComer_4 : decode cX9_noComer 4 = .ok (.getfield 104, 3) := by decide +kernel
theorem dX9_noComer_7 : decode cX9_noComer 7 = .ok (.i2l, 1) := by decide +kernel
theorem dX9_noComer_8 : decode cX9_noComer 8 = .ok (.lconst 1, 1) := by decide +kernel
theorem dX9_noComer_9 : decode cX9_noComer 9 = .ok (.lsub, 1) := by decide +kernel
theorem dX9_noComer_10 : decode cX9_noComer 10 = .ok (.invokestatic 107, 3) := by decide +kernel
theorem dX9_noComer_13 : decode cX9_noComer 13 = .ok (.ifCond .ne 7, 3) := by decide +kernel
theorem dX9_noComer_16 : decode cX9_noComer 16 = .ok (.iconst 1, 1) := by decide +kernel
theorem dX9_noComer_17 : decode cX9_noComer 17 = .ok (.goto 4, 3) := by decide +kernel
theorem dX9_noComer_20 : decode cX9_noComer 20 = .ok (.iconst 0, 1) := by decide +kernel
theorem dX9_noComer_21 : decode cX9_noComer 21 = .ok (.ireturn, 1) := by decide +kernel
theorem dX9_noGate_0 : decode cX9_noGate 0 = .ok (.iload_n 1, 1) := by decide +kernel
theorem dX9_noGate_1 : decode cX9_noGate 1 = .ok (.i2l, 1) := by decide +kernel
theorem dX9_noGate_2 : decode cX9_noGate 2 = .ok (.lconst 0, 1) := by decide +kernel
theorem dX9_noGate_3 : decode cX9_noGate 3 = .ok (.aload_n 0, 1) := by decide +kernel
theorem dX9_noGate_4 : decode cX9_noGate 4 = .ok (.getfield 111, 3) := by decide +kernel
theorem dX9_noGate_7 : decode cX9_noGate 7 = .ok (.i2l, 1) := by decide +kernel
theorem dX9_noGate_8 : decode cX9_noGate 8 = .ok (.lconst 1, 1) := by decide +kernel
theorem dX9_noGate_9 : decode cX9_noGate 9 = .ok (.lsub, 1) := by decide +kernel
theorem dX9_noGate_10 : decode cX9_noGate 10 = .ok (.invokestatic 107, 3) := by decide +kernel
theorem dX9_noGate_13 : decode cX9_noGate 13 = .ok (.ifCond .ne 7, 3) := by decide +kernel
theorem dX9_noGate_16 : decode cX9_noGate 16 = .ok (.iconst 1, 1) := by decide +kernel
theorem dX9_noGate_17 : decode cX9_noGate 17 = .ok (.goto 4, 3) := by decide +kernel
theorem dX9_noGate_20 : decode cX9_noGate 20 = .ok (.iconst 0, 1) := by decide +kernel
theorem dX9_noGate_21 : decode cX9_noGate 21 = .ok (.ireturn, 1) := by decide +kernel
theorem dX9_codeAt_0 : decode cX9_codeAt 0 = .ok (.aload_n 0, 1) := by decide +kernel
theorem dX9_codeAt_1 : decode cX9_codeAt 1 = .ok (.getfield 114, 3) := by decide +kernel
theorem dX9_codeAt_4 : decode cX9_codeAt 4 = .ok (.iload_n 2, 1) := by decide +kernel
theorem dX9_codeAt_5 : decode cX9_codeAt 5 = .ok (.if_icmp .ge 17, 3) := by decide +kernel
theorem dX9_codeAt_8 : decode cX9_codeAt 8 = .ok (.aload_n 0, 1) := by decide +kernel
theorem dX9_codeAt_9 : decode cX9_codeAt 9 = .ok (.getfield 88, 3) := by decide +kernel
theorem dX9_codeAt_12 : decode cX9_codeAt 12 = .ok (.iload_n 1, 1) := by decide +kernel
theorem dX9_codeAt_13 : decode cX9_codeAt 13 = .ok (.aload_n 0, 1) := by decide +kernel
theorem dX9_codeAt_14 : decode cX9_codeAt 14 = .ok (.getfield 114, 3) := by decide +kernel
theorem dX9_codeAt_17 : decode cX9_codeAt 17 = .ok (.iadd, 1) := by decide +kernel
theorem dX9_codeAt_18 : decode cX9_codeAt 18 = .ok (.iaload, 1) := by decide +kernel
theorem dX9_codeAt_19 : decode cX9_codeAt 19 = .ok (.goto 5, 3) := by decide +kernel
theorem dX9_codeAt_22 : decode cX9_codeAt 22 = .ok (.bipush (-9), 2) := by decide +kernel
theorem dX9_codeAt_24 : decode cX9_codeAt 24 = .ok (.ireturn, 1) := by decide +kernel
theorem dX9_figure_0 : decode cX9_figure 0 = .ok (.aload_n 0, 1) := by decide +kernel
theorem dX9_figure_1 : decode cX9_figure 1 = .ok (.iload_n 1, 1) := by decide +kernel
theorem dX9_figure_2 : decode cX9_figure 2 = .ok (.iload_n 2, 1) := by decide +kernel
theorem dX9_figure_3 : decode cX9_figure 3 = .ok (.invokevirtual 117, 3) := by decide +kernel
theorem dX9_figure_6 : decode cX9_figure 6 = .ok (.bipush 48, 2) := by decide +kernel
theorem dX9_figure_8 : decode cX9_figure 8 = .ok (.isub, 1) := by decide +kernel
theorem dX9_figure_9 : decode cX9_figure 9 = .ok (.istore 4, 2) := by decide +kernel
theorem dX9_figure_11 : decode cX9_figure 11 = .ok (.iload 4, 2) := by decide +kernel
theorem dX9_figure_13 : decode cX9_figure 13 = .ok (.i2l, 1) := by decide +kernel
theorem dX9_figure_14 : decode cX9_figure 14 = .ok (.lconst 0, 1) := by decide +kernel
theorem dX9_figure_15 : decode cX9_figure 15 = .ok (.iload_n 3, 1) := by decide +kernel
theorem dX9_figure_16 : decode cX9_figure 16 = .ok (.i2l, 1) := by decide +kernel
theorem dX9_figure_17 : decode cX9_figure 17 = .ok (.invokestatic 107, 3) := by decide +kernel
theorem dX9_figure_20 : decode cX9_figure 20 = .ok (.ifCond .ne 6, 3) := by decide +kernel
theorem dX9_figure_23 : decode cX9_figure 23 = .ok (.bipush (-9), 2) := by decide +kernel
theorem dX9_figure_25 : decode cX9_figure 25 = .ok (.ireturn, 1) := by decide +kernel
theorem dX9_figure_26 : decode cX9_figure 26 = .ok (.aload_n 0, 1) := by decide +kernel
theorem dX9_figure_27 : decode cX9_figure 27 = .ok (.dup, 1) := by decide +kernel
theorem dX9_figure_28 : decode cX9_figure 28 = .ok (.getfield 114, 3) := by decide +kernel
theorem dX9_figure_31 : decode cX9_figure 31 = .ok (.iconst 1, 1) := by decide +kernel
theorem dX9_figure_32 : decode cX9_figure 32 = .ok (.iadd, 1) := by decide +kernel
theorem dX9_figure_33 : decode cX9_figure 33 = .ok (.putfield 114, 3) := by decide +kernel
theorem dX9_figure_36 : decode cX9_figure 36 = .ok (.iload 4, 2) := by decide +kernel
theorem dX9_figure_38 : decode cX9_figure 38 = .ok (.ireturn, 1) := by decide +kernel
theorem dX9_readsGate_0 : decode cX9_readsGate 0 = .ok (.aload_n 0, 1) := by decide +kernel
theorem dX9_readsGate_1 : decode cX9_readsGate 1 = .ok (.getfield 121, 3) := by decide +kernel
theorem dX9_readsGate_4 : decode cX9_readsGate 4 = .ok (.iconst 3, 1) := by decide +kernel
theorem dX9_readsGate_5 : decode cX9_readsGate 5 = .ok (.if_icmp .eq 14, 3) := by decide +kernel
theorem dX9_readsGate_8 : decode cX9_readsGate 8 = .ok (.aload_n 0, 1) := by decide +kernel
theorem dX9_readsGate_9 : decode cX9_readsGate 9 = .ok (.iload_n 1, 1) := by decide +kernel
theorem dX9_readsGate_10 : decode cX9_readsGate 10 = .ok (.iload_n 2, 1) := by decide +kernel
theorem dX9_readsGate_11 : decode cX9_readsGate 11 = .ok (.invokevirtual 117, 3) := by decide +kernel
theorem dX9_readsGate_14 : decode cX9_readsGate 14 = .ok (.bipush 44, 2) := by decide +kernel
theorem dX9_readsGate_16 : decode cX9_readsGate 16 = .ok (.if_icmp .eq 5, 3) := by decide +kernel
theorem dX9_readsGate_19 : decode cX9_readsGate 19 = .ok (.iconst 0, 1) := by decide +kernel
theorem dX9_readsGate_20 : decode cX9_readsGate 20 = .ok (.ireturn, 1) := by decide +kernel
theorem dX9_readsGate_21 : decode cX9_readsGate 21 = .ok (.aload_n 0, 1) := by decide +kernel
theorem dX9_readsGate_22 : decode cX9_readsGate 22 = .ok (.dup, 1) := by decide +kernel
theorem dX9_readsGate_23 : decode cX9_readsGate 23 = .ok (.getfield 114, 3) := by decide +kernel
theorem dX9_readsGate_26 : decode cX9_readsGate 26 = .ok (.iconst 1, 1) := by decide +kernel
theorem dX9_readsGate_27 : decode cX9_readsGate 27 = .ok (.iadd, 1) := by decide +kernel
theorem dX9_readsGate_28 : decode cX9_readsGate 28 = .ok (.putfield 114, 3) := by decide +kernel
theorem dX9_readsGate_31 : decode cX9_readsGate 31 = .ok (.aload_n 0, 1) := by decide +kernel
theorem dX9_readsGate_32 : decode cX9_readsGate 32 = .ok (.iload_n 1, 1) := by decide +kernel
theorem dX9_readsGate_33 : decode cX9_readsGate 33 = .ok (.iload_n 2, 1) := by decide +kernel
theorem dX9_readsGate_34 : decode cX9_readsGate 34 = .ok (.bipush 9, 2) := by decide +kernel
theorem dX9_readsGate_36 : decode cX9_readsGate 36 = .ok (.invokevirtual 124, 3) := by decide +kernel
theorem dX9_readsGate_39 : decode cX9_readsGate 39 = .ok (.istore_n 3, 1) := by decide +kernel
theorem dX9_readsGate_40 : decode cX9_readsGate 40 = .ok (.iload_n 3, 1) := by decide +kernel
theorem dX9_readsGate_41 : decode cX9_readsGate 41 = .ok (.ifCond .ge 5, 3) := by decide +kernel
theorem dX9_readsGate_44 : decode cX9_readsGate 44 = .ok (.iconst 0, 1) := by decide +kernel
theorem dX9_readsGate_45 : decode cX9_readsGate 45 = .ok (.ireturn, 1) := by decide +kernel
theorem dX9_readsGate_46 : decode cX9_readsGate 46 = .ok (.aload_n 0, 1) := by decide +kernel
theorem dX9_readsGate_47 : decode cX9_readsGate 47 = .ok (.getfield 31, 3) := by decide +kernel
theorem dX9_readsGate_50 : decode cX9_readsGate 50 = .ok (.aload_n 0, 1) := by decide +kernel
theorem dX9_readsGate_51 : decode cX9_readsGate 51 = .ok (.getfield 121, 3) := by decide +kernel
theorem dX9_readsGate_54 : decode cX9_readsGate 54 = .ok (.iload_n 3, 1) := by decide +kernel
theorem dX9_readsGate_55 : decode cX9_readsGate 55 = .ok (.iastore, 1) := by decide +kernel
theorem dX9_readsGate_56 : decode cX9_readsGate 56 = .ok (.aload_n 0, 1) := by decide +kernel
theorem dX9_readsGate_57 : decode cX9_readsGate 57 = .ok (.dup, 1) := by decide +kernel
theorem dX9_readsGate_58 : decode cX9_readsGate 58 = .ok (.getfield 121, 3) := by decide +kernel
theorem dX9_readsGate_61 : decode cX9_readsGate 61 = .ok (.iconst 1, 1) := by decide +kernel
theorem dX9_readsGate_62 : decode cX9_readsGate 62 = .ok (.iadd, 1) := by decide +kernel
theorem dX9_readsGate_63 : decode cX9_readsGate 63 = .ok (.putfield 121, 3) := by decide +kernel
theorem dX9_readsGate_66 : decode cX9_readsGate 66 = .ok (.iconst 1, 1) := by decide +kernel
theorem dX9_readsGate_67 : decode cX9_readsGate 67 = .ok (.ireturn, 1) := by decide +kernel
theorem dX9_readsComer_0 : decode cX9_readsComer 0 = .ok (.aload_n 0, 1) := by decide +kernel
theorem dX9_readsComer_1 : decode cX9_readsComer 1 = .ok (.getfield 128, 3) := by decide +kernel
theorem dX9_readsComer_4 : decode cX9_readsComer 4 = .ok (.bipush 6, 2) := by decide +kernel
theorem dX9_readsComer_6 : decode cX9_readsComer 6 = .ok (.if_icmp .eq 14, 3) := by decide +kernel
theorem dX9_readsComer_9 : decode cX9_readsComer 9 = .ok (.aload_n 0, 1) := by decide +kernel
theorem dX9_readsComer_10 : decode cX9_readsComer 10 = .ok (.iload_n 1, 1) := by decide +kernel
theorem dX9_readsComer_11 : decode cX9_readsComer 11 = .ok (.iload_n 2, 1) := by decide +kernel
theorem dX9_readsComer_12 : decode cX9_readsComer 12 = .ok (.invokevirtual 117, 3) := by decide +kernel
theorem dX9_readsComer_15 : decode cX9_readsComer 15 = .ok (.bipush 59, 2) := by decide +kernel
theorem dX9_readsComer_17 : decode cX9_readsComer 17 = .ok (.if_icmp .eq 5, 3) := by decide +kernel
theorem dX9_readsComer_20 : decode cX9_readsComer 20 = .ok (.iconst 0, 1) := by decide +kernel
theorem dX9_readsComer_21 : decode cX9_readsComer 21 = .ok (.ireturn, 1) := by decide +kernel
theorem dX9_readsComer_22 : decode cX9_readsComer 22 = .ok (.aload_n 0, 1) := by decide +kernel
theorem dX9_readsComer_23 : decode cX9_readsComer 23 = .ok (.dup, 1) := by decide +kernel
theorem dX9_readsComer_24 : decode cX9_readsComer 24 = .ok (.getfield 114, 3) := by decide +kernel
theorem dX9_readsComer_27 : decode cX9_readsComer 27 = .ok (.iconst 1, 1) := by decide +kernel
theorem dX9_readsComer_28 : decode cX9_readsComer 28 = .ok (.iadd, 1) := by decide +kernel
theorem dX9_readsComer_29 : decode cX9_readsComer 29 = .ok (.putfield 114, 3) := by decide +kernel
theorem dX9_readsComer_32 : decode cX9_readsComer 32 = .ok (.aload_n 0, 1) := by decide +kernel
theorem dX9_readsComer_33 : decode cX9_readsComer 33 = .ok (.iload_n 1, 1) := by decide +kernel
theorem dX9_readsComer_34 : decode cX9_readsComer 34 = .ok (.iload_n 2, 1) := by decide +kernel
theorem dX9_readsComer_35 : decode cX9_readsComer 35 = .ok (.invokevirtual 117, 3) := by decide +kernel
theorem dX9_readsComer_38 : decode cX9_readsComer 38 = .ok (.istore_n 3, 1) := by decide +kernel
theorem dX9_readsComer_39 : decode cX9_readsComer 39 = .ok (.iload_n 3, 1) := by decide +kernel
theorem dX9_readsComer_40 : decode cX9_readsComer 40 = .ok (.bipush 112, 2) := by decide +kernel
theorem dX9_readsComer_42 : decode cX9_readsComer 42 = .ok (.if_icmp .eq 17, 3) := by decide +kernel
theorem dX9_readsComer_45 : decode cX9_readsComer 45 = .ok (.iload_n 3, 1) := by decide +kernel
theorem dX9_readsComer_46 : decode cX9_readsComer 46 = .ok (.bipush 99, 2) := by decide +kernel
theorem dX9_readsComer_48 : decode cX9_readsComer 48 = .ok (.if_icmp .eq 11, 3) := by decide +kernel
theorem dX9_readsComer_51 : decode cX9_readsComer 51 = .ok (.iload_n 3, 1) := by decide +kernel
theorem dX9_readsComer_52 : decode cX9_readsComer 52 = .ok (.bipush 103, 2) := by decide +kernel
theorem dX9_readsComer_54 : decode cX9_readsComer 54 = .ok (.if_icmp .eq 5, 3) := by decide +kernel
theorem dX9_readsComer_57 : decode cX9_readsComer 57 = .ok (.iconst 0, 1) := by decide +kernel
theorem dX9_readsComer_58 : decode cX9_readsComer 58 = .ok (.ireturn, 1) := by decide +kernel
theorem dX9_readsComer_59 : decode cX9_readsComer 59 = .ok (.aload_n 0, 1) := by decide +kernel
theorem dX9_readsComer_60 : decode cX9_readsComer 60 = .ok (.dup, 1) := by decide +kernel
theorem dX9_readsComer_61 : decode cX9_readsComer 61 = .ok (.getfield 114, 3) := by decide +kernel
theorem dX9_readsComer_64 : decode cX9_readsComer 64 = .ok (.iconst 1, 1) := by decide +kernel
theorem dX9_readsComer_65 : decode cX9_readsComer 65 = .ok (.iadd, 1) := by decide +kernel
theorem dX9_readsComer_66 : decode cX9_readsComer 66 = .ok (.putfield 114, 3) := by decide +kernel
theorem dX9_readsComer_69 : decode cX9_readsComer 69 = .ok (.aload_n 0, 1) := by decide +kernel
theorem dX9_readsComer_70 : decode cX9_readsComer 70 = .ok (.getfield 128, 3) := by decide +kernel
theorem dX9_readsComer_73 : decode cX9_readsComer 73 = .ok (.istore 4, 2) := by decide +kernel
theorem dX9_readsComer_75 : decode cX9_readsComer 75 = .ok (.aload_n 0, 1) := by decide +kernel
theorem dX9_readsComer_76 : decode cX9_readsComer 76 = .ok (.getfield 34, 3) := by decide +kernel
theorem dX9_readsComer_79 : decode cX9_readsComer 79 = .ok (.iload 4, 2) := by decide +kernel
theorem dX9_readsComer_81 : decode cX9_readsComer 81 = .ok (.iload_n 3, 1) := by decide +kernel
theorem dX9_readsComer_82 : decode cX9_readsComer 82 = .ok (.bipush 112, 2) := by decide +kernel
theorem dX9_readsComer_84 : decode cX9_readsComer 84 = .ok (.if_icmp .ne 7, 3) := by decide +kernel
theorem dX9_readsComer_87 : decode cX9_readsComer 87 = .ok (.iconst 0, 1) := by decide +kernel
theorem dX9_readsComer_88 : decode cX9_readsComer 88 = .ok (.goto 14, 3) := by decide +kernel
theorem dX9_readsComer_91 : decode cX9_readsComer 91 = .ok (.iload_n 3, 1) := by decide +kernel
theorem dX9_readsComer_92 : decode cX9_readsComer 92 = .ok (.bipush 99, 2) := by decide +kernel
theorem dX9_readsComer_94 : decode cX9_readsComer 94 = .ok (.if_icmp .ne 7, 3) := by decide +kernel
theorem dX9_readsComer_97 : decode cX9_readsComer 97 = .ok (.iconst 1, 1) := by decide +kernel
theorem dX9_readsComer_98 : decode cX9_readsComer 98 = .ok (.goto 4, 3) := by decide +kernel
theorem dX9_readsComer_101 : decode cX9_readsComer 101 = .ok (.iconst 2, 1) := by decide +kernel
theorem dX9_readsComer_102 : decode cX9_readsComer 102 = .ok (.iastore, 1) := by decide +kernel
theorem dX9_readsComer_103 : decode cX9_readsComer 103 = .ok (.aload_n 0, 1) := by decide +kernel
theorem dX9_readsComer_104 : decode cX9_readsComer 104 = .ok (.getfield 37, 3) := by decide +kernel
theorem dX9_readsComer_107 : decode cX9_readsComer 107 = .ok (.iload 4, 2) := by decide +kernel
theorem dX9_readsComer_109 : decode cX9_readsComer 109 = .ok (.aload_n 0, 1) := by decide +kernel
theorem dX9_readsComer_110 : decode cX9_readsComer 110 = .ok (.iload_n 1, 1) := by decide +kernel
theorem dX9_readsComer_111 : decode cX9_readsComer 111 = .ok (.iload_n 2, 1) := by decide +kernel
theorem dX9_readsComer_112 : decode cX9_readsComer 112 = .ok (.bipush 9, 2) := by decide +kernel
theorem dX9_readsComer_114 : decode cX9_readsComer 114 = .ok (.invokevirtual 124, 3) := by decide +kernel
theorem dX9_readsComer_117 : decode cX9_readsComer 117 = .ok (.iastore, 1) := by decide +kernel
theorem dX9_readsComer_118 : decode cX9_readsComer 118 = .ok (.aload_n 0, 1) := by decide +kernel
theorem dX9_readsComer_119 : decode cX9_readsComer 119 = .ok (.getfield 40, 3) := by decide +kernel
theorem dX9_readsComer_122 : decode cX9_readsComer 122 = .ok (.iload 4, 2) := by decide +kernel
theorem dX9_readsComer_124 : decode cX9_readsComer 124 = .ok (.aload_n 0, 1) := by decide +kernel
theorem dX9_readsComer_125 : decode cX9_readsComer 125 = .ok (.getfield 37, 3) := by decide +kernel
theorem dX9_readsComer_128 : decode cX9_readsComer 128 = .ok (.iload 4, 2) := by decide +kernel
theorem dX9_readsComer_130 : decode cX9_readsComer 130 = .ok (.iaload, 1) := by decide +kernel
theorem dX9_readsComer_131 : decode cX9_readsComer 131 = .ok (.ifCond .ge 8, 3) := by decide +kernel
theorem dX9_readsComer_134 : decode cX9_readsComer 134 = .ok (.bipush (-9), 2) := by decide +kernel
theorem dX9_readsComer_136 : decode cX9_readsComer 136 = .ok (.goto 11, 3) := by decide +kernel
theorem dX9_readsComer_139 : decode cX9_readsComer 139 = .ok (.aload_n 0, 1) := by decide +kernel
theorem dX9_readsComer_140 : decode cX9_readsComer 140 = .ok (.iload_n 1, 1) := by decide +kernel
theorem dX9_readsComer_141 : decode cX9_readsComer 141 = .ok (.iload_n 2, 1) := by decide +kernel
theorem dX9_readsComer_142 : decode cX9_readsComer 142 = .ok (.bipush 9, 2) := by decide +kernel
theorem dX9_readsComer_144 : decode cX9_readsComer 144 = .ok (.invokevirtual 124, 3) := by decide +kernel
theorem dX9_readsComer_147 : decode cX9_readsComer 147 = .ok (.iastore, 1) := by decide +kernel
theorem dX9_readsComer_148 : decode cX9_readsComer 148 = .ok (.aload_n 0, 1) := by decide +kernel
theorem dX9_readsComer_149 : decode cX9_readsComer 149 = .ok (.getfield 43, 3) := by decide +kernel
theorem dX9_readsComer_152 : decode cX9_readsComer 152 = .ok (.iload 4, 2) := by decide +kernel
theorem dX9_readsComer_154 : decode cX9_readsComer 154 = .ok (.aload_n 0, 1) := by decide +kernel
theorem dX9_readsComer_155 : decode cX9_readsComer 155 = .ok (.getfield 40, 3) := by decide +kernel
theorem dX9_readsComer_158 : decode cX9_readsComer 158 = .ok (.iload 4, 2) := by decide +kernel
theorem dX9_readsComer_160 : decode cX9_readsComer 160 = .ok (.iaload, 1) := by decide +kernel
theorem dX9_readsComer_161 : decode cX9_readsComer 161 = .ok (.ifCond .ge 8, 3) := by decide +kernel
theorem dX9_readsComer_164 : decode cX9_readsComer 164 = .ok (.bipush (-9), 2) := by decide +kernel
theorem dX9_readsComer_166 : decode cX9_readsComer 166 = .ok (.goto 15, 3) := by decide +kernel
theorem dX9_readsComer_169 : decode cX9_readsComer 169 = .ok (.aload_n 0, 1) := by decide +kernel
theorem dX9_readsComer_170 : decode cX9_readsComer 170 = .ok (.iload_n 1, 1) := by decide +kernel
theorem dX9_readsComer_171 : decode cX9_readsComer 171 = .ok (.iload_n 2, 1) := by decide +kernel
theorem dX9_readsComer_172 : decode cX9_readsComer 172 = .ok (.aload_n 0, 1) := by decide +kernel
theorem dX9_readsComer_173 : decode cX9_readsComer 173 = .ok (.getfield 121, 3) := by decide +kernel
theorem dX9_readsComer_176 : decode cX9_readsComer 176 = .ok (.iconst 1, 1) := by decide +kernel
theorem dX9_readsComer_177 : decode cX9_readsComer 177 = .ok (.isub, 1) := by decide +kernel
theorem dX9_readsComer_178 : decode cX9_readsComer 178 = .ok (.invokevirtual 124, 3) := by decide +kernel
theorem dX9_readsComer_181 : decode cX9_readsComer 181 = .ok (.iastore, 1) := by decide +kernel
theorem dX9_readsComer_182 : decode cX9_readsComer 182 = .ok (.aload_n 0, 1) := by decide +kernel
theorem dX9_readsComer_183 : decode cX9_readsComer 183 = .ok (.getfield 46, 3) := by decide +kernel
theorem dX9_readsComer_186 : decode cX9_readsComer 186 = .ok (.iload 4, 2) := by decide +kernel
theorem dX9_readsComer_188 : decode cX9_readsComer 188 = .ok (.aload_n 0, 1) := by decide +kernel
theorem dX9_readsComer_189 : decode cX9_readsComer 189 = .ok (.getfield 43, 3) := by decide +kernel
theorem dX9_readsComer_192 : decode cX9_readsComer 192 = .ok (.iload 4, 2) := by decide +kernel
theorem dX9_readsComer_194 : decode cX9_readsComer 194 = .ok (.iaload, 1) := by decide +kernel
theorem dX9_readsComer_195 : decode cX9_readsComer 195 = .ok (.ifCond .ge 8, 3) := by decide +kernel
theorem dX9_readsComer_198 : decode cX9_readsComer 198 = .ok (.bipush (-9), 2) := by decide +kernel
theorem dX9_readsComer_200 : decode cX9_readsComer 200 = .ok (.goto 11, 3) := by decide +kernel
theorem dX9_readsComer_203 : decode cX9_readsComer 203 = .ok (.aload_n 0, 1) := by decide +kernel
theorem dX9_readsComer_204 : decode cX9_readsComer 204 = .ok (.iload_n 1, 1) := by decide +kernel
theorem dX9_readsComer_205 : decode cX9_readsComer 205 = .ok (.iload_n 2, 1) := by decide +kernel
theorem dX9_readsComer_206 : decode cX9_readsComer 206 = .ok (.bipush 9, 2) := by decide +kernel
theorem dX9_readsComer_208 : decode cX9_readsComer 208 = .ok (.invokevirtual 124, 3) := by decide +kernel
theorem dX9_readsComer_211 : decode cX9_readsComer 211 = .ok (.iastore, 1) := by decide +kernel
theorem dX9_readsComer_212 : decode cX9_readsComer 212 = .ok (.aload_n 0, 1) := by decide +kernel
theorem dX9_readsComer_213 : decode cX9_readsComer 213 = .ok (.dup, 1) := by decide +kernel
theorem dX9_readsComer_214 : decode cX9_readsComer 214 = .ok (.getfield 128, 3) := by decide +kernel
theorem dX9_readsComer_217 : decode cX9_readsComer 217 = .ok (.iconst 1, 1) := by decide +kernel
theorem dX9_readsComer_218 : decode cX9_readsComer 218 = .ok (.iadd, 1) := by decide +kernel
theorem dX9_readsComer_219 : decode cX9_readsComer 219 = .ok (.putfield 128, 3) := by decide +kernel
theorem dX9_readsComer_222 : decode cX9_readsComer 222 = .ok (.aload_n 0, 1) := by decide +kernel
theorem dX9_readsComer_223 : decode cX9_readsComer 223 = .ok (.getfield 46, 3) := by decide +kernel
theorem dX9_readsComer_226 : decode cX9_readsComer 226 = .ok (.iload 4, 2) := by decide +kernel
theorem dX9_readsComer_228 : decode cX9_readsComer 228 = .ok (.iaload, 1) := by decide +kernel
theorem dX9_readsComer_229 : decode cX9_readsComer 229 = .ok (.ifCond .lt 7, 3) := by decide +kernel
theorem dX9_readsComer_232 : decode cX9_readsComer 232 = .ok (.iconst 1, 1) := by decide +kernel
theorem dX9_readsComer_233 : decode cX9_readsComer 233 = .ok (.goto 4, 3) := by decide +kernel
theorem dX9_readsComer_236 : decode cX9_readsComer 236 = .ok (.iconst 0, 1) := by decide +kernel
theorem dX9_readsComer_237 : decode cX9_readsComer 237 = .ok (.ireturn, 1) := by decide +kernel
theorem dX9_readsWinter_0 : decode cX9_readsWinter 0 = .ok (.aload_n 0, 1) := by decide +kernel
theorem dX9_readsWinter_1 : decode cX9_readsWinter 1 = .ok (.iconst 0, 1) := by decide +kernel
theorem dX9_readsWinter_2 : decode cX9_readsWinter 2 = .ok (.putfield 114, 3) := by decide +kernel
theorem dX9_readsWinter_5 : decode cX9_readsWinter 5 = .ok (.aload_n 0, 1) := by decide +kernel
theorem dX9_readsWinter_6 : decode cX9_readsWinter 6 = .ok (.iconst 0, 1) := by decide +kernel
theorem dX9_readsWinter_7 : decode cX9_readsWinter 7 = .ok (.putfield 121, 3) := by decide +kernel
theorem dX9_readsWinter_10 : decode cX9_readsWinter 10 = .ok (.aload_n 0, 1) := by decide +kernel
theorem dX9_readsWinter_11 : decode cX9_readsWinter 11 = .ok (.iconst 0, 1) := by decide +kernel
theorem dX9_readsWinter_12 : decode cX9_readsWinter 12 = .ok (.putfield 128, 3) := by decide +kernel
theorem dX9_readsWinter_15 : decode cX9_readsWinter 15 = .ok (.aload_n 0, 1) := by decide +kernel
theorem dX9_readsWinter_16 : decode cX9_readsWinter 16 = .ok (.iload_n 1, 1) := by decide +kernel
theorem dX9_readsWinter_17 : decode cX9_readsWinter 17 = .ok (.iload_n 2, 1) := by decide +kernel
theorem dX9_readsWinter_18 : decode cX9_readsWinter 18 = .ok (.invokevirtual 117, 3) := by decide +kernel
theorem dX9_readsWinter_21 : decode cX9_readsWinter 21 = .ok (.bipush 119, 2) := by decide +kernel
theorem dX9_readsWinter_23 : decode cX9_readsWinter 23 = .ok (.if_icmp .eq 5, 3) := by decide +kernel
theorem dX9_readsWinter_26 : decode cX9_readsWinter 26 = .ok (.iconst 0, 1) := by decide +kernel
theorem dX9_readsWinter_27 : decode cX9_readsWinter 27 = .ok (.ireturn, 1) := by decide +kernel
theorem dX9_readsWinter_28 : decode cX9_readsWinter 28 = .ok (.aload_n 0, 1) := by decide +kernel
theorem dX9_readsWinter_29 : decode cX9_readsWinter 29 = .ok (.dup, 1) := by decide +kernel
theorem dX9_readsWinter_30 : decode cX9_readsWinter 30 = .ok (.getfield 114, 3) := by decide +kernel
theorem dX9_readsWinter_33 : decode cX9_readsWinter 33 = .ok (.iconst 1, 1) := by decide +kernel
theorem dX9_readsWinter_34 : decode cX9_readsWinter 34 = .ok (.iadd, 1) := by decide +kernel
theorem dX9_readsWinter_35 : decode cX9_readsWinter 35 = .ok (.putfield 114, 3) := by decide +kernel
theorem dX9_readsWinter_38 : decode cX9_readsWinter 38 = .ok (.iconst 1, 1) := by decide +kernel
theorem dX9_readsWinter_39 : decode cX9_readsWinter 39 = .ok (.istore_n 3, 1) := by decide +kernel
theorem dX9_readsWinter_40 : decode cX9_readsWinter 40 = .ok (.iload_n 3, 1) := by decide +kernel
theorem dX9_readsWinter_41 : decode cX9_readsWinter 41 = .ok (.ifCond .eq 32, 3) := by decide +kernel
theorem dX9_readsWinter_44 : decode cX9_readsWinter 44 = .ok (.aload_n 0, 1) := by decide +kernel
theorem dX9_readsWinter_45 : decode cX9_readsWinter 45 = .ok (.getfield 121, 3) := by decide +kernel
theorem dX9_readsWinter_48 : decode cX9_readsWinter 48 = .ok (.iconst 1, 1) := by decide +kernel
theorem dX9_readsWinter_49 : decode cX9_readsWinter 49 = .ok (.if_icmp .lt 14, 3) := by decide +kernel
theorem dX9_readsWinter_52 : decode cX9_readsWinter 52 = .ok (.aload_n 0, 1) := by decide +kernel
theorem dX9_readsWinter_53 : decode cX9_readsWinter 53 = .ok (.iload_n 1, 1) := by decide +kernel
theorem dX9_readsWinter_54 : decode cX9_readsWinter 54 = .ok (.iload_n 2, 1) := by decide +kernel
theorem dX9_readsWinter_55 : decode cX9_readsWinter 55 = .ok (.invokevirtual 117, 3) := by decide +kernel
theorem dX9_readsWinter_58 : decode cX9_readsWinter 58 = .ok (.bipush 44, 2) := by decide +kernel
theorem dX9_readsWinter_60 : decode cX9_readsWinter 60 = .ok (.if_icmp .ne 13, 3) := by decide +kernel
theorem dX9_readsWinter_63 : decode cX9_readsWinter 63 = .ok (.aload_n 0, 1) := by decide +kernel
theorem dX9_readsWinter_64 : decode cX9_readsWinter 64 = .ok (.iload_n 1, 1) := by decide +kernel
theorem dX9_readsWinter_65 : decode cX9_readsWinter 65 = .ok (.iload_n 2, 1) := by decide +kernel
theorem dX9_readsWinter_66 : decode cX9_readsWinter 66 = .ok (.invokevirtual 131, 3) := by decide +kernel
theorem dX9_readsWinter_69 : decode cX9_readsWinter 69 = .ok (.istore_n 3, 1) := by decide +kernel
theorem dX9_readsWinter_70 : decode cX9_readsWinter 70 = .ok (.goto (-30), 3) := by decide +kernel
theorem dX9_readsWinter_73 : decode cX9_readsWinter 73 = .ok (.iload_n 3, 1) := by decide +kernel
theorem dX9_readsWinter_74 : decode cX9_readsWinter 74 = .ok (.ifCond .eq 29, 3) := by decide +kernel
theorem dX9_readsWinter_77 : decode cX9_readsWinter 77 = .ok (.aload_n 0, 1) := by decide +kernel
theorem dX9_readsWinter_78 : decode cX9_readsWinter 78 = .ok (.getfield 128, 3) := by decide +kernel
theorem dX9_readsWinter_81 : decode cX9_readsWinter 81 = .ok (.iconst 1, 1) := by decide +kernel
theorem dX9_readsWinter_82 : decode cX9_readsWinter 82 = .ok (.if_icmp .lt 11, 3) := by decide +kernel
theorem dX9_readsWinter_85 : decode cX9_readsWinter 85 = .ok (.aload_n 0, 1) := by decide +kernel
theorem dX9_readsWinter_86 : decode cX9_readsWinter 86 = .ok (.getfield 114, 3) := by decide +kernel
theorem dX9_readsWinter_89 : decode cX9_readsWinter 89 = .ok (.iload_n 2, 1) := by decide +kernel
theorem dX9_readsWinter_90 : decode cX9_readsWinter 90 = .ok (.if_icmp .ge 13, 3) := by decide +kernel
theorem dX9_readsWinter_93 : decode cX9_readsWinter 93 = .ok (.aload_n 0, 1) := by decide +kernel
theorem dX9_readsWinter_94 : decode cX9_readsWinter 94 = .ok (.iload_n 1, 1) := by decide +kernel
theorem dX9_readsWinter_95 : decode cX9_readsWinter 95 = .ok (.iload_n 2, 1) := by decide +kernel
theorem dX9_readsWinter_96 : decode cX9_readsWinter 96 = .ok (.invokevirtual 135, 3) := by decide +kernel
theorem dX9_readsWinter_99 : decode cX9_readsWinter 99 = .ok (.istore_n 3, 1) := by decide +kernel
theorem dX9_readsWinter_100 : decode cX9_readsWinter 100 = .ok (.goto (-27), 3) := by decide +kernel
theorem dX9_readsWinter_103 : decode cX9_readsWinter 103 = .ok (.iload_n 3, 1) := by decide +kernel
theorem dX9_readsWinter_104 : decode cX9_readsWinter 104 = .ok (.ireturn, 1) := by decide +kernel
theorem dX9_cellsBarred_0 : decode cX9_cellsBarred 0 = .ok (.aload_n 0, 1) := by decide +kernel
theorem dX9_cellsBarred_1 : decode cX9_cellsBarred 1 = .ok (.getfield 82, 3) := by decide +kernel
theorem dX9_cellsBarred_4 : decode cX9_cellsBarred 4 = .ok (.iload_n 1, 1) := by decide +kernel
theorem dX9_cellsBarred_5 : decode cX9_cellsBarred 5 = .ok (.iaload, 1) := by decide +kernel
theorem dX9_cellsBarred_6 : decode cX9_cellsBarred 6 = .ok (.ifCond .lt 19, 3) := by decide +kernel
theorem dX9_cellsBarred_9 : decode cX9_cellsBarred 9 = .ok (.aload_n 0, 1) := by decide +kernel
theorem dX9_cellsBarred_10 : decode cX9_cellsBarred 10 = .ok (.getfield 85, 3) := by decide +kernel
theorem dX9_cellsBarred_13 : decode cX9_cellsBarred 13 = .ok (.iload_n 1, 1) := by decide +kernel
theorem dX9_cellsBarred_14 : decode cX9_cellsBarred 14 = .ok (.iaload, 1) := by decide +kernel
theorem dX9_cellsBarred_15 : decode cX9_cellsBarred 15 = .ok (.iload_n 2, 1) := by decide +kernel
theorem dX9_cellsBarred_16 : decode cX9_cellsBarred 16 = .ok (.if_icmp .eq 9, 3) := by decide +kernel
theorem dX9_cellsBarred_19 : decode cX9_cellsBarred 19 = .ok (.aload_n 0, 1) := by decide +kernel
theorem dX9_cellsBarred_20 : decode cX9_cellsBarred 20 = .ok (.iconst 2, 1) := by decide +kernel
theorem dX9_cellsBarred_21 : decode cX9_cellsBarred 21 = .ok (.invokevirtual 138, 3) := by decide +kernel
theorem dX9_cellsBarred_24 : decode cX9_cellsBarred 24 = .ok (.ireturn, 1) := by decide +kernel
theorem dX9_cellsBarred_25 : decode cX9_cellsBarred 25 = .ok (.aload_n 0, 1) := by decide +kernel
theorem dX9_cellsBarred_26 : decode cX9_cellsBarred 26 = .ok (.getfield 82, 3) := by decide +kernel
theorem dX9_cellsBarred_29 : decode cX9_cellsBarred 29 = .ok (.iload_n 1, 1) := by decide +kernel
theorem dX9_cellsBarred_30 : decode cX9_cellsBarred 30 = .ok (.iaload, 1) := by decide +kernel
theorem dX9_cellsBarred_31 : decode cX9_cellsBarred 31 = .ok (.ifCond .ge 9, 3) := by decide +kernel
theorem dX9_cellsBarred_34 : decode cX9_cellsBarred 34 = .ok (.aload_n 0, 1) := by decide +kernel
theorem dX9_cellsBarred_35 : decode cX9_cellsBarred 35 = .ok (.iconst 1, 1) := by decide +kernel
theorem dX9_cellsBarred_36 : decode cX9_cellsBarred 36 = .ok (.invokevirtual 138, 3) := by decide +kernel
theorem dX9_cellsBarred_39 : decode cX9_cellsBarred 39 = .ok (.ireturn, 1) := by decide +kernel
theorem dX9_cellsBarred_40 : decode cX9_cellsBarred 40 = .ok (.lload 4, 2) := by decide +kernel
theorem dX9_cellsBarred_42 : decode cX9_cellsBarred 42 = .ok (.lconst 0, 1) := by decide +kernel
theorem dX9_cellsBarred_43 : decode cX9_cellsBarred 43 = .ok (.lcmp, 1) := by decide +kernel
theorem dX9_cellsBarred_44 : decode cX9_cellsBarred 44 = .ok (.ifCond .ge 9, 3) := by decide +kernel
theorem dX9_cellsBarred_47 : decode cX9_cellsBarred 47 = .ok (.aload_n 0, 1) := by decide +kernel
theorem dX9_cellsBarred_48 : decode cX9_cellsBarred 48 = .ok (.iconst 4, 1) := by decide +kernel
theorem dX9_cellsBarred_49 : decode cX9_cellsBarred 49 = .ok (.invokevirtual 138, 3) := by decide +kernel
theorem dX9_cellsBarred_52 : decode cX9_cellsBarred 52 = .ok (.ireturn, 1) := by decide +kernel
theorem dX9_cellsBarred_53 : decode cX9_cellsBarred 53 = .ok (.iload_n 3, 1) := by decide +kernel
theorem dX9_cellsBarred_54 : decode cX9_cellsBarred 54 = .ok (.lload 4, 2) := by decide +kernel
theorem dX9_cellsBarred_56 : decode cX9_cellsBarred 56 = .ok (.aload_n 0, 1) := by decide +kernel
theorem dX9_cellsBarred_57 : decode cX9_cellsBarred 57 = .ok (.getfield 82, 3) := by decide +kernel
theorem dX9_cellsBarred_60 : decode cX9_cellsBarred 60 = .ok (.iload_n 1, 1) := by decide +kernel
theorem dX9_cellsBarred_61 : decode cX9_cellsBarred 61 = .ok (.iaload, 1) := by decide +kernel
theorem dX9_cellsBarred_62 : decode cX9_cellsBarred 62 = .ok (.invokestatic 142, 3) := by decide +kernel
theorem dX9_cellsBarred_65 : decode cX9_cellsBarred 65 = .ok (.ifCond .eq 11, 3) := by decide +kernel
theorem dX9_cellsBarred_68 : decode cX9_cellsBarred 68 = .ok (.aload_n 0, 1) := by decide +kernel
theorem dX9_cellsBarred_69 : decode cX9_cellsBarred 69 = .ok (.iconst 3, 1) := by decide +kernel
theorem dX9_cellsBarred_70 : decode cX9_cellsBarred 70 = .ok (.invokevirtual 138, 3) := by decide +kernel
theorem dX9_cellsBarred_73 : decode cX9_cellsBarred 73 = .ok (.goto 4, 3) := by decide +kernel
theorem dX9_cellsBarred_76 : decode cX9_cellsBarred 76 = .ok (.iconst 0, 1) := by decide +kernel
theorem dX9_cellsBarred_77 : decode cX9_cellsBarred 77 = .ok (.ireturn, 1) := by decide +kernel
theorem dX9_winter_0 : decode cX9_winter 0 = .ok (.iload_n 1, 1) := by decide +kernel
theorem dX9_winter_1 : decode cX9_winter 1 = .ok (.invokestatic 146, 3) := by decide +kernel
theorem dX9_winter_4 : decode cX9_winter 4 = .ok (.ifCond .eq 9, 3) := by decide +kernel
theorem dX9_winter_7 : decode cX9_winter 7 = .ok (.aload_n 0, 1) := by decide +kernel
theorem dX9_winter_8 : decode cX9_winter 8 = .ok (.iconst (-1), 1) := by decide +kernel
theorem dX9_winter_9 : decode cX9_winter 9 = .ok (.invokevirtual 150, 3) := by decide +kernel
theorem dX9_winter_12 : decode cX9_winter 12 = .ok (.ireturn, 1) := by decide +kernel
theorem dX9_winter_13 : decode cX9_winter 13 = .ok (.iload_n 2, 1) := by decide +kernel
theorem dX9_winter_14 : decode cX9_winter 14 = .ok (.i2l, 1) := by decide +kernel
theorem dX9_winter_15 : decode cX9_winter 15 = .ok (.lconst 0, 1) := by decide +kernel
theorem dX9_winter_16 : decode cX9_winter 16 = .ok (.ldc2_w 153, 3) := by decide +kernel
theorem dX9_winter_19 : decode cX9_winter 19 = .ok (.invokestatic 107, 3) := by decide +kernel
theorem dX9_winter_22 : decode cX9_winter 22 = .ok (.ifCond .ne 10, 3) := by decide +kernel
theorem dX9_winter_25 : decode cX9_winter 25 = .ok (.aload_n 0, 1) := by decide +kernel
theorem dX9_winter_26 : decode cX9_winter 26 = .ok (.bipush (-2), 2) := by decide +kernel
theorem dX9_winter_28 : decode cX9_winter 28 = .ok (.invokevirtual 150, 3) := by decide +kernel
theorem dX9_winter_31 : decode cX9_winter 31 = .ok (.ireturn, 1) := by decide +kernel
theorem dX9_winter_32 : decode cX9_winter 32 = .ok (.aload_n 0, 1) := by decide +kernel
theorem dX9_winter_33 : decode cX9_winter 33 = .ok (.iload_n 1, 1) := by decide +kernel
theorem dX9_winter_34 : decode cX9_winter 34 = .ok (.iload_n 2, 1) := by decide +kernel
theorem dX9_winter_35 : decode cX9_winter 35 = .ok (.iload_n 3, 1) := by decide +kernel
theorem dX9_winter_36 : decode cX9_winter 36 = .ok (.iload 4, 2) := by decide +kernel
theorem dX9_winter_38 : decode cX9_winter 38 = .ok (.i2l, 1) := by decide +kernel
theorem dX9_winter_39 : decode cX9_winter 39 = .ok (.invokevirtual 155, 3) := by decide +kernel
theorem dX9_winter_42 : decode cX9_winter 42 = .ok (.istore 5, 2) := by decide +kernel
theorem dX9_winter_44 : decode cX9_winter 44 = .ok (.iload 5, 2) := by decide +kernel
theorem dX9_winter_46 : decode cX9_winter 46 = .ok (.ifCond .ge 6, 3) := by decide +kernel
theorem dX9_winter_49 : decode cX9_winter 49 = .ok (.iload 5, 2) := by decide +kernel
theorem dX9_winter_51 : decode cX9_winter 51 = .ok (.ireturn, 1) := by decide +kernel
theorem dX9_winter_52 : decode cX9_winter 52 = .ok (.aload_n 0, 1) := by decide +kernel
theorem dX9_winter_53 : decode cX9_winter 53 = .ok (.bipush 60, 2) := by decide +kernel
theorem dX9_winter_55 : decode cX9_winter 55 = .ok (.iload_n 1, 1) := by decide +kernel
theorem dX9_winter_56 : decode cX9_winter 56 = .ok (.imul, 1) := by decide +kernel
theorem dX9_winter_57 : decode cX9_winter 57 = .ok (.iload_n 3, 1) := by decide +kernel
theorem dX9_winter_58 : decode cX9_winter 58 = .ok (.iadd, 1) := by decide +kernel
theorem dX9_winter_59 : decode cX9_winter 59 = .ok (.iload 4, 2) := by decide +kernel
theorem dX9_winter_61 : decode cX9_winter 61 = .ok (.invokevirtual 159, 3) := by decide +kernel
theorem dX9_winter_64 : decode cX9_winter 64 = .ok (.ifCond .ne 15, 3) := by decide +kernel
theorem dX9_winter_67 : decode cX9_winter 67 = .ok (.aload_n 0, 1) := by decide +kernel
theorem dX9_winter_68 : decode cX9_winter 68 = .ok (.bipush (-100), 2) := by decide +kernel
theorem dX9_winter_70 : decode cX9_winter 70 = .ok (.aload_n 0, 1) := by decide +kernel
theorem dX9_winter_71 : decode cX9_winter 71 = .ok (.getfield 114, 3) := by decide +kernel
theorem dX9_winter_74 : decode cX9_winter 74 = .ok (.isub, 1) := by decide +kernel
theorem dX9_winter_75 : decode cX9_winter 75 = .ok (.invokevirtual 150, 3) := by decide +kernel
theorem dX9_winter_78 : decode cX9_winter 78 = .ok (.ireturn, 1) := by decide +kernel
theorem dX9_winter_79 : decode cX9_winter 79 = .ok (.aload_n 0, 1) := by decide +kernel
theorem dX9_winter_80 : decode cX9_winter 80 = .ok (.aload_n 0, 1) := by decide +kernel
theorem dX9_winter_81 : decode cX9_winter 81 = .ok (.getfield 121, 3) := by decide +kernel
theorem dX9_winter_84 : decode cX9_winter 84 = .ok (.putfield 111, 3) := by decide +kernel
theorem dX9_winter_87 : decode cX9_winter 87 = .ok (.aload_n 0, 1) := by decide +kernel
theorem dX9_winter_88 : decode cX9_winter 88 = .ok (.aload_n 0, 1) := by decide +kernel
theorem dX9_winter_89 : decode cX9_winter 89 = .ok (.getfield 128, 3) := by decide +kernel
theorem dX9_winter_92 : decode cX9_winter 92 = .ok (.putfield 104, 3) := by decide +kernel
theorem dX9_winter_95 : decode cX9_winter 95 = .ok (.aload_n 0, 1) := by decide +kernel
theorem dX9_winter_96 : decode cX9_winter 96 = .ok (.iconst 0, 1) := by decide +kernel
theorem dX9_winter_97 : decode cX9_winter 97 = .ok (.putfield 162, 3) := by decide +kernel
theorem dX9_winter_100 : decode cX9_winter 100 = .ok (.aload_n 0, 1) := by decide +kernel
theorem dX9_winter_101 : decode cX9_winter 101 = .ok (.iconst 1, 1) := by decide +kernel
theorem dX9_winter_102 : decode cX9_winter 102 = .ok (.putfield 165, 3) := by decide +kernel
theorem dX9_winter_105 : decode cX9_winter 105 = .ok (.iconst 0, 1) := by decide +kernel
theorem dX9_winter_106 : decode cX9_winter 106 = .ok (.istore 6, 2) := by decide +kernel
theorem dX9_winter_108 : decode cX9_winter 108 = .ok (.iload 6, 2) := by decide +kernel
theorem dX9_winter_110 : decode cX9_winter 110 = .ok (.aload_n 0, 1) := by decide +kernel
theorem dX9_winter_111 : decode cX9_winter 111 = .ok (.getfield 111, 3) := by decide +kernel
theorem dX9_winter_114 : decode cX9_winter 114 = .ok (.if_icmp .ge 23, 3) := by decide +kernel
theorem dX9_winter_117 : decode cX9_winter 117 = .ok (.aload_n 0, 1) := by decide +kernel
theorem dX9_winter_118 : decode cX9_winter 118 = .ok (.getfield 7, 3) := by decide +kernel
theorem dX9_winter_121 : decode cX9_winter 121 = .ok (.iload 6, 2) := by decide +kernel
theorem dX9_winter_123 : decode cX9_winter 123 = .ok (.aload_n 0, 1) := by decide +kernel
theorem dX9_winter_124 : decode cX9_winter 124 = .ok (.getfield 31, 3) := by decide +kernel
theorem dX9_winter_127 : decode cX9_winter 127 = .ok (.iload 6, 2) := by decide +kernel
theorem dX9_winter_129 : decode cX9_winter 129 = .ok (.iaload, 1) := by decide +kernel
theorem dX9_winter_130 : decode cX9_winter 130 = .ok (.iastore, 1) := by decide +kernel
theorem dX9_winter_131 : decode cX9_winter 131 = .ok (.iinc 6 1, 3) := by decide +kernel
theorem dX9_winter_134 : decode cX9_winter 134 = .ok (.goto (-26), 3) := by decide +kernel
theorem dX9_winter_137 : decode cX9_winter 137 = .ok (.iconst 0, 1) := by decide +kernel
theorem dX9_winter_138 : decode cX9_winter 138 = .ok (.istore 6, 2) := by decide +kernel
theorem dX9_winter_140 : decode cX9_winter 140 = .ok (.iload 6, 2) := by decide +kernel
theorem dX9_winter_142 : decode cX9_winter 142 = .ok (.aload_n 0, 1) := by decide +kernel
theorem dX9_winter_143 : decode cX9_winter 143 = .ok (.getfield 104, 3) := by decide +kernel
theorem dX9_winter_146 : decode cX9_winter 146 = .ok (.if_icmp .ge 87, 3) := by decide +kernel
theorem dX9_winter_149 : decode cX9_winter 149 = .ok (.aload_n 0, 1) := by decide +kernel
theorem dX9_winter_150 : decode cX9_winter 150 = .ok (.getfield 13, 3) := by decide +kernel
theorem dX9_winter_153 : decode cX9_winter 153 = .ok (.iload 6, 2) := by decide +kernel
theorem dX9_winter_155 : decode cX9_winter 155 = .ok (.aload_n 0, 1) := by decide +kernel
theorem dX9_winter_156 : decode cX9_winter 156 = .ok (.getfield 34, 3) := by decide +kernel
theorem dX9_winter_159 : decode cX9_winter 159 = .ok (.iload 6, 2) := by decide +kernel
theorem dX9_winter_161 : decode cX9_winter 161 = .ok (.iaload, 1) := by decide +kernel
theorem dX9_winter_162 : decode cX9_winter 162 = .ok (.iastore, 1) := by decide +kernel
theorem dX9_winter_163 : decode cX9_winter 163 = .ok (.aload_n 0, 1) := by decide +kernel
theorem dX9_winter_164 : decode cX9_winter 164 = .ok (.getfield 16, 3) := by decide +kernel
theorem dX9_winter_167 : decode cX9_winter 167 = .ok (.iload 6, 2) := by decide +kernel
theorem dX9_winter_169 : decode cX9_winter 169 = .ok (.aload_n 0, 1) := by decide +kernel
theorem dX9_winter_170 : decode cX9_winter 170 = .ok (.getfield 37, 3) := by decide +kernel
theorem dX9_winter_173 : decode cX9_winter 173 = .ok (.iload 6, 2) := by decide +kernel
theorem dX9_winter_175 : decode cX9_winter 175 = .ok (.iaload, 1) := by decide +kernel
theorem dX9_winter_176 : decode cX9_winter 176 = .ok (.iastore, 1) := by decide +kernel
theorem dX9_winter_177 : decode cX9_winter 177 = .ok (.aload_n 0, 1) := by decide +kernel
theorem dX9_winter_178 : decode cX9_winter 178 = .ok (.getfield 19, 3) := by decide +kernel
theorem dX9_winter_181 : decode cX9_winter 181 = .ok (.iload 6, 2) := by decide +kernel
theorem dX9_winter_183 : decode cX9_winter 183 = .ok (.aload_n 0, 1) := by decide +kernel
theorem dX9_winter_184 : decode cX9_winter 184 = .ok (.getfield 40, 3) := by decide +kernel
theorem dX9_winter_187 : decode cX9_winter 187 = .ok (.iload 6, 2) := by decide +kernel
theorem dX9_winter_189 : decode cX9_winter 189 = .ok (.iaload, 1) := by decide +kernel
theorem dX9_winter_190 : decode cX9_winter 190 = .ok (.iastore, 1) := by decide +kernel
theorem dX9_winter_191 : decode cX9_winter 191 = .ok (.aload_n 0, 1) := by decide +kernel
theorem dX9_winter_192 : decode cX9_winter 192 = .ok (.getfield 22, 3) := by decide +kernel
theorem dX9_winter_195 : decode cX9_winter 195 = .ok (.iload 6, 2) := by decide +kernel
theorem dX9_winter_197 : decode cX9_winter 197 = .ok (.aload_n 0, 1) := by decide +kernel
theorem dX9_winter_198 : decode cX9_winter 198 = .ok (.getfield 43, 3) := by decide +kernel
theorem dX9_winter_201 : decode cX9_winter 201 = .ok (.iload 6, 2) := by decide +kernel
theorem dX9_winter_203 : decode cX9_winter 203 = .ok (.iaload, 1) := by decide +kernel
theorem dX9_winter_204 : decode cX9_winter 204 = .ok (.iastore, 1) := by decide +kernel
theorem dX9_winter_205 : decode cX9_winter 205 = .ok (.aload_n 0, 1) := by decide +kernel
theorem dX9_winter_206 : decode cX9_winter 206 = .ok (.getfield 25, 3) := by decide +kernel
theorem dX9_winter_209 : decode cX9_winter 209 = .ok (.iload 6, 2) := by decide +kernel
theorem dX9_winter_211 : decode cX9_winter 211 = .ok (.aload_n 0, 1) := by decide +kernel
theorem dX9_winter_212 : decode cX9_winter 212 = .ok (.getfield 46, 3) := by decide +kernel
theorem dX9_winter_215 : decode cX9_winter 215 = .ok (.iload 6, 2) := by decide +kernel
theorem dX9_winter_217 : decode cX9_winter 217 = .ok (.iaload, 1) := by decide +kernel
theorem dX9_winter_218 : decode cX9_winter 218 = .ok (.iastore, 1) := by decide +kernel
theorem dX9_winter_219 : decode cX9_winter 219 = .ok (.aload_n 0, 1) := by decide +kernel
theorem dX9_winter_220 : decode cX9_winter 220 = .ok (.getfield 28, 3) := by decide +kernel
theorem dX9_winter_223 : decode cX9_winter 223 = .ok (.iload 6, 2) := by decide +kernel
theorem dX9_winter_225 : decode cX9_winter 225 = .ok (.iconst 0, 1) := by decide +kernel
theorem dX9_winter_226 : decode cX9_winter 226 = .ok (.iastore, 1) := by decide +kernel
theorem dX9_winter_227 : decode cX9_winter 227 = .ok (.iinc 6 1, 3) := by decide +kernel
theorem dX9_winter_230 : decode cX9_winter 230 = .ok (.goto (-90), 3) := by decide +kernel
theorem dX9_winter_233 : decode cX9_winter 233 = .ok (.aload_n 0, 1) := by decide +kernel
theorem dX9_winter_234 : decode cX9_winter 234 = .ok (.iconst 0, 1) := by decide +kernel
theorem dX9_winter_235 : decode cX9_winter 235 = .ok (.putfield 168, 3) := by decide +kernel
theorem dX9_winter_238 : decode cX9_winter 238 = .ok (.aload_n 0, 1) := by decide +kernel
theorem dX9_winter_239 : decode cX9_winter 239 = .ok (.aload_n 0, 1) := by decide +kernel
theorem dX9_winter_240 : decode cX9_winter 240 = .ok (.getfield 104, 3) := by decide +kernel
theorem dX9_winter_243 : decode cX9_winter 243 = .ok (.invokevirtual 150, 3) := by decide +kernel
theorem dX9_winter_246 : decode cX9_winter 246 = .ok (.ireturn, 1) := by decide +kernel
theorem dX9_look_0 : decode cX9_look 0 = .ok (.aload_n 0, 1) := by decide +kernel
theorem dX9_look_1 : decode cX9_look 1 = .ok (.getfield 13, 3) := by decide +kernel
theorem dX9_look_4 : decode cX9_look 4 = .ok (.iload_n 1, 1) := by decide +kernel
theorem dX9_look_5 : decode cX9_look 5 = .ok (.iaload, 1) := by decide +kernel
theorem dX9_look_6 : decode cX9_look 6 = .ok (.istore_n 2, 1) := by decide +kernel
theorem dX9_look_7 : decode cX9_look 7 = .ok (.iload_n 2, 1) := by decide +kernel
theorem dX9_look_8 : decode cX9_look 8 = .ok (.ifCond .ne 12, 3) := by decide +kernel
theorem dX9_look_11 : decode cX9_look 11 = .ok (.aload_n 0, 1) := by decide +kernel
theorem dX9_look_12 : decode cX9_look 12 = .ok (.getfield 19, 3) := by decide +kernel
theorem dX9_look_15 : decode cX9_look 15 = .ok (.iload_n 1, 1) := by decide +kernel
theorem dX9_look_16 : decode cX9_look 16 = .ok (.iaload, 1) := by decide +kernel
theorem dX9_look_17 : decode cX9_look 17 = .ok (.goto 35, 3) := by decide +kernel
theorem dX9_look_20 : decode cX9_look 20 = .ok (.iload_n 2, 1) := by decide +kernel
theorem dX9_look_21 : decode cX9_look 21 = .ok (.iconst 1, 1) := by decide +kernel
theorem dX9_look_22 : decode cX9_look 22 = .ok (.if_icmp .ne 17, 3) := by decide +kernel
theorem dX9_look_25 : decode cX9_look 25 = .ok (.aload_n 0, 1) := by decide +kernel
theorem dX9_look_26 : decode cX9_look 26 = .ok (.getfield 19, 3) := by decide +kernel
theorem dX9_look_29 : decode cX9_look 29 = .ok (.iload_n 1, 1) := by decide +kernel
theorem dX9_look_30 : decode cX9_look 30 = .ok (.iaload, 1) := by decide +kernel
theorem dX9_look_31 : decode cX9_look 31 = .ok (.aload_n 0, 1) := by decide +kernel
theorem dX9_look_32 : decode cX9_look 32 = .ok (.getfield 165, 3) := by decide +kernel
theorem dX9_look_35 : decode cX9_look 35 = .ok (.iadd, 1) := by decide +kernel
theorem dX9_look_36 : decode cX9_look 36 = .ok (.goto 16, 3) := by decide +kernel
theorem dX9_look_39 : decode cX9_look 39 = .ok (.iconst 2, 1) := by decide +kernel
theorem dX9_look_40 : decode cX9_look 40 = .ok (.aload_n 0, 1) := by decide +kernel
theorem dX9_look_41 : decode cX9_look 41 = .ok (.getfield 19, 3) := by decide +kernel
theorem dX9_look_44 : decode cX9_look 44 = .ok (.iload_n 1, 1) := by decide +kernel
theorem dX9_look_45 : decode cX9_look 45 = .ok (.iaload, 1) := by decide +kernel
theorem dX9_look_46 : decode cX9_look 46 = .ok (.imul, 1) := by decide +kernel
theorem dX9_look_47 : decode cX9_look 47 = .ok (.aload_n 0, 1) := by decide +kernel
theorem dX9_look_48 : decode cX9_look 48 = .ok (.getfield 165, 3) := by decide +kernel
theorem dX9_look_51 : decode cX9_look 51 = .ok (.iadd, 1) := by decide +kernel
theorem dX9_look_52 : decode cX9_look 52 = .ok (.ireturn, 1) := by decide +kernel
theorem dX9_isAhead_0 : decode cX9_isAhead 0 = .ok (.aload_n 0, 1) := by decide +kernel
theorem dX9_isAhead_1 : decode cX9_isAhead 1 = .ok (.getfield 162, 3) := by decide +kernel
theorem dX9_isAhead_4 : decode cX9_isAhead 4 = .ok (.ifCond .ne 12, 3) := by decide +kernel
theorem dX9_isAhead_7 : decode cX9_isAhead 7 = .ok (.aload_n 0, 1) := by decide +kernel
theorem dX9_isAhead_8 : decode cX9_isAhead 8 = .ok (.iload_n 1, 1) := by decide +kernel
theorem dX9_isAhead_9 : decode cX9_isAhead 9 = .ok (.invokevirtual 171, 3) := by decide +kernel
theorem dX9_isAhead_12 : decode cX9_isAhead 12 = .ok (.ineg, 1) := by decide +kernel
theorem dX9_isAhead_13 : decode cX9_isAhead 13 = .ok (.goto 27, 3) := by decide +kernel
theorem dX9_isAhead_16 : decode cX9_isAhead 16 = .ok (.aload_n 0, 1) := by decide +kernel
theorem dX9_isAhead_17 : decode cX9_isAhead 17 = .ok (.getfield 162, 3) := by decide +kernel
theorem dX9_isAhead_20 : decode cX9_isAhead 20 = .ok (.iconst 1, 1) := by decide +kernel
theorem dX9_isAhead_21 : decode cX9_isAhead 21 = .ok (.if_icmp .ne 13, 3) := by decide +kernel
theorem dX9_isAhead_24 : decode cX9_isAhead 24 = .ok (.aload_n 0, 1) := by decide +kernel
theorem dX9_isAhead_25 : decode cX9_isAhead 25 = .ok (.getfield 16, 3) := by decide +kernel
theorem dX9_isAhead_28 : decode cX9_isAhead 28 = .ok (.iload_n 1, 1) := by decide +kernel
theorem dX9_isAhead_29 : decode cX9_isAhead 29 = .ok (.iaload, 1) := by decide +kernel
theorem dX9_isAhead_30 : decode cX9_isAhead 30 = .ok (.ineg, 1) := by decide +kernel
theorem dX9_isAhead_31 : decode cX9_isAhead 31 = .ok (.goto 9, 3) := by decide +kernel
theorem dX9_isAhead_34 : decode cX9_isAhead 34 = .ok (.aload_n 0, 1) := by decide +kernel
theorem dX9_isAhead_35 : decode cX9_isAhead 35 = .ok (.getfield 25, 3) := by decide +kernel
theorem dX9_isAhead_38 : decode cX9_isAhead 38 = .ok (.iload_n 1, 1) := by decide +kernel
theorem dX9_isAhead_39 : decode cX9_isAhead 39 = .ok (.iaload, 1) := by decide +kernel
theorem dX9_isAhead_40 : decode cX9_isAhead 40 = .ok (.istore_n 3, 1) := by decide +kernel
theorem dX9_isAhead_41 : decode cX9_isAhead 41 = .ok (.aload_n 0, 1) := by decide +kernel
theorem dX9_isAhead_42 : decode cX9_isAhead 42 = .ok (.getfield 162, 3) := by decide +kernel
theorem dX9_isAhead_45 : decode cX9_isAhead 45 = .ok (.ifCond .ne 12, 3) := by decide +kernel
theorem dX9_isAhead_48 : decode cX9_isAhead 48 = .ok (.aload_n 0, 1) := by decide +kernel
theorem dX9_isAhead_49 : decode cX9_isAhead 49 = .ok (.iload_n 2, 1) := by decide +kernel
theorem dX9_isAhead_50 : decode cX9_isAhead 50 = .ok (.invokevirtual 171, 3) := by decide +kernel
theorem dX9_isAhead_53 : decode cX9_isAhead 53 = .ok (.ineg, 1) := by decide +kernel
theorem dX9_isAhead_54 : decode cX9_isAhead 54 = .ok (.goto 27, 3) := by decide +kernel
theorem dX9_isAhead_57 : decode cX9_isAhead 57 = .ok (.aload_n 0, 1) := by decide +kernel
theorem dX9_isAhead_58 : decode cX9_isAhead 58 = .ok (.getfield 162, 3) := by decide +kernel
theorem dX9_isAhead_61 : decode cX9_isAhead 61 = .ok (.iconst 1, 1) := by decide +kernel
theorem dX9_isAhead_62 : decode cX9_isAhead 62 = .ok (.if_icmp .ne 13, 3) := by decide +kernel
theorem dX9_isAhead_65 : decode cX9_isAhead 65 = .ok (.aload_n 0, 1) := by decide +kernel
theorem dX9_isAhead_66 : decode cX9_isAhead 66 = .ok (.getfield 16, 3) := by decide +kernel
theorem dX9_isAhead_69 : decode cX9_isAhead 69 = .ok (.iload_n 2, 1) := by decide +kernel
theorem dX9_isAhead_70 : decode cX9_isAhead 70 = .ok (.iaload, 1) := by decide +kernel
theorem dX9_isAhead_71 : decode cX9_isAhead 71 = .ok (.ineg, 1) := by decide +kernel
theorem dX9_isAhead_72 : decode cX9_isAhead 72 = .ok (.goto 9, 3) := by decide +kernel
theorem dX9_isAhead_75 : decode cX9_isAhead 75 = .ok (.aload_n 0, 1) := by decide +kernel
theorem dX9_isAhead_76 : decode cX9_isAhead 76 = .ok (.getfield 25, 3) := by decide +kernel
theorem dX9_isAhead_79 : decode cX9_isAhead 79 = .ok (.iload_n 2, 1) := by decide +kernel
theorem dX9_isAhead_80 : decode cX9_isAhead 80 = .ok (.iaload, 1) := by decide +kernel
theorem dX9_isAhead_81 : decode cX9_isAhead 81 = .ok (.istore 4, 2) := by decide +kernel
theorem dX9_isAhead_83 : decode cX9_isAhead 83 = .ok (.iload_n 3, 1) := by decide +kernel
theorem dX9_isAhead_84 : decode cX9_isAhead 84 = .ok (.iload 4, 2) := by decide +kernel
theorem dX9_isAhead_86 : decode cX9_isAhead 86 = .ok (.if_icmp .eq 17, 3) := by decide +kernel
theorem dX9_isAhead_89 : decode cX9_isAhead 89 = .ok (.iload_n 3, 1) := by decide +kernel
theorem dX9_isAhead_90 : decode cX9_isAhead 90 = .ok (.iload 4, 2) := by decide +kernel
theorem dX9_isAhead_92 : decode cX9_isAhead 92 = .ok (.if_icmp .ge 7, 3) := by decide +kernel
theorem dX9_isAhead_95 : decode cX9_isAhead 95 = .ok (.iconst 1, 1) := by decide +kernel
theorem dX9_isAhead_96 : decode cX9_isAhead 96 = .ok (.goto 55, 3) := by decide +kernel
theorem dX9_isAhead_99 : decode cX9_isAhead 99 = .ok (.iconst 0, 1) := by decide +kernel
theorem dX9_isAhead_100 : decode cX9_isAhead 100 = .ok (.goto 51, 3) := by decide +kernel
theorem dX9_isAhead_103 : decode cX9_isAhead 103 = .ok (.aload_n 0, 1) := by decide +kernel
theorem dX9_isAhead_104 : decode cX9_isAhead 104 = .ok (.getfield 25, 3) := by decide +kernel
theorem dX9_isAhead_107 : decode cX9_isAhead 107 = .ok (.iload_n 1, 1) := by decide +kernel
theorem dX9_isAhead_108 : decode cX9_isAhead 108 = .ok (.iaload, 1) := by decide +kernel
theorem dX9_isAhead_109 : decode cX9_isAhead 109 = .ok (.aload_n 0, 1) := by decide +kernel
theorem dX9_isAhead_110 : decode cX9_isAhead 110 = .ok (.getfield 25, 3) := by decide +kernel
theorem dX9_isAhead_113 : decode cX9_isAhead 113 = .ok (.iload_n 2, 1) := by decide +kernel
theorem dX9_isAhead_114 : decode cX9_isAhead 114 = .ok (.iaload, 1) := by decide +kernel
theorem dX9_isAhead_115 : decode cX9_isAhead 115 = .ok (.if_icmp .eq 26, 3) := by decide +kernel
theorem dX9_isAhead_118 : decode cX9_isAhead 118 = .ok (.aload_n 0, 1) := by decide +kernel
theorem dX9_isAhead_119 : decode cX9_isAhead 119 = .ok (.getfield 25, 3) := by decide +kernel
theorem dX9_isAhead_122 : decode cX9_isAhead 122 = .ok (.iload_n 1, 1) := by decide +kernel
theorem dX9_isAhead_123 : decode cX9_isAhead 123 = .ok (.iaload, 1) := by decide +kernel
theorem dX9_isAhead_124 : decode cX9_isAhead 124 = .ok (.aload_n 0, 1) := by decide +kernel
theorem dX9_isAhead_125 : decode cX9_isAhead 125 = .ok (.getfield 25, 3) := by decide +kernel
theorem dX9_isAhead_128 : decode cX9_isAhead 128 = .ok (.iload_n 2, 1) := by decide +kernel
theorem dX9_isAhead_129 : decode cX9_isAhead 129 = .ok (.iaload, 1) := by decide +kernel
theorem dX9_isAhead_130 : decode cX9_isAhead 130 = .ok (.if_icmp .ge 7, 3) := by decide +kernel
theorem dX9_isAhead_133 : decode cX9_isAhead 133 = .ok (.iconst 1, 1) := by decide +kernel
theorem dX9_isAhead_134 : decode cX9_isAhead 134 = .ok (.goto 17, 3) := by decide +kernel
theorem dX9_isAhead_137 : decode cX9_isAhead 137 = .ok (.iconst 0, 1) := by decide +kernel
theorem dX9_isAhead_138 : decode cX9_isAhead 138 = .ok (.goto 13, 3) := by decide +kernel
theorem dX9_isAhead_141 : decode cX9_isAhead 141 = .ok (.iload_n 1, 1) := by decide +kernel
theorem dX9_isAhead_142 : decode cX9_isAhead 142 = .ok (.iload_n 2, 1) := by decide +kernel
theorem dX9_isAhead_143 : decode cX9_isAhead 143 = .ok (.if_icmp .ge 7, 3) := by decide +kernel
theorem dX9_isAhead_146 : decode cX9_isAhead 146 = .ok (.iconst 1, 1) := by decide +kernel
theorem dX9_isAhead_147 : decode cX9_isAhead 147 = .ok (.goto 4, 3) := by decide +kernel
theorem dX9_isAhead_150 : decode cX9_isAhead 150 = .ok (.iconst 0, 1) := by decide +kernel
theorem dX9_isAhead_151 : decode cX9_isAhead 151 = .ok (.ireturn, 1) := by decide +kernel
theorem dX9_gives_0 : decode cX9_gives 0 = .ok (.iconst 0, 1) := by decide +kernel
theorem dX9_gives_1 : decode cX9_gives 1 = .ok (.istore_n 1, 1) := by decide +kernel
theorem dX9_gives_2 : decode cX9_gives 2 = .ok (.iload_n 1, 1) := by decide +kernel
theorem dX9_gives_3 : decode cX9_gives 3 = .ok (.aload_n 0, 1) := by decide +kernel
theorem dX9_gives_4 : decode cX9_gives 4 = .ok (.getfield 104, 3) := by decide +kernel
theorem dX9_gives_7 : decode cX9_gives 7 = .ok (.if_icmp .ge 155, 3) := by decide +kernel
theorem dX9_gives_10 : decode cX9_gives 10 = .ok (.aload_n 0, 1) := by decide +kernel
theorem dX9_gives_11 : decode cX9_gives 11 = .ok (.getfield 52, 3) := by decide +kernel
theorem dX9_gives_14 : decode cX9_gives 14 = .ok (.iload_n 1, 1) := by decide +kernel
theorem dX9_gives_15 : decode cX9_gives 15 = .ok (.iconst 0, 1) := by decide +kernel
theorem dX9_gives_16 : decode cX9_gives 16 = .ok (.iastore, 1) := by decide +kernel
theorem dX9_gives_17 : decode cX9_gives 17 = .ok (.iconst 0, 1) := by decide +kernel
theorem dX9_gives_18 : decode cX9_gives 18 = .ok (.istore_n 2, 1) := by decide +kernel
theorem dX9_gives_19 : decode cX9_gives 19 = .ok (.iconst 0, 1) := by decide +kernel
theorem dX9_gives_20 : decode cX9_gives 20 = .ok (.istore_n 3, 1) := by decide +kernel
theorem dX9_gives_21 : decode cX9_gives 21 = .ok (.iload_n 3, 1) := by decide +kernel
theorem dX9_gives_22 : decode cX9_gives 22 = .ok (.aload_n 0, 1) := by decide +kernel
theorem dX9_gives_23 : decode cX9_gives 23 = .ok (.getfield 104, 3) := by decide +kernel
theorem dX9_gives_26 : decode cX9_gives 26 = .ok (.if_icmp .ge 82, 3) := by decide +kernel
theorem dX9_gives_29 : decode cX9_gives 29 = .ok (.iload_n 3, 1) := by decide +kernel
theorem dX9_gives_30 : decode cX9_gives 30 = .ok (.iload_n 1, 1) := by decide +kernel
theorem dX9_gives_31 : decode cX9_gives 31 = .ok (.if_icmp .eq 31, 3) := by decide +kernel
theorem dX9_gives_34 : decode cX9_gives 34 = .ok (.aload_n 0, 1) := by decide +kernel
theorem dX9_gives_35 : decode cX9_gives 35 = .ok (.getfield 22, 3) := by decide +kernel
theorem dX9_gives_38 : decode cX9_gives 38 = .ok (.iload_n 3, 1) := by decide +kernel
theorem dX9_gives_39 : decode cX9_gives 39 = .ok (.iaload, 1) := by decide +kernel
theorem dX9_gives_40 : decode cX9_gives 40 = .ok (.aload_n 0, 1) := by decide +kernel
theorem dX9_gives_41 : decode cX9_gives 41 = .ok (.getfield 22, 3) := by decide +kernel
theorem dX9_gives_44 : decode cX9_gives 44 = .ok (.iload_n 1, 1) := by decide +kernel
theorem dX9_gives_45 : decode cX9_gives 45 = .ok (.iaload, 1) := by decide +kernel
theorem dX9_gives_46 : decode cX9_gives 46 = .ok (.if_icmp .ne 16, 3) := by decide +kernel
theorem dX9_gives_49 : decode cX9_gives 49 = .ok (.aload_n 0, 1) := by decide +kernel
theorem dX9_gives_50 : decode cX9_gives 50 = .ok (.iload_n 3, 1) := by decide +kernel
theorem dX9_gives_51 : decode cX9_gives 51 = .ok (.iload_n 1, 1) := by decide +kernel
theorem dX9_gives_52 : decode cX9_gives 52 = .ok (.invokevirtual 174, 3) := by decide +kernel
theorem dX9_gives_55 : decode cX9_gives 55 = .ok (.ifCond .eq 7, 3) := by decide +kernel
theorem dX9_gives_58 : decode cX9_gives 58 = .ok (.iconst 1, 1) := by decide +kernel
theorem dX9_gives_59 : decode cX9_gives 59 = .ok (.goto 4, 3) := by decide +kernel
theorem dX9_gives_62 : decode cX9_gives 62 = .ok (.iconst 0, 1) := by decide +kernel
theorem dX9_gives_63 : decode cX9_gives 63 = .ok (.istore 4, 2) := by decide +kernel
theorem dX9_gives_65 : decode cX9_gives 65 = .ok (.aload_n 0, 1) := by decide +kernel
theorem dX9_gives_66 : decode cX9_gives 66 = .ok (.getfield 52, 3) := by decide +kernel
theorem dX9_gives_69 : decode cX9_gives 69 = .ok (.iload_n 1, 1) := by decide +kernel
theorem dX9_gives_70 : decode cX9_gives 70 = .ok (.dup2, 1) := by decide +kernel
theorem dX9_gives_71 : decode cX9_gives 71 = .ok (.iaload, 1) := by decide +kernel
theorem dX9_gives_72 : decode cX9_gives 72 = .ok (.iload 4, 2) := by decide +kernel
theorem dX9_gives_74 : decode cX9_gives 74 = .ok (.ifCond .eq 7, 3) := by decide +kernel
theorem dX9_gives_77 : decode cX9_gives 77 = .ok (.iconst 1, 1) := by decide +kernel
theorem dX9_gives_78 : decode cX9_gives 78 = .ok (.goto 4, 3) := by decide +kernel
theorem dX9_gives_81 : decode cX9_gives 81 = .ok (.iconst 0, 1) := by decide +kernel
theorem dX9_gives_82 : decode cX9_gives 82 = .ok (.iadd, 1) := by decide +kernel
theorem dX9_gives_83 : decode cX9_gives 83 = .ok (.iastore, 1) := by decide +kernel
theorem dX9_gives_84 : decode cX9_gives 84 = .ok (.iload_n 2, 1) := by decide +kernel
theorem dX9_gives_85 : decode cX9_gives 85 = .ok (.iload 4, 2) := by decide +kernel
theorem dX9_gives_87 : decode cX9_gives 87 = .ok (.ifCond .eq 12, 3) := by decide +kernel
theorem dX9_gives_90 : decode cX9_gives 90 = .ok (.aload_n 0, 1) := by decide +kernel
theorem dX9_gives_91 : decode cX9_gives 91 = .ok (.getfield 16, 3) := by decide +kernel
theorem dX9_gives_94 : decode cX9_gives 94 = .ok (.iload_n 3, 1) := by decide +kernel
theorem dX9_gives_95 : decode cX9_gives 95 = .ok (.iaload, 1) := by decide +kernel
theorem dX9_gives_96 : decode cX9_gives 96 = .ok (.goto 4, 3) := by decide +kernel
theorem dX9_gives_99 : decode cX9_gives 99 = .ok (.iconst 0, 1) := by decide +kernel
theorem dX9_gives_100 : decode cX9_gives 100 = .ok (.iadd, 1) := by decide +kernel
theorem dX9_gives_101 : decode cX9_gives 101 = .ok (.istore_n 2, 1) := by decide +kernel
theorem dX9_gives_102 : decode cX9_gives 102 = .ok (.iinc 3 1, 3) := by decide +kernel
theorem dX9_gives_105 : decode cX9_gives 105 = .ok (.goto (-84), 3) := by decide +kernel
theorem dX9_gives_108 : decode cX9_gives 108 = .ok (.aload_n 0, 1) := by decide +kernel
theorem dX9_gives_109 : decode cX9_gives 109 = .ok (.getfield 7, 3) := by decide +kernel
theorem dX9_gives_112 : decode cX9_gives 112 = .ok (.aload_n 0, 1) := by decide +kernel
theorem dX9_gives_113 : decode cX9_gives 113 = .ok (.getfield 22, 3) := by decide +kernel
theorem dX9_gives_116 : decode cX9_gives 116 = .ok (.iload_n 1, 1) := by decide +kernel
theorem dX9_gives_117 : decode cX9_gives 117 = .ok (.iaload, 1) := by decide +kernel
theorem dX9_gives_118 : decode cX9_gives 118 = .ok (.iaload, 1) := by decide +kernel
theorem dX9_gives_119 : decode cX9_gives 119 = .ok (.iload_n 2, 1) := by decide +kernel
theorem dX9_gives_120 : decode cX9_gives 120 = .ok (.isub, 1) := by decide +kernel
theorem dX9_gives_121 : decode cX9_gives 121 = .ok (.istore_n 3, 1) := by decide +kernel
theorem dX9_gives_122 : decode cX9_gives 122 = .ok (.aload_n 0, 1) := by decide +kernel
theorem dX9_gives_123 : decode cX9_gives 123 = .ok (.getfield 49, 3) := by decide +kernel
theorem dX9_gives_126 : decode cX9_gives 126 = .ok (.iload_n 1, 1) := by decide +kernel
theorem dX9_gives_127 : decode cX9_gives 127 = .ok (.iload_n 3, 1) := by decide +kernel
theorem dX9_gives_128 : decode cX9_gives 128 = .ok (.ifCond .ge 7, 3) := by decide +kernel
theorem dX9_gives_131 : decode cX9_gives 131 = .ok (.iconst 0, 1) := by decide +kernel
theorem dX9_gives_132 : decode cX9_gives 132 = .ok (.goto 23, 3) := by decide +kernel
theorem dX9_gives_135 : decode cX9_gives 135 = .ok (.iload_n 3, 1) := by decide +kernel
theorem dX9_gives_136 : decode cX9_gives 136 = .ok (.aload_n 0, 1) := by decide +kernel
theorem dX9_gives_137 : decode cX9_gives 137 = .ok (.getfield 16, 3) := by decide +kernel
theorem dX9_gives_140 : decode cX9_gives 140 = .ok (.iload_n 1, 1) := by decide +kernel
theorem dX9_gives_141 : decode cX9_gives 141 = .ok (.iaload, 1) := by decide +kernel
theorem dX9_gives_142 : decode cX9_gives 142 = .ok (.if_icmp .ge 7, 3) := by decide +kernel
theorem dX9_gives_145 : decode cX9_gives 145 = .ok (.iload_n 3, 1) := by decide +kernel
theorem dX9_gives_146 : decode cX9_gives 146 = .ok (.goto 9, 3) := by decide +kernel
theorem dX9_gives_149 : decode cX9_gives 149 = .ok (.aload_n 0, 1) := by decide +kernel
theorem dX9_gives_150 : decode cX9_gives 150 = .ok (.getfield 16, 3) := by decide +kernel
theorem dX9_gives_153 : decode cX9_gives 153 = .ok (.iload_n 1, 1) := by decide +kernel
theorem dX9_gives_154 : decode cX9_gives 154 = .ok (.iaload, 1) := by decide +kernel
theorem dX9_gives_155 : decode cX9_gives 155 = .ok (.iastore, 1) := by decide +kernel
theorem dX9_gives_156 : decode cX9_gives 156 = .ok (.iinc 1 1, 3) := by decide +kernel
theorem dX9_gives_159 : decode cX9_gives 159 = .ok (.goto (-157), 3) := by decide +kernel
theorem dX9_gives_162 : decode cX9_gives 162 = .ok (.iconst 0, 1) := by decide +kernel
theorem dX9_gives_163 : decode cX9_gives 163 = .ok (.istore_n 1, 1) := by decide +kernel
theorem dX9_gives_164 : decode cX9_gives 164 = .ok (.iload_n 1, 1) := by decide +kernel
theorem dX9_gives_165 : decode cX9_gives 165 = .ok (.aload_n 0, 1) := by decide +kernel
theorem dX9_gives_166 : decode cX9_gives 166 = .ok (.getfield 111, 3) := by decide +kernel
theorem dX9_gives_169 : decode cX9_gives 169 = .ok (.if_icmp .ge 21, 3) := by decide +kernel
theorem dX9_gives_172 : decode cX9_gives 172 = .ok (.aload_n 0, 1) := by decide +kernel
theorem dX9_gives_173 : decode cX9_gives 173 = .ok (.getfield 55, 3) := by decide +kernel
theorem dX9_gives_176 : decode cX9_gives 176 = .ok (.iload_n 1, 1) := by decide +kernel
theorem dX9_gives_177 : decode cX9_gives 177 = .ok (.aload_n 0, 1) := by decide +kernel
theorem dX9_gives_178 : decode cX9_gives 178 = .ok (.getfield 7, 3) := by decide +kernel
theorem dX9_gives_181 : decode cX9_gives 181 = .ok (.iload_n 1, 1) := by decide +kernel
theorem dX9_gives_182 : decode cX9_gives 182 = .ok (.iaload, 1) := by decide +kernel
theorem dX9_gives_183 : decode cX9_gives 183 = .ok (.iastore, 1) := by decide +kernel
theorem dX9_gives_184 : decode cX9_gives 184 = .ok (.iinc 1 1, 3) := by decide +kernel
theorem dX9_gives_187 : decode cX9_gives 187 = .ok (.goto (-23), 3) := by decide +kernel
theorem dX9_gives_190 : decode cX9_gives 190 = .ok (.iconst 0, 1) := by decide +kernel
theorem dX9_gives_191 : decode cX9_gives 191 = .ok (.istore_n 1, 1) := by decide +kernel
theorem dX9_gives_192 : decode cX9_gives 192 = .ok (.iload_n 1, 1) := by decide +kernel
theorem dX9_gives_193 : decode cX9_gives 193 = .ok (.aload_n 0, 1) := by decide +kernel
theorem dX9_gives_194 : decode cX9_gives 194 = .ok (.getfield 104, 3) := by decide +kernel
theorem dX9_gives_197 : decode cX9_gives 197 = .ok (.if_icmp .ge 29, 3) := by decide +kernel
theorem dX9_gives_200 : decode cX9_gives 200 = .ok (.aload_n 0, 1) := by decide +kernel
theorem dX9_gives_201 : decode cX9_gives 201 = .ok (.getfield 55, 3) := by decide +kernel
theorem dX9_gives_204 : decode cX9_gives 204 = .ok (.aload_n 0, 1) := by decide +kernel
theorem dX9_gives_205 : decode cX9_gives 205 = .ok (.getfield 22, 3) := by decide +kernel
theorem dX9_gives_208 : decode cX9_gives 208 = .ok (.iload_n 1, 1) := by decide +kernel
theorem dX9_gives_209 : decode cX9_gives 209 = .ok (.iaload, 1) := by decide +kernel
theorem dX9_gives_210 : decode cX9_gives 210 = .ok (.dup2, 1) := by decide +kernel
theorem dX9_gives_211 : decode cX9_gives 211 = .ok (.iaload, 1) := by decide +kernel
theorem dX9_gives_212 : decode cX9_gives 212 = .ok (.aload_n 0, 1) := by decide +kernel
theorem dX9_gives_213 : decode cX9_gives 213 = .ok (.getfield 49, 3) := by decide +kernel
theorem dX9_gives_216 : decode cX9_gives 216 = .ok (.iload_n 1, 1) := by decide +kernel
theorem dX9_gives_217 : decode cX9_gives 217 = .ok (.iaload, 1) := by decide +kernel
theorem dX9_gives_218 : decode cX9_gives 218 = .ok (.isub, 1) := by decide +kernel
theorem dX9_gives_219 : decode cX9_gives 219 = .ok (.iastore, 1) := by decide +kernel
theorem dX9_gives_220 : decode cX9_gives 220 = .ok (.iinc 1 1, 3) := by decide +kernel
theorem dX9_gives_223 : decode cX9_gives 223 = .ok (.goto (-31), 3) := by decide +kernel
theorem dX9_gives_226 : decode cX9_gives 226 = .ok (.return_, 1) := by decide +kernel
theorem dX9_goesWithout_0 : decode cX9_goesWithout 0 = .ok (.aload_n 0, 1) := by decide +kernel
theorem dX9_goesWithout_1 : decode cX9_goesWithout 1 = .ok (.getfield 16, 3) := by decide +kernel
theorem dX9_goesWithout_4 : decode cX9_goesWithout 4 = .ok (.iload_n 1, 1) := by decide +kernel
theorem dX9_goesWithout_5 : decode cX9_goesWithout 5 = .ok (.iaload, 1) := by decide +kernel
theorem dX9_goesWithout_6 : decode cX9_goesWithout 6 = .ok (.ifCond .le 16, 3) := by decide +kernel
theorem dX9_goesWithout_9 : decode cX9_goesWithout 9 = .ok (.aload_n 0, 1) := by decide +kernel
theorem dX9_goesWithout_10 : decode cX9_goesWithout 10 = .ok (.getfield 49, 3) := by decide +kernel
theorem dX9_goesWithout_13 : decode cX9_goesWithout 13 = .ok (.iload_n 1, 1) := by decide +kernel
theorem dX9_goesWithout_14 : decode cX9_goesWithout 14 = .ok (.iaload, 1) := by decide +kernel
theorem dX9_goesWithout_15 : decode cX9_goesWithout 15 = .ok (.ifCond .ne 7, 3) := by decide +kernel
theorem dX9_goesWithout_18 : decode cX9_goesWithout 18 = .ok (.iconst 1, 1) := by decide +kernel
theorem dX9_goesWithout_19 : decode cX9_goesWithout 19 = .ok (.goto 4, 3) := by decide +kernel
theorem dX9_goesWithout_22 : decode cX9_goesWithout 22 = .ok (.iconst 0, 1) := by decide +kernel
theorem dX9_goesWithout_23 : decode cX9_goesWithout 23 = .ok (.ireturn, 1) := by decide +kernel
theorem dX9_whoGoWithout_0 : decode cX9_whoGoWithout 0 = .ok (.iconst 0, 1) := by decide +kernel
theorem dX9_whoGoWithout_1 : decode cX9_whoGoWithout 1 = .ok (.istore_n 1, 1) := by decide +kernel
theorem dX9_whoGoWithout_2 : decode cX9_whoGoWithout 2 = .ok (.iconst 0, 1) := by decide +kernel
theorem dX9_whoGoWithout_3 : decode cX9_whoGoWithout 3 = .ok (.istore_n 2, 1) := by decide +kernel
theorem dX9_whoGoWithout_4 : decode cX9_whoGoWithout 4 = .ok (.iload_n 2, 1) := by decide +kernel
theorem dX9_whoGoWithout_5 : decode cX9_whoGoWithout 5 = .ok (.aload_n 0, 1) := by decide +kernel
theorem dX9_whoGoWithout_6 : decode cX9_whoGoWithout 6 = .ok (.getfield 104, 3) := by decide +kernel
theorem dX9_whoGoWithout_9 : decode cX9_whoGoWithout 9 = .ok (.if_icmp .ge 27, 3) := by decide +kernel
theorem dX9_whoGoWithout_12 : decode cX9_whoGoWithout 12 = .ok (.iload_n 1, 1) := by decide +kernel
theorem dX9_whoGoWithout_13 : decode cX9_whoGoWithout 13 = .ok (.aload_n 0, 1) := by decide +kernel
theorem dX9_whoGoWithout_14 : decode cX9_whoGoWithout 14 = .ok (.iload_n 2, 1) := by decide +kernel
theorem dX9_whoGoWithout_15 : decode cX9_whoGoWithout 15 = .ok (.invokevirtual 177, 3) := by decide +kernel
theorem dX9_whoGoWithout_18 : decode cX9_whoGoWithout 18 = .ok (.ifCond .eq 9, 3) := by decide +kernel
theorem dX9_whoGoWithout_21 : decode cX9_whoGoWithout 21 = .ok (.iconst 1, 1) := by decide +kernel
theorem dX9_whoGoWithout_22 : decode cX9_whoGoWithout 22 = .ok (.iload_n 2, 1) := by decide +kernel
theorem dX9_whoGoWithout_23 : decode cX9_whoGoWithout 23 = .ok (.ishl, 1) := by decide +kernel
theorem dX9_whoGoWithout_24 : decode cX9_whoGoWithout 24 = .ok (.goto 4, 3) := by decide +kernel
theorem dX9_whoGoWithout_27 : decode cX9_whoGoWithout 27 = .ok (.iconst 0, 1) := by decide +kernel
theorem dX9_whoGoWithout_28 : decode cX9_whoGoWithout 28 = .ok (.ior, 1) := by decide +kernel
theorem dX9_whoGoWithout_29 : decode cX9_whoGoWithout 29 = .ok (.istore_n 1, 1) := by decide +kernel
theorem dX9_whoGoWithout_30 : decode cX9_whoGoWithout 30 = .ok (.iinc 2 1, 3) := by decide +kernel
theorem dX9_whoGoWithout_33 : decode cX9_whoGoWithout 33 = .ok (.goto (-29), 3) := by decide +kernel
theorem dX9_whoGoWithout_36 : decode cX9_whoGoWithout 36 = .ok (.iload_n 1, 1) := by decide +kernel
theorem dX9_whoGoWithout_37 : decode cX9_whoGoWithout 37 = .ok (.ireturn, 1) := by decide +kernel
theorem dX9_crowdsOut_0 : decode cX9_crowdsOut 0 = .ok (.iconst 0, 1) := by decide +kernel
theorem dX9_crowdsOut_1 : decode cX9_crowdsOut 1 = .ok (.istore_n 2, 1) := by decide +kernel
theorem dX9_crowdsOut_2 : decode cX9_crowdsOut 2 = .ok (.iconst 0, 1) := by decide +kernel
theorem dX9_crowdsOut_3 : decode cX9_crowdsOut 3 = .ok (.istore_n 3, 1) := by decide +kernel
theorem dX9_crowdsOut_4 : decode cX9_crowdsOut 4 = .ok (.iload_n 3, 1) := by decide +kernel
theorem dX9_crowdsOut_5 : decode cX9_crowdsOut 5 = .ok (.aload_n 0, 1) := by decide +kernel
theorem dX9_crowdsOut_6 : decode cX9_crowdsOut 6 = .ok (.getfield 104, 3) := by decide +kernel
theorem dX9_crowdsOut_9 : decode cX9_crowdsOut 9 = .ok (.if_icmp .ge 78, 3) := by decide +kernel
theorem dX9_crowdsOut_12 : decode cX9_crowdsOut 12 = .ok (.aload_n 0, 1) := by decide +kernel
theorem dX9_crowdsOut_13 : decode cX9_crowdsOut 13 = .ok (.iload_n 3, 1) := by decide +kernel
theorem dX9_crowdsOut_14 : decode cX9_crowdsOut 14 = .ok (.invokevirtual 177, 3) := by decide +kernel
theorem dX9_crowdsOut_17 : decode cX9_crowdsOut 17 = .ok (.ifCond .eq 46, 3) := by decide +kernel
theorem dX9_crowdsOut_20 : decode cX9_crowdsOut 20 = .ok (.aload_n 0, 1) := by decide +kernel
theorem dX9_crowdsOut_21 : decode cX9_crowdsOut 21 = .ok (.getfield 22, 3) := by decide +kernel
theorem dX9_crowdsOut_24 : decode cX9_crowdsOut 24 = .ok (.iload_n 3, 1) := by decide +kernel
theorem dX9_crowdsOut_25 : decode cX9_crowdsOut 25 = .ok (.iaload, 1) := by decide +kernel
theorem dX9_crowdsOut_26 : decode cX9_crowdsOut 26 = .ok (.aload_n 0, 1) := by decide +kernel
theorem dX9_crowdsOut_27 : decode cX9_crowdsOut 27 = .ok (.getfield 22, 3) := by decide +kernel
theorem dX9_crowdsOut_30 : decode cX9_crowdsOut 30 = .ok (.iload_n 1, 1) := by decide +kernel
theorem dX9_crowdsOut_31 : decode cX9_crowdsOut 31 = .ok (.iaload, 1) := by decide +kernel
theorem dX9_crowdsOut_32 : decode cX9_crowdsOut 32 = .ok (.if_icmp .ne 31, 3) := by decide +kernel
theorem dX9_crowdsOut_35 : decode cX9_crowdsOut 35 = .ok (.aload_n 0, 1) := by decide +kernel
theorem dX9_crowdsOut_36 : decode cX9_crowdsOut 36 = .ok (.getfield 16, 3) := by decide +kernel
theorem dX9_crowdsOut_39 : decode cX9_crowdsOut 39 = .ok (.iload_n 3, 1) := by decide +kernel
theorem dX9_crowdsOut_40 : decode cX9_crowdsOut 40 = .ok (.iaload, 1) := by decide +kernel
theorem dX9_crowdsOut_41 : decode cX9_crowdsOut 41 = .ok (.aload_n 0, 1) := by decide +kernel
theorem dX9_crowdsOut_42 : decode cX9_crowdsOut 42 = .ok (.getfield 16, 3) := by decide +kernel
theorem dX9_crowdsOut_45 : decode cX9_crowdsOut 45 = .ok (.iload_n 1, 1) := by decide +kernel
theorem dX9_crowdsOut_46 : decode cX9_crowdsOut 46 = .ok (.iaload, 1) := by decide +kernel
theorem dX9_crowdsOut_47 : decode cX9_crowdsOut 47 = .ok (.if_icmp .le 16, 3) := by decide +kernel
theorem dX9_crowdsOut_50 : decode cX9_crowdsOut 50 = .ok (.aload_n 0, 1) := by decide +kernel
theorem dX9_crowdsOut_51 : decode cX9_crowdsOut 51 = .ok (.getfield 49, 3) := by decide +kernel
theorem dX9_crowdsOut_54 : decode cX9_crowdsOut 54 = .ok (.iload_n 1, 1) := by decide +kernel
theorem dX9_crowdsOut_55 : decode cX9_crowdsOut 55 = .ok (.iaload, 1) := by decide +kernel
theorem dX9_crowdsOut_56 : decode cX9_crowdsOut 56 = .ok (.ifCond .le 7, 3) := by decide +kernel
theorem dX9_crowdsOut_59 : decode cX9_crowdsOut 59 = .ok (.iconst 1, 1) := by decide +kernel
theorem dX9_crowdsOut_60 : decode cX9_crowdsOut 60 = .ok (.goto 4, 3) := by decide +kernel
theorem dX9_crowdsOut_63 : decode cX9_crowdsOut 63 = .ok (.iconst 0, 1) := by decide +kernel
theorem dX9_crowdsOut_64 : decode cX9_crowdsOut 64 = .ok (.istore 4, 2) := by decide +kernel
theorem dX9_crowdsOut_66 : decode cX9_crowdsOut 66 = .ok (.iload_n 2, 1) := by decide +kernel
theorem dX9_crowdsOut_67 : decode cX9_crowdsOut 67 = .ok (.iload 4, 2) := by decide +kernel
theorem dX9_crowdsOut_69 : decode cX9_crowdsOut 69 = .ok (.ifCond .eq 9, 3) := by decide +kernel
theorem dX9_crowdsOut_72 : decode cX9_crowdsOut 72 = .ok (.iconst 1, 1) := by decide +kernel
theorem dX9_crowdsOut_73 : decode cX9_crowdsOut 73 = .ok (.iload_n 3, 1) := by decide +kernel
theorem dX9_crowdsOut_74 : decode cX9_crowdsOut 74 = .ok (.ishl, 1) := by decide +kernel
theorem dX9_crowdsOut_75 : decode cX9_crowdsOut 75 = .ok (.goto 4, 3) := by decide +kernel
theorem dX9_crowdsOut_78 : decode cX9_crowdsOut 78 = .ok (.iconst 0, 1) := by decide +kernel
theorem dX9_crowdsOut_79 : decode cX9_crowdsOut 79 = .ok (.ior, 1) := by decide +kernel
theorem dX9_crowdsOut_80 : decode cX9_crowdsOut 80 = .ok (.istore_n 2, 1) := by decide +kernel
theorem dX9_crowdsOut_81 : decode cX9_crowdsOut 81 = .ok (.iinc 3 1, 3) := by decide +kernel
theorem dX9_crowdsOut_84 : decode cX9_crowdsOut 84 = .ok (.goto (-80), 3) := by decide +kernel
theorem dX9_crowdsOut_87 : decode cX9_crowdsOut 87 = .ok (.iload_n 2, 1) := by decide +kernel
theorem dX9_crowdsOut_88 : decode cX9_crowdsOut 88 = .ok (.ireturn, 1) := by decide +kernel
theorem dX9_ofComer_0 : decode cX9_ofComer 0 = .ok (.aload_n 0, 1) := by decide +kernel
theorem dX9_ofComer_1 : decode cX9_ofComer 1 = .ok (.iload_n 1, 1) := by decide +kernel
theorem dX9_ofComer_2 : decode cX9_ofComer 2 = .ok (.invokevirtual 180, 3) := by decide +kernel
theorem dX9_ofComer_5 : decode cX9_ofComer 5 = .ok (.ifCond .eq 5, 3) := by decide +kernel
theorem dX9_ofComer_8 : decode cX9_ofComer 8 = .ok (.iconst (-1), 1) := by decide +kernel
theorem dX9_ofComer_9 : decode cX9_ofComer 9 = .ok (.ireturn, 1) := by decide +kernel
theorem dX9_ofComer_10 : decode cX9_ofComer 10 = .ok (.aload_n 0, 1) := by decide +kernel
theorem dX9_ofComer_11 : decode cX9_ofComer 11 = .ok (.invokevirtual 183, 3) := by decide +kernel
theorem dX9_ofComer_14 : decode cX9_ofComer 14 = .ok (.iload_n 2, 1) := by decide +kernel
theorem dX9_ofComer_15 : decode cX9_ofComer 15 = .ok (.tableswitch 128 0 9 #[53, 60, 67, 74, 81, 88, 94, 101, 115, 121], 53) := by decide +kernel
theorem dX9_ofComer_68 : decode cX9_ofComer 68 = .ok (.aload_n 0, 1) := by decide +kernel
theorem dX9_ofComer_69 : decode cX9_ofComer 69 = .ok (.getfield 13, 3) := by decide +kernel
theorem dX9_ofComer_72 : decode cX9_ofComer 72 = .ok (.iload_n 1, 1) := by decide +kernel
theorem dX9_ofComer_73 : decode cX9_ofComer 73 = .ok (.iaload, 1) := by decide +kernel
theorem dX9_ofComer_74 : decode cX9_ofComer 74 = .ok (.ireturn, 1) := by decide +kernel
theorem dX9_ofComer_75 : decode cX9_ofComer 75 = .ok (.aload_n 0, 1) := by decide +kernel
theorem dX9_ofComer_76 : decode cX9_ofComer 76 = .ok (.getfield 16, 3) := by decide +kernel
theorem dX9_ofComer_79 : decode cX9_ofComer 79 = .ok (.iload_n 1, 1) := by decide +kernel
theorem dX9_ofComer_80 : decode cX9_ofComer 80 = .ok (.iaload, 1) := by decide +kernel
theorem dX9_ofComer_81 : decode cX9_ofComer 81 = .ok (.ireturn, 1) := by decide +kernel
theorem dX9_ofComer_82 : decode cX9_ofComer 82 = .ok (.aload_n 0, 1) := by decide +kernel
theorem dX9_ofComer_83 : decode cX9_ofComer 83 = .ok (.getfield 19, 3) := by decide +kernel
theorem dX9_ofComer_86 : decode cX9_ofComer 86 = .ok (.iload_n 1, 1) := by decide +kernel
theorem dX9_ofComer_87 : decode cX9_ofComer 87 = .ok (.iaload, 1) := by decide +kernel
theorem dX9_ofComer_88 : decode cX9_ofComer 88 = .ok (.ireturn, 1) := by decide +kernel
theorem dX9_ofComer_89 : decode cX9_ofComer 89 = .ok (.aload_n 0, 1) := by decide +kernel
theorem dX9_ofComer_90 : decode cX9_ofComer 90 = .ok (.getfield 22, 3) := by decide +kernel
theorem dX9_ofComer_93 : decode cX9_ofComer 93 = .ok (.iload_n 1, 1) := by decide +kernel
theorem dX9_ofComer_94 : decode cX9_ofComer 94 = .ok (.iaload, 1) := by decide +kernel
theorem dX9_ofComer_95 : decode cX9_ofComer 95 = .ok (.ireturn, 1) := by decide +kernel
theorem dX9_ofComer_96 : decode cX9_ofComer 96 = .ok (.aload_n 0, 1) := by decide +kernel
theorem dX9_ofComer_97 : decode cX9_ofComer 97 = .ok (.getfield 25, 3) := by decide +kernel
theorem dX9_ofComer_100 : decode cX9_ofComer 100 = .ok (.iload_n 1, 1) := by decide +kernel
theorem dX9_ofComer_101 : decode cX9_ofComer 101 = .ok (.iaload, 1) := by decide +kernel
theorem dX9_ofComer_102 : decode cX9_ofComer 102 = .ok (.ireturn, 1) := by decide +kernel
theorem dX9_ofComer_103 : decode cX9_ofComer 103 = .ok (.aload_n 0, 1) := by decide +kernel
theorem dX9_ofComer_104 : decode cX9_ofComer 104 = .ok (.iload_n 1, 1) := by decide +kernel
theorem dX9_ofComer_105 : decode cX9_ofComer 105 = .ok (.invokevirtual 171, 3) := by decide +kernel
theorem dX9_ofComer_108 : decode cX9_ofComer 108 = .ok (.ireturn, 1) := by decide +kernel
theorem dX9_ofComer_109 : decode cX9_ofComer 109 = .ok (.aload_n 0, 1) := by decide +kernel
theorem dX9_ofComer_110 : decode cX9_ofComer 110 = .ok (.getfield 49, 3) := by decide +kernel
theorem dX9_ofComer_113 : decode cX9_ofComer 113 = .ok (.iload_n 1, 1) := by decide +kernel
theorem dX9_ofComer_114 : decode cX9_ofComer 114 = .ok (.iaload, 1) := by decide +kernel
theorem dX9_ofComer_115 : decode cX9_ofComer 115 = .ok (.ireturn, 1) := by decide +kernel
theorem dX9_ofComer_116 : decode cX9_ofComer 116 = .ok (.aload_n 0, 1) := by decide +kernel
theorem dX9_ofComer_117 : decode cX9_ofComer 117 = .ok (.iload_n 1, 1) := by decide +kernel
theorem dX9_ofComer_118 : decode cX9_ofComer 118 = .ok (.invokevirtual 177, 3) := by decide +kernel
theorem dX9_ofComer_121 : decode cX9_ofComer 121 = .ok (.ifCond .eq 7, 3) := by decide +kernel
theorem dX9_ofComer_124 : decode cX9_ofComer 124 = .ok (.iconst 1, 1) := by decide +kernel
theorem dX9_ofComer_125 : decode cX9_ofComer 125 = .ok (.goto 4, 3) := by decide +kernel
theorem dX9_ofComer_128 : decode cX9_ofComer 128 = .ok (.iconst 0, 1) := by decide +kernel
theorem dX9_ofComer_129 : decode cX9_ofComer 129 = .ok (.ireturn, 1) := by decide +kernel
theorem dX9_ofComer_130 : decode cX9_ofComer 130 = .ok (.aload_n 0, 1) := by decide +kernel
theorem dX9_ofComer_131 : decode cX9_ofComer 131 = .ok (.iload_n 1, 1) := by decide +kernel
theorem dX9_ofComer_132 : decode cX9_ofComer 132 = .ok (.invokevirtual 186, 3) := by decide +kernel
theorem dX9_ofComer_135 : decode cX9_ofComer 135 = .ok (.ireturn, 1) := by decide +kernel
theorem dX9_ofComer_136 : decode cX9_ofComer 136 = .ok (.aload_n 0, 1) := by decide +kernel
theorem dX9_ofComer_137 : decode cX9_ofComer 137 = .ok (.getfield 52, 3) := by decide +kernel
theorem dX9_ofComer_140 : decode cX9_ofComer 140 = .ok (.iload_n 1, 1) := by decide +kernel
theorem dX9_ofComer_141 : decode cX9_ofComer 141 = .ok (.iaload, 1) := by decide +kernel
theorem dX9_ofComer_142 : decode cX9_ofComer 142 = .ok (.ireturn, 1) := by decide +kernel
theorem dX9_ofComer_143 : decode cX9_ofComer 143 = .ok (.bipush (-2), 2) := by decide +kernel
theorem dX9_ofComer_145 : decode cX9_ofComer 145 = .ok (.ireturn, 1) := by decide +kernel
theorem dX9_ofGate_0 : decode cX9_ofGate 0 = .ok (.aload_n 0, 1) := by decide +kernel
theorem dX9_ofGate_1 : decode cX9_ofGate 1 = .ok (.iload_n 1, 1) := by decide +kernel
theorem dX9_ofGate_2 : decode cX9_ofGate 2 = .ok (.invokevirtual 189, 3) := by decide +kernel
theorem dX9_ofGate_5 : decode cX9_ofGate 5 = .ok (.ifCond .eq 5, 3) := by decide +kernel
theorem dX9_ofGate_8 : decode cX9_ofGate 8 = .ok (.iconst (-1), 1) := by decide +kernel
theorem dX9_ofGate_9 : decode cX9_ofGate 9 = .ok (.ireturn, 1) := by decide +kernel
theorem dX9_ofGate_10 : decode cX9_ofGate 10 = .ok (.aload_n 0, 1) := by decide +kernel
theorem dX9_ofGate_11 : decode cX9_ofGate 11 = .ok (.invokevirtual 183, 3) := by decide +kernel
theorem dX9_ofGate_14 : decode cX9_ofGate 14 = .ok (.iconst 0, 1) := by decide +kernel
theorem dX9_ofGate_15 : decode cX9_ofGate 15 = .ok (.istore_n 3, 1) := by decide +kernel
theorem dX9_ofGate_16 : decode cX9_ofGate 16 = .ok (.iconst 0, 1) := by decide +kernel
theorem dX9_ofGate_17 : decode cX9_ofGate 17 = .ok (.istore 4, 2) := by decide +kernel
theorem dX9_ofGate_19 : decode cX9_ofGate 19 = .ok (.iload 4, 2) := by decide +kernel
theorem dX9_ofGate_21 : decode cX9_ofGate 21 = .ok (.aload_n 0, 1) := by decide +kernel
theorem dX9_ofGate_22 : decode cX9_ofGate 22 = .ok (.getfield 104, 3) := by decide +kernel
theorem dX9_ofGate_25 : decode cX9_ofGate 25 = .ok (.if_icmp .ge 31, 3) := by decide +kernel
theorem dX9_ofGate_28 : decode cX9_ofGate 28 = .ok (.iload_n 3, 1) := by decide +kernel
theorem dX9_ofGate_29 : decode cX9_ofGate 29 = .ok (.aload_n 0, 1) := by decide +kernel
theorem dX9_ofGate_30 : decode cX9_ofGate 30 = .ok (.getfield 22, 3) := by decide +kernel
theorem dX9_ofGate_33 : decode cX9_ofGate 33 = .ok (.iload 4, 2) := by decide +kernel
theorem dX9_ofGate_35 : decode cX9_ofGate 35 = .ok (.iaload, 1) := by decide +kernel
theorem dX9_ofGate_36 : decode cX9_ofGate 36 = .ok (.iload_n 1, 1) := by decide +kernel
theorem dX9_ofGate_37 : decode cX9_ofGate 37 = .ok (.if_icmp .ne 10, 3) := by decide +kernel
theorem dX9_ofGate_40 : decode cX9_ofGate 40 = .ok (.iconst 1, 1) := by decide +kernel
theorem dX9_ofGate_41 : decode cX9_ofGate 41 = .ok (.iload 4, 2) := by decide +kernel
theorem dX9_ofGate_43 : decode cX9_ofGate 43 = .ok (.ishl, 1) := by decide +kernel
theorem dX9_ofGate_44 : decode cX9_ofGate 44 = .ok (.goto 4, 3) := by decide +kernel
theorem dX9_ofGate_47 : decode cX9_ofGate 47 = .ok (.iconst 0, 1) := by decide +kernel
theorem dX9_ofGate_48 : decode cX9_ofGate 48 = .ok (.ior, 1) := by decide +kernel
theorem dX9_ofGate_49 : decode cX9_ofGate 49 = .ok (.istore_n 3, 1) := by decide +kernel
theorem dX9_ofGate_50 : decode cX9_ofGate 50 = .ok (.iinc 4 1, 3) := by decide +kernel
theorem dX9_ofGate_53 : decode cX9_ofGate 53 = .ok (.goto (-34), 3) := by decide +kernel
theorem dX9_ofGate_56 : decode cX9_ofGate 56 = .ok (.iload_n 2, 1) := by decide +kernel
theorem dX9_ofGate_57 : decode cX9_ofGate 57 = .ok (.ifCond .ne 12, 3) := by decide +kernel
theorem dX9_ofGate_60 : decode cX9_ofGate 60 = .ok (.aload_n 0, 1) := by decide +kernel
theorem dX9_ofGate_61 : decode cX9_ofGate 61 = .ok (.getfield 7, 3) := by decide +kernel
theorem dX9_ofGate_64 : decode cX9_ofGate 64 = .ok (.iload_n 1, 1) := by decide +kernel
theorem dX9_ofGate_65 : decode cX9_ofGate 65 = .ok (.iaload, 1) := by decide +kernel
theorem dX9_ofGate_66 : decode cX9_ofGate 66 = .ok (.goto 42, 3) := by decide +kernel
theorem dX9_ofGate_69 : decode cX9_ofGate 69 = .ok (.iload_n 2, 1) := by decide +kernel
theorem dX9_ofGate_70 : decode cX9_ofGate 70 = .ok (.iconst 1, 1) := by decide +kernel
theorem dX9_ofGate_71 : decode cX9_ofGate 71 = .ok (.if_icmp .ne 7, 3) := by decide +kernel
theorem dX9_ofGate_74 : decode cX9_ofGate 74 = .ok (.iload_n 3, 1) := by decide +kernel
theorem dX9_ofGate_75 : decode cX9_ofGate 75 = .ok (.goto 33, 3) := by decide +kernel
theorem dX9_ofGate_78 : decode cX9_ofGate 78 = .ok (.iload_n 2, 1) := by decide +kernel
theorem dX9_ofGate_79 : decode cX9_ofGate 79 = .ok (.iconst 2, 1) := by decide +kernel
theorem dX9_ofGate_80 : decode cX9_ofGate 80 = .ok (.if_icmp .ne 12, 3) := by decide +kernel
theorem dX9_ofGate_83 : decode cX9_ofGate 83 = .ok (.aload_n 0, 1) := by decide +kernel
theorem dX9_ofGate_84 : decode cX9_ofGate 84 = .ok (.getfield 55, 3) := by decide +kernel
theorem dX9_ofGate_87 : decode cX9_ofGate 87 = .ok (.iload_n 1, 1) := by decide +kernel
theorem dX9_ofGate_88 : decode cX9_ofGate 88 = .ok (.iaload, 1) := by decide +kernel
theorem dX9_ofGate_89 : decode cX9_ofGate 89 = .ok (.goto 19, 3) := by decide +kernel
theorem dX9_ofGate_92 : decode cX9_ofGate 92 = .ok (.iload_n 2, 1) := by decide +kernel
theorem dX9_ofGate_93 : decode cX9_ofGate 93 = .ok (.iconst 3, 1) := by decide +kernel
theorem dX9_ofGate_94 : decode cX9_ofGate 94 = .ok (.if_icmp .ne 12, 3) := by decide +kernel
theorem dX9_ofGate_97 : decode cX9_ofGate 97 = .ok (.iload_n 3, 1) := by decide +kernel
theorem dX9_ofGate_98 : decode cX9_ofGate 98 = .ok (.aload_n 0, 1) := by decide +kernel
theorem dX9_ofGate_99 : decode cX9_ofGate 99 = .ok (.invokevirtual 192, 3) := by decide +kernel
theorem dX9_ofGate_102 : decode cX9_ofGate 102 = .ok (.iand, 1) := by decide +kernel
theorem dX9_ofGate_103 : decode cX9_ofGate 103 = .ok (.goto 5, 3) := by decide +kernel
theorem dX9_ofGate_106 : decode cX9_ofGate 106 = .ok (.bipush (-2), 2) := by decide +kernel
theorem dX9_ofGate_108 : decode cX9_ofGate 108 = .ok (.ireturn, 1) := by decide +kernel
theorem dX9_isFigure_0 : decode cX9_isFigure 0 = .ok (.iload_n 0, 1) := by decide +kernel
theorem dX9_isFigure_1 : decode cX9_isFigure 1 = .ok (.i2l, 1) := by decide +kernel
theorem dX9_isFigure_2 : decode cX9_isFigure 2 = .ok (.lconst 0, 1) := by decide +kernel
theorem dX9_isFigure_3 : decode cX9_isFigure 3 = .ok (.ldc2_w 196, 3) := by decide +kernel
theorem dX9_isFigure_6 : decode cX9_isFigure 6 = .ok (.invokestatic 107, 3) := by decide +kernel
theorem dX9_isFigure_9 : decode cX9_isFigure 9 = .ok (.ireturn, 1) := by decide +kernel
theorem dX9_show_0 : decode cX9_show 0 = .ok (.aload_n 0, 1) := by decide +kernel
theorem dX9_show_1 : decode cX9_show 1 = .ok (.iload_n 1, 1) := by decide +kernel
theorem dX9_show_2 : decode cX9_show 2 = .ok (.invokevirtual 180, 3) := by decide +kernel
theorem dX9_show_5 : decode cX9_show 5 = .ok (.ifCond .eq 5, 3) := by decide +kernel
theorem dX9_show_8 : decode cX9_show 8 = .ok (.iconst (-1), 1) := by decide +kernel
theorem dX9_show_9 : decode cX9_show 9 = .ok (.ireturn, 1) := by decide +kernel
theorem dX9_show_10 : decode cX9_show 10 = .ok (.iload_n 2, 1) := by decide +kernel
theorem dX9_show_11 : decode cX9_show 11 = .ok (.invokestatic 198, 3) := by decide +kernel
theorem dX9_show_14 : decode cX9_show 14 = .ok (.ifCond .ne 6, 3) := by decide +kernel
theorem dX9_show_17 : decode cX9_show 17 = .ok (.bipush (-2), 2) := by decide +kernel
theorem dX9_show_19 : decode cX9_show 19 = .ok (.ireturn, 1) := by decide +kernel
theorem dX9_show_20 : decode cX9_show 20 = .ok (.aload_n 0, 1) := by decide +kernel
theorem dX9_show_21 : decode cX9_show 21 = .ok (.getfield 19, 3) := by decide +kernel
theorem dX9_show_24 : decode cX9_show 24 = .ok (.iload_n 1, 1) := by decide +kernel
theorem dX9_show_25 : decode cX9_show 25 = .ok (.iaload, 1) := by decide +kernel
theorem dX9_show_26 : decode cX9_show 26 = .ok (.istore_n 3, 1) := by decide +kernel
theorem dX9_show_27 : decode cX9_show 27 = .ok (.aload_n 0, 1) := by decide +kernel
theorem dX9_show_28 : decode cX9_show 28 = .ok (.getfield 19, 3) := by decide +kernel
theorem dX9_show_31 : decode cX9_show 31 = .ok (.iload_n 1, 1) := by decide +kernel
theorem dX9_show_32 : decode cX9_show 32 = .ok (.iload_n 2, 1) := by decide +kernel
theorem dX9_show_33 : decode cX9_show 33 = .ok (.iastore, 1) := by decide +kernel
theorem dX9_show_34 : decode cX9_show 34 = .ok (.iload_n 3, 1) := by decide +kernel
theorem dX9_show_35 : decode cX9_show 35 = .ok (.ireturn, 1) := by decide +kernel
theorem dX9_lead_0 : decode cX9_lead 0 = .ok (.aload_n 0, 1) := by decide +kernel
theorem dX9_lead_1 : decode cX9_lead 1 = .ok (.iload_n 1, 1) := by decide +kernel
theorem dX9_lead_2 : decode cX9_lead 2 = .ok (.invokevirtual 180, 3) := by decide +kernel
theorem dX9_lead_5 : decode cX9_lead 5 = .ok (.ifCond .ne 11, 3) := by decide +kernel
theorem dX9_lead_8 : decode cX9_lead 8 = .ok (.aload_n 0, 1) := by decide +kernel
theorem dX9_lead_9 : decode cX9_lead 9 = .ok (.iload_n 2, 1) := by decide +kernel
theorem dX9_lead_10 : decode cX9_lead 10 = .ok (.invokevirtual 189, 3) := by decide +kernel
theorem dX9_lead_13 : decode cX9_lead 13 = .ok (.ifCond .eq 5, 3) := by decide +kernel
theorem dX9_lead_16 : decode cX9_lead 16 = .ok (.iconst (-1), 1) := by decide +kernel
theorem dX9_lead_17 : decode cX9_lead 17 = .ok (.ireturn, 1) := by decide +kernel
theorem dX9_lead_18 : decode cX9_lead 18 = .ok (.aload_n 0, 1) := by decide +kernel
theorem dX9_lead_19 : decode cX9_lead 19 = .ok (.getfield 22, 3) := by decide +kernel
theorem dX9_lead_22 : decode cX9_lead 22 = .ok (.iload_n 1, 1) := by decide +kernel
theorem dX9_lead_23 : decode cX9_lead 23 = .ok (.iaload, 1) := by decide +kernel
theorem dX9_lead_24 : decode cX9_lead 24 = .ok (.istore_n 3, 1) := by decide +kernel
theorem dX9_lead_25 : decode cX9_lead 25 = .ok (.aload_n 0, 1) := by decide +kernel
theorem dX9_lead_26 : decode cX9_lead 26 = .ok (.getfield 22, 3) := by decide +kernel
theorem dX9_lead_29 : decode cX9_lead 29 = .ok (.iload_n 1, 1) := by decide +kernel
theorem dX9_lead_30 : decode cX9_lead 30 = .ok (.iload_n 2, 1) := by decide +kernel
theorem dX9_lead_31 : decode cX9_lead 31 = .ok (.iastore, 1) := by decide +kernel
theorem dX9_lead_32 : decode cX9_lead 32 = .ok (.iload_n 3, 1) := by decide +kernel
theorem dX9_lead_33 : decode cX9_lead 33 = .ok (.ireturn, 1) := by decide +kernel
theorem dX9_bake_0 : decode cX9_bake 0 = .ok (.aload_n 0, 1) := by decide +kernel
theorem dX9_bake_1 : decode cX9_bake 1 = .ok (.iload_n 1, 1) := by decide +kernel
theorem dX9_bake_2 : decode cX9_bake 2 = .ok (.invokevirtual 189, 3) := by decide +kernel
theorem dX9_bake_5 : decode cX9_bake 5 = .ok (.ifCond .eq 5, 3) := by decide +kernel
theorem dX9_bake_8 : decode cX9_bake 8 = .ok (.iconst (-1), 1) := by decide +kernel
theorem dX9_bake_9 : decode cX9_bake 9 = .ok (.ireturn, 1) := by decide +kernel
theorem dX9_bake_10 : decode cX9_bake 10 = .ok (.iload_n 2, 1) := by decide +kernel
theorem dX9_bake_11 : decode cX9_bake 11 = .ok (.invokestatic 198, 3) := by decide +kernel
theorem dX9_bake_14 : decode cX9_bake 14 = .ok (.ifCond .ne 6, 3) := by decide +kernel
theorem dX9_bake_17 : decode cX9_bake 17 = .ok (.bipush (-2), 2) := by decide +kernel
theorem dX9_bake_19 : decode cX9_bake 19 = .ok (.ireturn, 1) := by decide +kernel
theorem dX9_bake_20 : decode cX9_bake 20 = .ok (.aload_n 0, 1) := by decide +kernel
theorem dX9_bake_21 : decode cX9_bake 21 = .ok (.getfield 7, 3) := by decide +kernel
theorem dX9_bake_24 : decode cX9_bake 24 = .ok (.iload_n 1, 1) := by decide +kernel
theorem dX9_bake_25 : decode cX9_bake 25 = .ok (.iaload, 1) := by decide +kernel
theorem dX9_bake_26 : decode cX9_bake 26 = .ok (.istore_n 3, 1) := by decide +kernel
theorem dX9_bake_27 : decode cX9_bake 27 = .ok (.aload_n 0, 1) := by decide +kernel
theorem dX9_bake_28 : decode cX9_bake 28 = .ok (.getfield 7, 3) := by decide +kernel
theorem dX9_bake_31 : decode cX9_bake 31 = .ok (.iload_n 1, 1) := by decide +kernel
theorem dX9_bake_32 : decode cX9_bake 32 = .ok (.iload_n 2, 1) := by decide +kernel
theorem dX9_bake_33 : decode cX9_bake 33 = .ok (.iastore, 1) := by decide +kernel
theorem dX9_bake_34 : decode cX9_bake 34 = .ok (.iload_n 3, 1) := by decide +kernel
theorem dX9_bake_35 : decode cX9_bake 35 = .ok (.ireturn, 1) := by decide +kernel
theorem dX9_manner_0 : decode cX9_manner 0 = .ok (.iload_n 1, 1) := by decide +kernel
theorem dX9_manner_1 : decode cX9_manner 1 = .ok (.i2l, 1) := by decide +kernel
theorem dX9_manner_2 : decode cX9_manner 2 = .ok (.lconst 0, 1) := by decide +kernel
theorem dX9_manner_3 : decode cX9_manner 3 = .ok (.ldc2_w 153, 3) := by decide +kernel
theorem dX9_manner_6 : decode cX9_manner 6 = .ok (.invokestatic 107, 3) := by decide +kernel
theorem dX9_manner_9 : decode cX9_manner 9 = .ok (.ifCond .ne 6, 3) := by decide +kernel
theorem dX9_manner_12 : decode cX9_manner 12 = .ok (.bipush (-2), 2) := by decide +kernel
theorem dX9_manner_14 : decode cX9_manner 14 = .ok (.ireturn, 1) := by decide +kernel
theorem dX9_manner_15 : decode cX9_manner 15 = .ok (.aload_n 0, 1) := by decide +kernel
theorem dX9_manner_16 : decode cX9_manner 16 = .ok (.getfield 104, 3) := by decide +kernel
theorem dX9_manner_19 : decode cX9_manner 19 = .ok (.ifCond .ne 6, 3) := by decide +kernel
theorem dX9_manner_22 : decode cX9_manner 22 = .ok (.bipush (-3), 2) := by decide +kernel
theorem dX9_manner_24 : decode cX9_manner 24 = .ok (.ireturn, 1) := by decide +kernel
theorem dX9_manner_25 : decode cX9_manner 25 = .ok (.aload_n 0, 1) := by decide +kernel
theorem dX9_manner_26 : decode cX9_manner 26 = .ok (.getfield 162, 3) := by decide +kernel
theorem dX9_manner_29 : decode cX9_manner 29 = .ok (.istore_n 2, 1) := by decide +kernel
theorem dX9_manner_30 : decode cX9_manner 30 = .ok (.aload_n 0, 1) := by decide +kernel
theorem dX9_manner_31 : decode cX9_manner 31 = .ok (.iload_n 1, 1) := by decide +kernel
theorem dX9_manner_32 : decode cX9_manner 32 = .ok (.putfield 162, 3) := by decide +kernel
theorem dX9_manner_35 : decode cX9_manner 35 = .ok (.iload_n 2, 1) := by decide +kernel
theorem dX9_manner_36 : decode cX9_manner 36 = .ok (.ireturn, 1) := by decide +kernel
theorem dX9_chalk_0 : decode cX9_chalk 0 = .ok (.iload_n 1, 1) := by decide +kernel
theorem dX9_chalk_1 : decode cX9_chalk 1 = .ok (.invokestatic 198, 3) := by decide +kernel
theorem dX9_chalk_4 : decode cX9_chalk 4 = .ok (.ifCond .ne 6, 3) := by decide +kernel
theorem dX9_chalk_7 : decode cX9_chalk 7 = .ok (.bipush (-2), 2) := by decide +kernel
theorem dX9_chalk_9 : decode cX9_chalk 9 = .ok (.ireturn, 1) := by decide +kernel
theorem dX9_chalk_10 : decode cX9_chalk 10 = .ok (.aload_n 0, 1) := by decide +kernel
theorem dX9_chalk_11 : decode cX9_chalk 11 = .ok (.getfield 104, 3) := by decide +kernel
theorem dX9_chalk_14 : decode cX9_chalk 14 = .ok (.ifCond .ne 6, 3) := by decide +kernel
theorem dX9_chalk_17 : decode cX9_chalk 17 = .ok (.bipush (-3), 2) := by decide +kernel
theorem dX9_chalk_19 : decode cX9_chalk 19 = .ok (.ireturn, 1) := by decide +kernel
theorem dX9_chalk_20 : decode cX9_chalk 20 = .ok (.aload_n 0, 1) := by decide +kernel
theorem dX9_chalk_21 : decode cX9_chalk 21 = .ok (.getfield 165, 3) := by decide +kernel
theorem dX9_chalk_24 : decode cX9_chalk 24 = .ok (.istore_n 2, 1) := by decide +kernel
theorem dX9_chalk_25 : decode cX9_chalk 25 = .ok (.aload_n 0, 1) := by decide +kernel
theorem dX9_chalk_26 : decode cX9_chalk 26 = .ok (.iload_n 1, 1) := by decide +kernel
theorem dX9_chalk_27 : decode cX9_chalk 27 = .ok (.putfield 165, 3) := by decide +kernel
theorem dX9_chalk_30 : decode cX9_chalk 30 = .ok (.iload_n 2, 1) := by decide +kernel
theorem dX9_chalk_31 : decode cX9_chalk 31 = .ok (.ireturn, 1) := by decide +kernel
theorem dX9_isAsTold_0 : decode cX9_isAsTold 0 = .ok (.iload_n 1, 1) := by decide +kernel
theorem dX9_isAsTold_1 : decode cX9_isAsTold 1 = .ok (.bipush 6, 2) := by decide +kernel
theorem dX9_isAsTold_3 : decode cX9_isAsTold 3 = .ok (.if_icmp .eq 17, 3) := by decide +kernel
theorem dX9_isAsTold_6 : decode cX9_isAsTold 6 = .ok (.iload_n 1, 1) := by decide +kernel
theorem dX9_isAsTold_7 : decode cX9_isAsTold 7 = .ok (.i2l, 1) := by decide +kernel
theorem dX9_isAsTold_8 : decode cX9_isAsTold 8 = .ok (.ldc2_w 201, 3) := by decide +kernel
theorem dX9_isAsTold_11 : decode cX9_isAsTold 11 = .ok (.ldc2_w 203, 3) := by decide +kernel
theorem dX9_isAsTold_14 : decode cX9_isAsTold 14 = .ok (.invokestatic 107, 3) := by decide +kernel
theorem dX9_isAsTold_17 : decode cX9_isAsTold 17 = .ok (.ifCond .eq 7, 3) := by decide +kernel
theorem dX9_isAsTold_20 : decode cX9_isAsTold 20 = .ok (.iconst 2, 1) := by decide +kernel
theorem dX9_isAsTold_21 : decode cX9_isAsTold 21 = .ok (.goto 5, 3) := by decide +kernel
theorem dX9_isAsTold_24 : decode cX9_isAsTold 24 = .ok (.bipush 9, 2) := by decide +kernel
theorem dX9_isAsTold_26 : decode cX9_isAsTold 26 = .ok (.istore_n 2, 1) := by decide +kernel
theorem dX9_isAsTold_27 : decode cX9_isAsTold 27 = .ok (.iload_n 1, 1) := by decide +kernel
theorem dX9_isAsTold_28 : decode cX9_isAsTold 28 = .ok (.i2l, 1) := by decide +kernel
theorem dX9_isAsTold_29 : decode cX9_isAsTold 29 = .ok (.lconst 0, 1) := by decide +kernel
theorem dX9_isAsTold_30 : decode cX9_isAsTold 30 = .ok (.ldc2_w 203, 3) := by decide +kernel
theorem dX9_isAsTold_33 : decode cX9_isAsTold 33 = .ok (.invokestatic 107, 3) := by decide +kernel
theorem dX9_isAsTold_36 : decode cX9_isAsTold 36 = .ok (.ifCond .eq 18, 3) := by decide +kernel
theorem dX9_isAsTold_39 : decode cX9_isAsTold 39 = .ok (.iload_n 0, 1) := by decide +kernel
theorem dX9_isAsTold_40 : decode cX9_isAsTold 40 = .ok (.i2l, 1) := by decide +kernel
theorem dX9_isAsTold_41 : decode cX9_isAsTold 41 = .ok (.lconst 0, 1) := by decide +kernel
theorem dX9_isAsTold_42 : decode cX9_isAsTold 42 = .ok (.iload_n 2, 1) := by decide +kernel
theorem dX9_isAsTold_43 : decode cX9_isAsTold 43 = .ok (.i2l, 1) := by decide +kernel
theorem dX9_isAsTold_44 : decode cX9_isAsTold 44 = .ok (.invokestatic 107, 3) := by decide +kernel
theorem dX9_isAsTold_47 : decode cX9_isAsTold 47 = .ok (.ifCond .eq 7, 3) := by decide +kernel
theorem dX9_isAsTold_50 : decode cX9_isAsTold 50 = .ok (.iconst 1, 1) := by decide +kernel
theorem dX9_isAsTold_51 : decode cX9_isAsTold 51 = .ok (.goto 4, 3) := by decide +kernel
theorem dX9_isAsTold_54 : decode cX9_isAsTold 54 = .ok (.iconst 0, 1) := by decide +kernel
theorem dX9_isAsTold_55 : decode cX9_isAsTold 55 = .ok (.ireturn, 1) := by decide +kernel
theorem dX9_doesPair_0 : decode cX9_doesPair 0 = .ok (.iload_n 2, 1) := by decide +kernel
theorem dX9_doesPair_1 : decode cX9_doesPair 1 = .ok (.bipush 6, 2) := by decide +kernel
theorem dX9_doesPair_3 : decode cX9_doesPair 3 = .ok (.if_icmp .ge 18, 3) := by decide +kernel
theorem dX9_doesPair_6 : decode cX9_doesPair 6 = .ok (.aload_n 0, 1) := by decide +kernel
theorem dX9_doesPair_7 : decode cX9_doesPair 7 = .ok (.iload_n 2, 1) := by decide +kernel
theorem dX9_doesPair_8 : decode cX9_doesPair 8 = .ok (.iload_n 1, 1) := by decide +kernel
theorem dX9_doesPair_9 : decode cX9_doesPair 9 = .ok (.invokevirtual 205, 3) := by decide +kernel
theorem dX9_doesPair_12 : decode cX9_doesPair 12 = .ok (.ifCond .lt 7, 3) := by decide +kernel
theorem dX9_doesPair_15 : decode cX9_doesPair 15 = .ok (.iconst 1, 1) := by decide +kernel
theorem dX9_doesPair_16 : decode cX9_doesPair 16 = .ok (.goto 4, 3) := by decide +kernel
theorem dX9_doesPair_19 : decode cX9_doesPair 19 = .ok (.iconst 0, 1) := by decide +kernel
theorem dX9_doesPair_20 : decode cX9_doesPair 20 = .ok (.ireturn, 1) := by decide +kernel
theorem dX9_doesPair_21 : decode cX9_doesPair 21 = .ok (.iload_n 2, 1) := by decide +kernel
theorem dX9_doesPair_22 : decode cX9_doesPair 22 = .ok (.bipush 8, 2) := by decide +kernel
theorem dX9_doesPair_24 : decode cX9_doesPair 24 = .ok (.if_icmp .ge 31, 3) := by decide +kernel
theorem dX9_doesPair_27 : decode cX9_doesPair 27 = .ok (.iload_n 2, 1) := by decide +kernel
theorem dX9_doesPair_28 : decode cX9_doesPair 28 = .ok (.bipush 6, 2) := by decide +kernel
theorem dX9_doesPair_30 : decode cX9_doesPair 30 = .ok (.if_icmp .ne 11, 3) := by decide +kernel
theorem dX9_doesPair_33 : decode cX9_doesPair 33 = .ok (.aload_n 0, 1) := by decide +kernel
theorem dX9_doesPair_34 : decode cX9_doesPair 34 = .ok (.iload_n 1, 1) := by decide +kernel
theorem dX9_doesPair_35 : decode cX9_doesPair 35 = .ok (.invokevirtual 208, 3) := by decide +kernel
theorem dX9_doesPair_38 : decode cX9_doesPair 38 = .ok (.goto 8, 3) := by decide +kernel
theorem dX9_doesPair_41 : decode cX9_doesPair 41 = .ok (.aload_n 0, 1) := by decide +kernel
theorem dX9_doesPair_42 : decode cX9_doesPair 42 = .ok (.iload_n 1, 1) := by decide +kernel
theorem dX9_doesPair_43 : decode cX9_doesPair 43 = .ok (.invokevirtual 211, 3) := by decide +kernel
theorem dX9_doesPair_46 : decode cX9_doesPair 46 = .ok (.ifCond .lt 7, 3) := by decide +kernel
theorem dX9_doesPair_49 : decode cX9_doesPair 49 = .ok (.iconst 1, 1) := by decide +kernel
theorem dX9_doesPair_50 : decode cX9_doesPair 50 = .ok (.goto 4, 3) := by decide +kernel
theorem dX9_doesPair_53 : decode cX9_doesPair 53 = .ok (.iconst 0, 1) := by decide +kernel
theorem dX9_doesPair_54 : decode cX9_doesPair 54 = .ok (.ireturn, 1) := by decide +kernel
theorem dX9_doesPair_55 : decode cX9_doesPair 55 = .ok (.iload_n 2, 1) := by decide +kernel
theorem dX9_doesPair_56 : decode cX9_doesPair 56 = .ok (.bipush 11, 2) := by decide +kernel
theorem dX9_doesPair_58 : decode cX9_doesPair 58 = .ok (.if_icmp .ge 15, 3) := by decide +kernel
theorem dX9_doesPair_61 : decode cX9_doesPair 61 = .ok (.aload_n 0, 1) := by decide +kernel
theorem dX9_doesPair_62 : decode cX9_doesPair 62 = .ok (.iload_n 2, 1) := by decide +kernel
theorem dX9_doesPair_63 : decode cX9_doesPair 63 = .ok (.bipush 8, 2) := by decide +kernel
theorem dX9_doesPair_65 : decode cX9_doesPair 65 = .ok (.isub, 1) := by decide +kernel
theorem dX9_doesPair_66 : decode cX9_doesPair 66 = .ok (.iload_n 1, 1) := by decide +kernel
theorem dX9_doesPair_67 : decode cX9_doesPair 67 = .ok (.invokevirtual 214, 3) := by decide +kernel
theorem dX9_doesPair_70 : decode cX9_doesPair 70 = .ok (.goto 12, 3) := by decide +kernel
theorem dX9_doesPair_73 : decode cX9_doesPair 73 = .ok (.aload_n 0, 1) := by decide +kernel
theorem dX9_doesPair_74 : decode cX9_doesPair 74 = .ok (.iload_n 2, 1) := by decide +kernel
theorem dX9_doesPair_75 : decode cX9_doesPair 75 = .ok (.bipush 11, 2) := by decide +kernel
theorem dX9_doesPair_77 : decode cX9_doesPair 77 = .ok (.isub, 1) := by decide +kernel
theorem dX9_doesPair_78 : decode cX9_doesPair 78 = .ok (.iload_n 1, 1) := by decide +kernel
theorem dX9_doesPair_79 : decode cX9_doesPair 79 = .ok (.invokevirtual 217, 3) := by decide +kernel
theorem dX9_doesPair_82 : decode cX9_doesPair 82 = .ok (.ifCond .lt 7, 3) := by decide +kernel
theorem dX9_doesPair_85 : decode cX9_doesPair 85 = .ok (.iconst 1, 1) := by decide +kernel
theorem dX9_doesPair_86 : decode cX9_doesPair 86 = .ok (.goto 4, 3) := by decide +kernel
theorem dX9_doesPair_89 : decode cX9_doesPair 89 = .ok (.iconst 0, 1) := by decide +kernel
theorem dX9_doesPair_90 : decode cX9_doesPair 90 = .ok (.ireturn, 1) := by decide +kernel
theorem dX9_dayOf_0 : decode cX9_dayOf 0 = .ok (.bipush (-9), 2) := by decide +kernel
theorem dX9_dayOf_2 : decode cX9_dayOf 2 = .ok (.istore 4, 2) := by decide +kernel
theorem dX9_dayOf_4 : decode cX9_dayOf 4 = .ok (.iconst 0, 1) := by decide +kernel
theorem dX9_dayOf_5 : decode cX9_dayOf 5 = .ok (.istore 5, 2) := by decide +kernel
theorem dX9_dayOf_7 : decode cX9_dayOf 7 = .ok (.iload 5, 2) := by decide +kernel
theorem dX9_dayOf_9 : decode cX9_dayOf 9 = .ok (.iload_n 2, 1) := by decide +kernel
theorem dX9_dayOf_10 : decode cX9_dayOf 10 = .ok (.if_icmp .ge 54, 3) := by decide +kernel
theorem dX9_dayOf_13 : decode cX9_dayOf 13 = .ok (.iload 4, 2) := by decide +kernel
theorem dX9_dayOf_15 : decode cX9_dayOf 15 = .ok (.ifCond .ge 49, 3) := by decide +kernel
theorem dX9_dayOf_18 : decode cX9_dayOf 18 = .ok (.aload_n 0, 1) := by decide +kernel
theorem dX9_dayOf_19 : decode cX9_dayOf 19 = .ok (.aload_n 0, 1) := by decide +kernel
theorem dX9_dayOf_20 : decode cX9_dayOf 20 = .ok (.getfield 88, 3) := by decide +kernel
theorem dX9_dayOf_23 : decode cX9_dayOf 23 = .ok (.iload_n 1, 1) := by decide +kernel
theorem dX9_dayOf_24 : decode cX9_dayOf 24 = .ok (.iconst 2, 1) := by decide +kernel
theorem dX9_dayOf_25 : decode cX9_dayOf 25 = .ok (.iload 5, 2) := by decide +kernel
theorem dX9_dayOf_27 : decode cX9_dayOf 27 = .ok (.imul, 1) := by decide +kernel
theorem dX9_dayOf_28 : decode cX9_dayOf 28 = .ok (.iadd, 1) := by decide +kernel
theorem dX9_dayOf_29 : decode cX9_dayOf 29 = .ok (.iaload, 1) := by decide +kernel
theorem dX9_dayOf_30 : decode cX9_dayOf 30 = .ok (.aload_n 0, 1) := by decide +kernel
theorem dX9_dayOf_31 : decode cX9_dayOf 31 = .ok (.getfield 88, 3) := by decide +kernel
theorem dX9_dayOf_34 : decode cX9_dayOf 34 = .ok (.iload_n 1, 1) := by decide +kernel
theorem dX9_dayOf_35 : decode cX9_dayOf 35 = .ok (.iconst 2, 1) := by decide +kernel
theorem dX9_dayOf_36 : decode cX9_dayOf 36 = .ok (.iload 5, 2) := by decide +kernel
theorem dX9_dayOf_38 : decode cX9_dayOf 38 = .ok (.imul, 1) := by decide +kernel
theorem dX9_dayOf_39 : decode cX9_dayOf 39 = .ok (.iadd, 1) := by decide +kernel
theorem dX9_dayOf_40 : decode cX9_dayOf 40 = .ok (.iconst 1, 1) := by decide +kernel
theorem dX9_dayOf_41 : decode cX9_dayOf 41 = .ok (.iadd, 1) := by decide +kernel
theorem dX9_dayOf_42 : decode cX9_dayOf 42 = .ok (.iaload, 1) := by decide +kernel
theorem dX9_dayOf_43 : decode cX9_dayOf 43 = .ok (.invokevirtual 220, 3) := by decide +kernel
theorem dX9_dayOf_46 : decode cX9_dayOf 46 = .ok (.ifCond .eq 8, 3) := by decide +kernel
theorem dX9_dayOf_49 : decode cX9_dayOf 49 = .ok (.bipush (-9), 2) := by decide +kernel
theorem dX9_dayOf_51 : decode cX9_dayOf 51 = .ok (.goto 5, 3) := by decide +kernel
theorem dX9_dayOf_54 : decode cX9_dayOf 54 = .ok (.iload 5, 2) := by decide +kernel
theorem dX9_dayOf_56 : decode cX9_dayOf 56 = .ok (.istore 4, 2) := by decide +kernel
theorem dX9_dayOf_58 : decode cX9_dayOf 58 = .ok (.iinc 5 1, 3) := by decide +kernel
theorem dX9_dayOf_61 : decode cX9_dayOf 61 = .ok (.goto (-54), 3) := by decide +kernel
theorem dX9_dayOf_64 : decode cX9_dayOf 64 = .ok (.iload_n 3, 1) := by decide +kernel
theorem dX9_dayOf_65 : decode cX9_dayOf 65 = .ok (.iconst 1, 1) := by decide +kernel
theorem dX9_dayOf_66 : decode cX9_dayOf 66 = .ok (.if_icmp .ne 6, 3) := by decide +kernel
theorem dX9_dayOf_69 : decode cX9_dayOf 69 = .ok (.iload 4, 2) := by decide +kernel
theorem dX9_dayOf_71 : decode cX9_dayOf 71 = .ok (.ireturn, 1) := by decide +kernel
theorem dX9_dayOf_72 : decode cX9_dayOf 72 = .ok (.iload 4, 2) := by decide +kernel
theorem dX9_dayOf_74 : decode cX9_dayOf 74 = .ok (.ifCond .lt 9, 3) := by decide +kernel
theorem dX9_dayOf_77 : decode cX9_dayOf 77 = .ok (.bipush (-100), 2) := by decide +kernel
theorem dX9_dayOf_79 : decode cX9_dayOf 79 = .ok (.iload 4, 2) := by decide +kernel
theorem dX9_dayOf_81 : decode cX9_dayOf 81 = .ok (.isub, 1) := by decide +kernel
theorem dX9_dayOf_82 : decode cX9_dayOf 82 = .ok (.ireturn, 1) := by decide +kernel
theorem dX9_dayOf_83 : decode cX9_dayOf 83 = .ok (.aload_n 0, 1) := by decide +kernel
theorem dX9_dayOf_84 : decode cX9_dayOf 84 = .ok (.invokevirtual 183, 3) := by decide +kernel
theorem dX9_dayOf_87 : decode cX9_dayOf 87 = .ok (.iload_n 3, 1) := by decide +kernel
theorem dX9_dayOf_88 : decode cX9_dayOf 88 = .ok (.bipush 10, 2) := by decide +kernel
theorem dX9_dayOf_90 : decode cX9_dayOf 90 = .ok (.if_icmp .lt 29, 3) := by decide +kernel
theorem dX9_dayOf_93 : decode cX9_dayOf 93 = .ok (.aload_n 0, 1) := by decide +kernel
theorem dX9_dayOf_94 : decode cX9_dayOf 94 = .ok (.iload_n 3, 1) := by decide +kernel
theorem dX9_dayOf_95 : decode cX9_dayOf 95 = .ok (.bipush 10, 2) := by decide +kernel
theorem dX9_dayOf_97 : decode cX9_dayOf 97 = .ok (.isub, 1) := by decide +kernel
theorem dX9_dayOf_98 : decode cX9_dayOf 98 = .ok (.invokevirtual 180, 3) := by decide +kernel
theorem dX9_dayOf_101 : decode cX9_dayOf 101 = .ok (.ifCond .eq 8, 3) := by decide +kernel
theorem dX9_dayOf_104 : decode cX9_dayOf 104 = .ok (.bipush (-9), 2) := by decide +kernel
theorem dX9_dayOf_106 : decode cX9_dayOf 106 = .ok (.goto 12, 3) := by decide +kernel
theorem dX9_dayOf_109 : decode cX9_dayOf 109 = .ok (.aload_n 0, 1) := by decide +kernel
theorem dX9_dayOf_110 : decode cX9_dayOf 110 = .ok (.getfield 49, 3) := by decide +kernel
theorem dX9_dayOf_113 : decode cX9_dayOf 113 = .ok (.iload_n 3, 1) := by decide +kernel
theorem dX9_dayOf_114 : decode cX9_dayOf 114 = .ok (.bipush 10, 2) := by decide +kernel
theorem dX9_dayOf_116 : decode cX9_dayOf 116 = .ok (.isub, 1) := by decide +kernel
theorem dX9_dayOf_117 : decode cX9_dayOf 117 = .ok (.iaload, 1) := by decide +kernel
theorem dX9_dayOf_118 : decode cX9_dayOf 118 = .ok (.ireturn, 1) := by decide +kernel
theorem dX9_dayOf_119 : decode cX9_dayOf 119 = .ok (.iconst 0, 1) := by decide +kernel
theorem dX9_dayOf_120 : decode cX9_dayOf 120 = .ok (.istore 5, 2) := by decide +kernel
theorem dX9_dayOf_122 : decode cX9_dayOf 122 = .ok (.iconst 0, 1) := by decide +kernel
theorem dX9_dayOf_123 : decode cX9_dayOf 123 = .ok (.istore 6, 2) := by decide +kernel
theorem dX9_dayOf_125 : decode cX9_dayOf 125 = .ok (.iconst 0, 1) := by decide +kernel
theorem dX9_dayOf_126 : decode cX9_dayOf 126 = .ok (.istore 7, 2) := by decide +kernel
theorem dX9_dayOf_128 : decode cX9_dayOf 128 = .ok (.iload 7, 2) := by decide +kernel
theorem dX9_dayOf_130 : decode cX9_dayOf 130 = .ok (.aload_n 0, 1) := by decide +kernel
theorem dX9_dayOf_131 : decode cX9_dayOf 131 = .ok (.getfield 104, 3) := by decide +kernel
theorem dX9_dayOf_134 : decode cX9_dayOf 134 = .ok (.if_icmp .ge 40, 3) := by decide +kernel
theorem dX9_dayOf_137 : decode cX9_dayOf 137 = .ok (.iload 5, 2) := by decide +kernel
theorem dX9_dayOf_139 : decode cX9_dayOf 139 = .ok (.aload_n 0, 1) := by decide +kernel
theorem dX9_dayOf_140 : decode cX9_dayOf 140 = .ok (.getfield 49, 3) := by decide +kernel
theorem dX9_dayOf_143 : decode cX9_dayOf 143 = .ok (.iload 7, 2) := by decide +kernel
theorem dX9_dayOf_145 : decode cX9_dayOf 145 = .ok (.iaload, 1) := by decide +kernel
theorem dX9_dayOf_146 : decode cX9_dayOf 146 = .ok (.ifCond .le 7, 3) := by decide +kernel
theorem dX9_dayOf_149 : decode cX9_dayOf 149 = .ok (.iconst 1, 1) := by decide +kernel
theorem dX9_dayOf_150 : decode cX9_dayOf 150 = .ok (.goto 4, 3) := by decide +kernel
theorem dX9_dayOf_153 : decode cX9_dayOf 153 = .ok (.iconst 0, 1) := by decide +kernel
theorem dX9_dayOf_154 : decode cX9_dayOf 154 = .ok (.iadd, 1) := by decide +kernel
theorem dX9_dayOf_155 : decode cX9_dayOf 155 = .ok (.istore 5, 2) := by decide +kernel
theorem dX9_dayOf_157 : decode cX9_dayOf 157 = .ok (.iload 6, 2) := by decide +kernel
theorem dX9_dayOf_159 : decode cX9_dayOf 159 = .ok (.aload_n 0, 1) := by decide +kernel
theorem dX9_dayOf_160 : decode cX9_dayOf 160 = .ok (.iload 7, 2) := by decide +kernel
theorem dX9_dayOf_162 : decode cX9_dayOf 162 = .ok (.invokevirtual 171, 3) := by decide +kernel
theorem dX9_dayOf_165 : decode cX9_dayOf 165 = .ok (.iadd, 1) := by decide +kernel
theorem dX9_dayOf_166 : decode cX9_dayOf 166 = .ok (.istore 6, 2) := by decide +kernel
theorem dX9_dayOf_168 : decode cX9_dayOf 168 = .ok (.iinc 7 1, 3) := by decide +kernel
theorem dX9_dayOf_171 : decode cX9_dayOf 171 = .ok (.goto (-43), 3) := by decide +kernel
theorem dX9_dayOf_174 : decode cX9_dayOf 174 = .ok (.iconst 0, 1) := by decide +kernel
theorem dX9_dayOf_175 : decode cX9_dayOf 175 = .ok (.istore 7, 2) := by decide +kernel
theorem dX9_dayOf_177 : decode cX9_dayOf 177 = .ok (.iconst 0, 1) := by decide +kernel
theorem dX9_dayOf_178 : decode cX9_dayOf 178 = .ok (.istore 8, 2) := by decide +kernel
theorem dX9_dayOf_180 : decode cX9_dayOf 180 = .ok (.iload 8, 2) := by decide +kernel
theorem dX9_dayOf_182 : decode cX9_dayOf 182 = .ok (.aload_n 0, 1) := by decide +kernel
theorem dX9_dayOf_183 : decode cX9_dayOf 183 = .ok (.getfield 111, 3) := by decide +kernel
theorem dX9_dayOf_186 : decode cX9_dayOf 186 = .ok (.if_icmp .ge 21, 3) := by decide +kernel
theorem dX9_dayOf_189 : decode cX9_dayOf 189 = .ok (.iload 7, 2) := by decide +kernel
theorem dX9_dayOf_191 : decode cX9_dayOf 191 = .ok (.aload_n 0, 1) := by decide +kernel
theorem dX9_dayOf_192 : decode cX9_dayOf 192 = .ok (.getfield 55, 3) := by decide +kernel
theorem dX9_dayOf_195 : decode cX9_dayOf 195 = .ok (.iload 8, 2) := by decide +kernel
theorem dX9_dayOf_197 : decode cX9_dayOf 197 = .ok (.iaload, 1) := by decide +kernel
theorem dX9_dayOf_198 : decode cX9_dayOf 198 = .ok (.iadd, 1) := by decide +kernel
theorem dX9_dayOf_199 : decode cX9_dayOf 199 = .ok (.istore 7, 2) := by decide +kernel
theorem dX9_dayOf_201 : decode cX9_dayOf 201 = .ok (.iinc 8 1, 3) := by decide +kernel
theorem dX9_dayOf_204 : decode cX9_dayOf 204 = .ok (.goto (-24), 3) := by decide +kernel
theorem dX9_dayOf_207 : decode cX9_dayOf 207 = .ok (.iload_n 3, 1) := by decide +kernel
theorem dX9_dayOf_208 : decode cX9_dayOf 208 = .ok (.ifCond .ne 8, 3) := by decide +kernel
theorem dX9_dayOf_211 : decode cX9_dayOf 211 = .ok (.iload 5, 2) := by decide +kernel
theorem dX9_dayOf_213 : decode cX9_dayOf 213 = .ok (.goto 27, 3) := by decide +kernel
theorem dX9_dayOf_216 : decode cX9_dayOf 216 = .ok (.iload_n 3, 1) := by decide +kernel
theorem dX9_dayOf_217 : decode cX9_dayOf 217 = .ok (.iconst 2, 1) := by decide +kernel
theorem dX9_dayOf_218 : decode cX9_dayOf 218 = .ok (.if_icmp .ne 10, 3) := by decide +kernel
theorem dX9_dayOf_221 : decode cX9_dayOf 221 = .ok (.aload_n 0, 1) := by decide +kernel
theorem dX9_dayOf_222 : decode cX9_dayOf 222 = .ok (.invokevirtual 192, 3) := by decide +kernel
theorem dX9_dayOf_225 : decode cX9_dayOf 225 = .ok (.goto 15, 3) := by decide +kernel
theorem dX9_dayOf_228 : decode cX9_dayOf 228 = .ok (.iload_n 3, 1) := by decide +kernel
theorem dX9_dayOf_229 : decode cX9_dayOf 229 = .ok (.iconst 3, 1) := by decide +kernel
theorem dX9_dayOf_230 : decode cX9_dayOf 230 = .ok (.if_icmp .ne 8, 3) := by decide +kernel
theorem dX9_dayOf_233 : decode cX9_dayOf 233 = .ok (.iload 7, 2) := by decide +kernel
theorem dX9_dayOf_235 : decode cX9_dayOf 235 = .ok (.goto 5, 3) := by decide +kernel
theorem dX9_dayOf_238 : decode cX9_dayOf 238 = .ok (.iload 6, 2) := by decide +kernel
theorem dX9_dayOf_240 : decode cX9_dayOf 240 = .ok (.ireturn, 1) := by decide +kernel
theorem dX9_keeps_0 : decode cX9_keeps 0 = .ok (.aload_n 0, 1) := by decide +kernel
theorem dX9_keeps_1 : decode cX9_keeps 1 = .ok (.aload_n 0, 1) := by decide +kernel
theorem dX9_keeps_2 : decode cX9_keeps 2 = .ok (.getfield 162, 3) := by decide +kernel
theorem dX9_keeps_5 : decode cX9_keeps 5 = .ok (.putfield 223, 3) := by decide +kernel
theorem dX9_keeps_8 : decode cX9_keeps 8 = .ok (.aload_n 0, 1) := by decide +kernel
theorem dX9_keeps_9 : decode cX9_keeps 9 = .ok (.aload_n 0, 1) := by decide +kernel
theorem dX9_keeps_10 : decode cX9_keeps 10 = .ok (.getfield 165, 3) := by decide +kernel
theorem dX9_keeps_13 : decode cX9_keeps 13 = .ok (.putfield 226, 3) := by decide +kernel
theorem dX9_keeps_16 : decode cX9_keeps 16 = .ok (.iconst 0, 1) := by decide +kernel
theorem dX9_keeps_17 : decode cX9_keeps 17 = .ok (.istore_n 1, 1) := by decide +kernel
theorem dX9_keeps_18 : decode cX9_keeps 18 = .ok (.iload_n 1, 1) := by decide +kernel
theorem dX9_keeps_19 : decode cX9_keeps 19 = .ok (.aload_n 0, 1) := by decide +kernel
theorem dX9_keeps_20 : decode cX9_keeps 20 = .ok (.getfield 111, 3) := by decide +kernel
theorem dX9_keeps_23 : decode cX9_keeps 23 = .ok (.if_icmp .ge 21, 3) := by decide +kernel
theorem dX9_keeps_26 : decode cX9_keeps 26 = .ok (.aload_n 0, 1) := by decide +kernel
theorem dX9_keeps_27 : decode cX9_keeps 27 = .ok (.getfield 58, 3) := by decide +kernel
theorem dX9_keeps_30 : decode cX9_keeps 30 = .ok (.iload_n 1, 1) := by decide +kernel
theorem dX9_keeps_31 : decode cX9_keeps 31 = .ok (.aload_n 0, 1) := by decide +kernel
theorem dX9_keeps_32 : decode cX9_keeps 32 = .ok (.getfield 7, 3) := by decide +kernel
theorem dX9_keeps_35 : decode cX9_keeps 35 = .ok (.iload_n 1, 1) := by decide +kernel
theorem dX9_keeps_36 : decode cX9_keeps 36 = .ok (.iaload, 1) := by decide +kernel
theorem dX9_keeps_37 : decode cX9_keeps 37 = .ok (.iastore, 1) := by decide +kernel
theorem dX9_keeps_38 : decode cX9_keeps 38 = .ok (.iinc 1 1, 3) := by decide +kernel
theorem dX9_keeps_41 : decode cX9_keeps 41 = .ok (.goto (-23), 3) := by decide +kernel
theorem dX9_keeps_44 : decode cX9_keeps 44 = .ok (.iconst 0, 1) := by decide +kernel
theorem dX9_keeps_45 : decode cX9_keeps 45 = .ok (.istore_n 1, 1) := by decide +kernel
theorem dX9_keeps_46 : decode cX9_keeps 46 = .ok (.iload_n 1, 1) := by decide +kernel
theorem dX9_keeps_47 : decode cX9_keeps 47 = .ok (.aload_n 0, 1) := by decide +kernel
theorem dX9_keeps_48 : decode cX9_keeps 48 = .ok (.getfield 104, 3) := by decide +kernel
theorem dX9_keeps_51 : decode cX9_keeps 51 = .ok (.if_icmp .ge 33, 3) := by decide +kernel
theorem dX9_keeps_54 : decode cX9_keeps 54 = .ok (.aload_n 0, 1) := by decide +kernel
theorem dX9_keeps_55 : decode cX9_keeps 55 = .ok (.getfield 61, 3) := by decide +kernel
theorem dX9_keeps_58 : decode cX9_keeps 58 = .ok (.iload_n 1, 1) := by decide +kernel
theorem dX9_keeps_59 : decode cX9_keeps 59 = .ok (.aload_n 0, 1) := by decide +kernel
theorem dX9_keeps_60 : decode cX9_keeps 60 = .ok (.getfield 19, 3) := by decide +kernel
theorem dX9_keeps_63 : decode cX9_keeps 63 = .ok (.iload_n 1, 1) := by decide +kernel
theorem dX9_keeps_64 : decode cX9_keeps 64 = .ok (.iaload, 1) := by decide +kernel
theorem dX9_keeps_65 : decode cX9_keeps 65 = .ok (.iastore, 1) := by decide +kernel
theorem dX9_keeps_66 : decode cX9_keeps 66 = .ok (.aload_n 0, 1) := by decide +kernel
theorem dX9_keeps_67 : decode cX9_keeps 67 = .ok (.getfield 64, 3) := by decide +kernel
theorem dX9_keeps_70 : decode cX9_keeps 70 = .ok (.iload_n 1, 1) := by decide +kernel
theorem dX9_keeps_71 : decode cX9_keeps 71 = .ok (.aload_n 0, 1) := by decide +kernel
theorem dX9_keeps_72 : decode cX9_keeps 72 = .ok (.getfield 22, 3) := by decide +kernel
theorem dX9_keeps_75 : decode cX9_keeps 75 = .ok (.iload_n 1, 1) := by decide +kernel
theorem dX9_keeps_76 : decode cX9_keeps 76 = .ok (.iaload, 1) := by decide +kernel
theorem dX9_keeps_77 : decode cX9_keeps 77 = .ok (.iastore, 1) := by decide +kernel
theorem dX9_keeps_78 : decode cX9_keeps 78 = .ok (.iinc 1 1, 3) := by decide +kernel
theorem dX9_keeps_81 : decode cX9_keeps 81 = .ok (.goto (-35), 3) := by decide +kernel
theorem dX9_keeps_84 : decode cX9_keeps 84 = .ok (.return_, 1) := by decide +kernel
theorem dX9_bringsBack_0 : decode cX9_bringsBack 0 = .ok (.aload_n 0, 1) := by decide +kernel
theorem dX9_bringsBack_1 : decode cX9_bringsBack 1 = .ok (.aload_n 0, 1) := by decide +kernel
theorem dX9_bringsBack_2 : decode cX9_bringsBack 2 = .ok (.getfield 223, 3) := by decide +kernel
theorem dX9_bringsBack_5 : decode cX9_bringsBack 5 = .ok (.putfield 162, 3) := by decide +kernel
theorem dX9_bringsBack_8 : decode cX9_bringsBack 8 = .ok (.aload_n 0, 1) := by decide +kernel
theorem dX9_bringsBack_9 : decode cX9_bringsBack 9 = .ok (.aload_n 0, 1) := by decide +kernel
theorem dX9_bringsBack_10 : decode cX9_bringsBack 10 = .ok (.getfield 226, 3) := by decide +kernel
theorem dX9_bringsBack_13 : decode cX9_bringsBack 13 = .ok (.putfield 165, 3) := by decide +kernel
theorem dX9_bringsBack_16 : decode cX9_bringsBack 16 = .ok (.iconst 0, 1) := by decide +kernel
theorem dX9_bringsBack_17 : decode cX9_bringsBack 17 = .ok (.istore_n 1, 1) := by decide +kernel
theorem dX9_bringsBack_18 : decode cX9_bringsBack 18 = .ok (.iload_n 1, 1) := by decide +kernel
theorem dX9_bringsBack_19 : decode cX9_bringsBack 19 = .ok (.aload_n 0, 1) := by decide +kernel
theorem dX9_bringsBack_20 : decode cX9_bringsBack 20 = .ok (.getfield 111, 3) := by decide +kernel
theorem dX9_bringsBack_23 : decode cX9_bringsBack 23 = .ok (.if_icmp .ge 21, 3) := by decide +kernel
theorem dX9_bringsBack_26 : decode cX9_bringsBack 26 = .ok (.aload_n 0, 1) := by decide +kernel
theorem dX9_bringsBack_27 : decode cX9_bringsBack 27 = .ok (.getfield 7, 3) := by decide +kernel
theorem dX9_bringsBack_30 : decode cX9_bringsBack 30 = .ok (.iload_n 1, 1) := by decide +kernel
theorem dX9_bringsBack_31 : decode cX9_bringsBack 31 = .ok (.aload_n 0, 1) := by decide +kernel
theorem dX9_bringsBack_32 : decode cX9_bringsBack 32 = .ok (.getfield 58, 3) := by decide +kernel
theorem dX9_bringsBack_35 : decode cX9_bringsBack 35 = .ok (.iload_n 1, 1) := by decide +kernel
theorem dX9_bringsBack_36 : decode cX9_bringsBack 36 = .ok (.iaload, 1) := by decide +kernel
theorem dX9_bringsBack_37 : decode cX9_bringsBack 37 = .ok (.iastore, 1) := by decide +kernel
theorem dX9_bringsBack_38 : decode cX9_bringsBack 38 = .ok (.iinc 1 1, 3) := by decide +kernel
theorem dX9_bringsBack_41 : decode cX9_bringsBack 41 = .ok (.goto (-23), 3) := by decide +kernel
theorem dX9_bringsBack_44 : decode cX9_bringsBack 44 = .ok (.iconst 0, 1) := by decide +kernel
theorem dX9_bringsBack_45 : decode cX9_bringsBack 45 = .ok (.istore_n 1, 1) := by decide +kernel
theorem dX9_bringsBack_46 : decode cX9_bringsBack 46 = .ok (.iload_n 1, 1) := by decide +kernel
theorem dX9_bringsBack_47 : decode cX9_bringsBack 47 = .ok (.aload_n 0, 1) := by decide +kernel
theorem dX9_bringsBack_48 : decode cX9_bringsBack 48 = .ok (.getfield 104, 3) := by decide +kernel
theorem dX9_bringsBack_51 : decode cX9_bringsBack 51 = .ok (.if_icmp .ge 33, 3) := by decide +kernel
theorem dX9_bringsBack_54 : decode cX9_bringsBack 54 = .ok (.aload_n 0, 1) := by decide +kernel
theorem dX9_bringsBack_55 : decode cX9_bringsBack 55 = .ok (.getfield 19, 3) := by decide +kernel
theorem dX9_bringsBack_58 : decode cX9_bringsBack 58 = .ok (.iload_n 1, 1) := by decide +kernel
theorem dX9_bringsBack_59 : decode cX9_bringsBack 59 = .ok (.aload_n 0, 1) := by decide +kernel
theorem dX9_bringsBack_60 : decode cX9_bringsBack 60 = .ok (.getfield 61, 3) := by decide +kernel
theorem dX9_bringsBack_63 : decode cX9_bringsBack 63 = .ok (.iload_n 1, 1) := by decide +kernel
theorem dX9_bringsBack_64 : decode cX9_bringsBack 64 = .ok (.iaload, 1) := by decide +kernel
theorem dX9_bringsBack_65 : decode cX9_bringsBack 65 = .ok (.iastore, 1) := by decide +kernel
theorem dX9_bringsBack_66 : decode cX9_bringsBack 66 = .ok (.aload_n 0, 1) := by decide +kernel
theorem dX9_bringsBack_67 : decode cX9_bringsBack 67 = .ok (.getfield 22, 3) := by decide +kernel
theorem dX9_bringsBack_70 : decode cX9_bringsBack 70 = .ok (.iload_n 1, 1) := by decide +kernel
theorem dX9_bringsBack_71 : decode cX9_bringsBack 71 = .ok (.aload_n 0, 1) := by decide +kernel
theorem dX9_bringsBack_72 : decode cX9_bringsBack 72 = .ok (.getfield 64, 3) := by decide +kernel
theorem dX9_bringsBack_75 : decode cX9_bringsBack 75 = .ok (.iload_n 1, 1) := by decide +kernel
theorem dX9_bringsBack_76 : decode cX9_bringsBack 76 = .ok (.iaload, 1) := by decide +kernel
theorem dX9_bringsBack_77 : decode cX9_bringsBack 77 = .ok (.iastore, 1) := by decide +kernel
theorem dX9_bringsBack_78 : decode cX9_bringsBack 78 = .ok (.iinc 1 1, 3) := by decide +kernel
theorem dX9_bringsBack_81 : decode cX9_bringsBack 81 = .ok (.goto (-35), 3) := by decide +kernel
theorem dX9_bringsBack_84 : decode cX9_bringsBack 84 = .ok (.return_, 1) := by decide +kernel
theorem dX9_day_0 : decode cX9_day 0 = .ok (.iload_n 1, 1) := by decide +kernel
theorem dX9_day_1 : decode cX9_day 1 = .ok (.invokestatic 146, 3) := by decide +kernel
theorem dX9_day_4 : decode cX9_day 4 = .ok (.ifCond .eq 9, 3) := by decide +kernel
theorem dX9_day_7 : decode cX9_day 7 = .ok (.aload_n 0, 1) := by decide +kernel
theorem dX9_day_8 : decode cX9_day 8 = .ok (.iconst (-1), 1) := by decide +kernel
theorem dX9_day_9 : decode cX9_day 9 = .ok (.invokevirtual 150, 3) := by decide +kernel
theorem dX9_day_12 : decode cX9_day 12 = .ok (.ireturn, 1) := by decide +kernel
theorem dX9_day_13 : decode cX9_day 13 = .ok (.iload_n 2, 1) := by decide +kernel
theorem dX9_day_14 : decode cX9_day 14 = .ok (.i2l, 1) := by decide +kernel
theorem dX9_day_15 : decode cX9_day 15 = .ok (.lconst 0, 1) := by decide +kernel
theorem dX9_day_16 : decode cX9_day 16 = .ok (.ldc2_w 153, 3) := by decide +kernel
theorem dX9_day_19 : decode cX9_day 19 = .ok (.invokestatic 107, 3) := by decide +kernel
theorem dX9_day_22 : decode cX9_day 22 = .ok (.ifCond .eq 44, 3) := by decide +kernel
theorem dX9_day_25 : decode cX9_day 25 = .ok (.iload 4, 2) := by decide +kernel
theorem dX9_day_27 : decode cX9_day 27 = .ok (.i2l, 1) := by decide +kernel
theorem dX9_day_28 : decode cX9_day 28 = .ok (.lconst 0, 1) := by decide +kernel
theorem dX9_day_29 : decode cX9_day 29 = .ok (.ldc2_w 229, 3) := by decide +kernel
theorem dX9_day_32 : decode cX9_day 32 = .ok (.invokestatic 107, 3) := by decide +kernel
theorem dX9_day_35 : decode cX9_day 35 = .ok (.ifCond .eq 31, 3) := by decide +kernel
theorem dX9_day_38 : decode cX9_day 38 = .ok (.iload 5, 2) := by decide +kernel
theorem dX9_day_40 : decode cX9_day 40 = .ok (.i2l, 1) := by decide +kernel
theorem dX9_day_41 : decode cX9_day 41 = .ok (.lconst 0, 1) := by decide +kernel
theorem dX9_day_42 : decode cX9_day 42 = .ok (.ldc2_w 231, 3) := by decide +kernel
theorem dX9_day_45 : decode cX9_day 45 = .ok (.invokestatic 107, 3) := by decide +kernel
theorem dX9_day_48 : decode cX9_day 48 = .ok (.ifCond .ne 25, 3) := by decide +kernel
theorem dX9_day_51 : decode cX9_day 51 = .ok (.iload 5, 2) := by decide +kernel
theorem dX9_day_53 : decode cX9_day 53 = .ok (.i2l, 1) := by decide +kernel
theorem dX9_day_54 : decode cX9_day 54 = .ok (.ldc2_w 233, 3) := by decide +kernel
theorem dX9_day_57 : decode cX9_day 57 = .ok (.ldc2_w 235, 3) := by decide +kernel
theorem dX9_day_60 : decode cX9_day 60 = .ok (.invokestatic 107, 3) := by decide +kernel
theorem dX9_day_63 : decode cX9_day 63 = .ok (.ifCond .ne 10, 3) := by decide +kernel
theorem dX9_day_66 : decode cX9_day 66 = .ok (.aload_n 0, 1) := by decide +kernel
theorem dX9_day_67 : decode cX9_day 67 = .ok (.bipush (-2), 2) := by decide +kernel
theorem dX9_day_69 : decode cX9_day 69 = .ok (.invokevirtual 150, 3) := by decide +kernel
theorem dX9_day_72 : decode cX9_day 72 = .ok (.ireturn, 1) := by decide +kernel
theorem dX9_day_73 : decode cX9_day 73 = .ok (.aload_n 0, 1) := by decide +kernel
theorem dX9_day_74 : decode cX9_day 74 = .ok (.getfield 104, 3) := by decide +kernel
theorem dX9_day_77 : decode cX9_day 77 = .ok (.ifCond .ne 10, 3) := by decide +kernel
theorem dX9_day_80 : decode cX9_day 80 = .ok (.aload_n 0, 1) := by decide +kernel
theorem dX9_day_81 : decode cX9_day 81 = .ok (.bipush (-3), 2) := by decide +kernel
theorem dX9_day_83 : decode cX9_day 83 = .ok (.invokevirtual 150, 3) := by decide +kernel
theorem dX9_day_86 : decode cX9_day 86 = .ok (.ireturn, 1) := by decide +kernel
theorem dX9_day_87 : decode cX9_day 87 = .ok (.aload_n 0, 1) := by decide +kernel
theorem dX9_day_88 : decode cX9_day 88 = .ok (.iload_n 1, 1) := by decide +kernel
theorem dX9_day_89 : decode cX9_day 89 = .ok (.iload_n 2, 1) := by decide +kernel
theorem dX9_day_90 : decode cX9_day 90 = .ok (.iload_n 3, 1) := by decide +kernel
theorem dX9_day_91 : decode cX9_day 91 = .ok (.ldc2_w 153, 3) := by decide +kernel
theorem dX9_day_94 : decode cX9_day 94 = .ok (.iload 4, 2) := by decide +kernel
theorem dX9_day_96 : decode cX9_day 96 = .ok (.i2l, 1) := by decide +kernel
theorem dX9_day_97 : decode cX9_day 97 = .ok (.lmul, 1) := by decide +kernel
theorem dX9_day_98 : decode cX9_day 98 = .ok (.invokevirtual 155, 3) := by decide +kernel
theorem dX9_day_101 : decode cX9_day 101 = .ok (.istore 6, 2) := by decide +kernel
theorem dX9_day_103 : decode cX9_day 103 = .ok (.iload 6, 2) := by decide +kernel
theorem dX9_day_105 : decode cX9_day 105 = .ok (.ifCond .ge 6, 3) := by decide +kernel
theorem dX9_day_108 : decode cX9_day 108 = .ok (.iload 6, 2) := by decide +kernel
theorem dX9_day_110 : decode cX9_day 110 = .ok (.ireturn, 1) := by decide +kernel
theorem dX9_day_111 : decode cX9_day 111 = .ok (.bipush 60, 2) := by decide +kernel
theorem dX9_day_113 : decode cX9_day 113 = .ok (.iload_n 1, 1) := by decide +kernel
theorem dX9_day_114 : decode cX9_day 114 = .ok (.imul, 1) := by decide +kernel
theorem dX9_day_115 : decode cX9_day 115 = .ok (.iload_n 3, 1) := by decide +kernel
theorem dX9_day_116 : decode cX9_day 116 = .ok (.iadd, 1) := by decide +kernel
theorem dX9_day_117 : decode cX9_day 117 = .ok (.istore 7, 2) := by decide +kernel
theorem dX9_day_119 : decode cX9_day 119 = .ok (.iconst 0, 1) := by decide +kernel
theorem dX9_day_120 : decode cX9_day 120 = .ok (.istore 8, 2) := by decide +kernel
theorem dX9_day_122 : decode cX9_day 122 = .ok (.iload 8, 2) := by decide +kernel
