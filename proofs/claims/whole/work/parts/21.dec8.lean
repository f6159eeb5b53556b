theorem dX8_init_0 : decode cX8_init 0 = .ok (.aload_n 0, 1) := by decide +kernel
theorem dX8_init_1 : decode cX8_init 1 = .ok (.invokespecial 5, 3) := by decide +kernel
theorem dX8_init_4 : decode cX8_init 4 = .ok (.aload_n 0, 1) := by decide +kernel
theorem dX8_init_5 : decode cX8_init 5 = .ok (.new 11, 3) := by decide +kernel
theorem dX8_init_8 : decode cX8_init 8 = .ok (.dup, 1) := by decide +kernel
theorem dX8_init_9 : decode cX8_init 9 = .ok (.invokespecial 13, 3) := by decide +kernel
theorem dX8_init_12 : decode cX8_init 12 = .ok (.putfield 14, 3) := by decide +kernel
theorem dX8_init_15 : decode cX8_init 15 = .ok (.aload_n 0, 1) := by decide +kernel
theorem dX8_init_16 : decode cX8_init 16 = .ok (.new 11, 3) := by decide +kernel
theorem dX8_init_19 : decode cX8_init 19 = .ok (.dup, 1) := by decide +kernel
theorem dX8_init_20 : decode cX8_init 20 = .ok (.invokespecial 13, 3) := by decide +kernel
theorem dX8_init_23 : decode cX8_init 23 = .ok (.putfield 18, 3) := by decide +kernel
theorem dX8_init_26 : decode cX8_init 26 = .ok (.aload_n 0, 1) := by decide +kernel
theorem dX8_init_27 : decode cX8_init 27 = .ok (.new 21, 3) := by decide +kernel
theorem dX8_init_30 : decode cX8_init 30 = .ok (.dup, 1) := by decide +kernel
theorem dX8_init_31 : decode cX8_init 31 = .ok (.invokespecial 23, 3) := by decide +kernel
theorem dX8_init_34 : decode cX8_init 34 = .ok (.putfield 24, 3) := by decide +kernel
theorem dX8_init_37 : decode cX8_init 37 = .ok (.aload_n 0, 1) := by decide +kernel
theorem dX8_init_38 : decode cX8_init 38 = .ok (.new 28, 3) := by decide +kernel
theorem dX8_init_41 : decode cX8_init 41 = .ok (.dup, 1) := by decide +kernel
theorem dX8_init_42 : decode cX8_init 42 = .ok (.invokespecial 30, 3) := by decide +kernel
theorem dX8_init_45 : decode cX8_init 45 = .ok (.putfield 31, 3) := by decide +kernel
theorem dX8_init_48 : decode cX8_init 48 = .ok (.aload_n 0, 1) := by decide +kernel
theorem dX8_init_49 : decode cX8_init 49 = .ok (.new 35, 3) := by decide +kernel
theorem dX8_init_52 : decode cX8_init 52 = .ok (.dup, 1) := by decide +kernel
theorem dX8_init_53 : decode cX8_init 53 = .ok (.invokespecial 37, 3) := by decide +kernel
theorem dX8_init_56 : decode cX8_init 56 = .ok (.putfield 38, 3) := by decide +kernel
theorem dX8_init_59 : decode cX8_init 59 = .ok (.aload_n 0, 1) := by decide +kernel
theorem dX8_init_60 : decode cX8_init 60 = .ok (.new 42, 3) := by decide +kernel
theorem dX8_init_63 : decode cX8_init 63 = .ok (.dup, 1) := by decide +kernel
theorem dX8_init_64 : decode cX8_init 64 = .ok (.invokespecial 44, 3) := by decide +kernel
theorem dX8_init_67 : decode cX8_init 67 = .ok (.putfield 45, 3) := by decide +kernel
theorem dX8_init_70 : decode cX8_init 70 = .ok (.aload_n 0, 1) := by decide +kernel
theorem dX8_init_71 : decode cX8_init 71 = .ok (.new 49, 3) := by decide +kernel
theorem dX8_init_74 : decode cX8_init 74 = .ok (.dup, 1) := by decide +kernel
theorem dX8_init_75 : decode cX8_init 75 = .ok (.invokespecial 51, 3) := by decide +kernel
theorem dX8_init_78 : decode cX8_init 78 = .ok (.putfield 52, 3) := by decide +kernel
theorem dX8_init_81 : decode cX8_init 81 = .ok (.aload_n 0, 1) := by decide +kernel
theorem dX8_init_82 : decode cX8_init 82 = .ok (.new 56, 3) := by decide +kernel
theorem dX8_init_85 : decode cX8_init 85 = .ok (.dup, 1) := by decide +kernel
theorem dX8_init_86 : decode cX8_init 86 = .ok (.invokespecial 58, 3) := by decide +kernel
theorem dX8_init_89 : decode cX8_init 89 = .ok (.putfield 59, 3) := by decide +kernel
theorem dX8_init_92 : decode cX8_init 92 = .ok (.aload_n 0, 1) := by decide +kernel
theorem dX8_init_93 : decode cX8_init 93 = .ok (.iconst 4, 1) := by decide +kernel
theorem dX8_init_94 : decode cX8_init 94 = .ok (.anewarray 63, 3) := by decide +kernel
theorem dX8_init_97 : decode cX8_init 97 = .ok (.dup, 1) := by decide +kernel
theorem dX8_init_98 : decode cX8_init 98 = .ok (.iconst 0, 1) := by decide +kernel
theorem dX8_init_99 : decode cX8_init 99 = .ok (.new 63, 3) := by decide +kernel
theorem dX8_init_102 : decode cX8_init 102 = .ok (.dup, 1) := by decide +kernel
theorem dX8_init_103 : decode cX8_init 103 = .ok (.invokespecial 65, 3) := by decide +kernel
theorem dX8_init_106 : decode cX8_init 106 = .ok (.aastore, 1) := by decide +kernel
theorem dX8_init_107 : decode cX8_init 107 = .ok (.dup, 1) := by decide +kernel
theorem dX8_init_108 : decode cX8_init 108 = .ok (.iconst 1, 1) := by decide +kernel
theorem dX8_init_109 : decode cX8_init 109 = .ok (.new 63, 3) := by decide +kernel
theorem dX8_init_112 : decode cX8_init 112 = .ok (.dup, 1) := by decide +kernel
theorem dX8_init_113 : decode cX8_init 113 = .ok (.invokespecial 65, 3) := by decide +kernel
theorem dX8_init_116 : decode cX8_init 116 = .ok (.aastore, 1) := by decide +kernel
theorem dX8_init_117 : decode cX8_init 117 = .ok (.dup, 1) := by decide +kernel
theorem dX8_init_118 : decode cX8_init 118 = .ok (.iconst 2, 1) := by decide +kernel
theorem dX8_init_119 : decode cX8_init 119 = .ok (.new 63, 3) := by decide +kernel
theorem dX8_init_122 : decode cX8_init 122 = .ok (.dup, 1) := by decide +kernel
theorem dX8_init_123 : decode cX8_init 123 = .ok (.invokespecial 65, 3) := by decide +kernel
theorem dX8_init_126 : decode cX8_init 126 = .ok (.aastore, 1) := by decide +kernel
theorem dX8_init_127 : decode cX8_init 127 = .ok (.dup, 1) := by decide +kernel
theorem dX8_init_128 : decode cX8_init 128 = .ok (.iconst 3, 1) := by decide +kernel
theorem dX8_init_129 : decode cX8_init 129 = .ok (.new 63, 3) := by decide +kernel
theorem dX8_init_132 : decode cX8_init 132 = .ok (.dup, 1) := by decide +kernel
theorem dX8_init_133 : decode cX8_init 133 = .ok (.invokespecial 65, 3) := by decide +kernel
theorem dX8_init_136 : decode cX8_init 136 = .ok (.aastore, 1) := by decide +kernel
theorem dX8_init_137 : decode cX8_init 137 = .ok (.putfield 66, 3) := by decide +kernel
theorem dX8_init_140 : decode cX8_init 140 = .ok (.aload_n 0, 1) := by decide +kernel
theorem dX8_init_141 : decode cX8_init 141 = .ok (.iconst 0, 1) := by decide +kernel
theorem dX8_init_142 : decode cX8_init 142 = .ok (.putfield 70, 3) := by decide +kernel
theorem dX8_init_145 : decode cX8_init 145 = .ok (.aload_n 0, 1) := by decide +kernel
theorem dX8_init_146 : decode cX8_init 146 = .ok (.iconst 0, 1) := by decide +kernel
theorem dX8_init_147 : decode cX8_init 147 = .ok (.putfield 74, 3) := by decide +kernel
theorem dX8_init_150 : decode cX8_init 150 = .ok (.return_, 1) := by decide +kernel
theorem dX8_winter_0 : decode cX8_winter 0 = .ok (.aload_n 0, 1) := by decide +kernel
theorem dX8_winter_1 : decode cX8_winter 1 = .ok (.iconst 0, 1) := by decide +kernel
theorem dX8_winter_2 : decode cX8_winter 2 = .ok (.putfield 74, 3) := by decide +kernel
theorem dX8_winter_5 : decode cX8_winter 5 = .ok (.iload_n 1, 1) := by decide +kernel
theorem dX8_winter_6 : decode cX8_winter 6 = .ok (.invokestatic 77, 3) := by decide +kernel
theorem dX8_winter_9 : decode cX8_winter 9 = .ok (.ifCond .ne 5, 3) := by decide +kernel
theorem dX8_winter_12 : decode cX8_winter 12 = .ok (.iconst (-1), 1) := by decide +kernel
theorem dX8_winter_13 : decode cX8_winter 13 = .ok (.ireturn, 1) := by decide +kernel
theorem dX8_winter_14 : decode cX8_winter 14 = .ok (.iload_n 2, 1) := by decide +kernel
theorem dX8_winter_15 : decode cX8_winter 15 = .ok (.invokestatic 81, 3) := by decide +kernel
theorem dX8_winter_18 : decode cX8_winter 18 = .ok (.ifCond .ne 6, 3) := by decide +kernel
theorem dX8_winter_21 : decode cX8_winter 21 = .ok (.bipush (-2), 2) := by decide +kernel
theorem dX8_winter_23 : decode cX8_winter 23 = .ok (.ireturn, 1) := by decide +kernel
theorem dX8_winter_24 : decode cX8_winter 24 = .ok (.aload_n 0, 1) := by decide +kernel
theorem dX8_winter_25 : decode cX8_winter 25 = .ok (.getfield 66, 3) := by decide +kernel
theorem dX8_winter_28 : decode cX8_winter 28 = .ok (.iload_n 1, 1) := by decide +kernel
theorem dX8_winter_29 : decode cX8_winter 29 = .ok (.aaload, 1) := by decide +kernel
theorem dX8_winter_30 : decode cX8_winter 30 = .ok (.astore 5, 2) := by decide +kernel
theorem dX8_winter_32 : decode cX8_winter 32 = .ok (.aload 5, 2) := by decide +kernel
theorem dX8_winter_34 : decode cX8_winter 34 = .ok (.iload_n 2, 1) := by decide +kernel
theorem dX8_winter_35 : decode cX8_winter 35 = .ok (.iload_n 3, 1) := by decide +kernel
theorem dX8_winter_36 : decode cX8_winter 36 = .ok (.iload 4, 2) := by decide +kernel
theorem dX8_winter_38 : decode cX8_winter 38 = .ok (.invokevirtual 84, 3) := by decide +kernel
theorem dX8_winter_41 : decode cX8_winter 41 = .ok (.istore 6, 2) := by decide +kernel
theorem dX8_winter_43 : decode cX8_winter 43 = .ok (.iload 6, 2) := by decide +kernel
theorem dX8_winter_45 : decode cX8_winter 45 = .ok (.ifCond .eq 10, 3) := by decide +kernel
theorem dX8_winter_48 : decode cX8_winter 48 = .ok (.aload_n 0, 1) := by decide +kernel
theorem dX8_winter_49 : decode cX8_winter 49 = .ok (.iload 6, 2) := by decide +kernel
theorem dX8_winter_51 : decode cX8_winter 51 = .ok (.invokevirtual 88, 3) := by decide +kernel
theorem dX8_winter_54 : decode cX8_winter 54 = .ok (.ireturn, 1) := by decide +kernel
theorem dX8_winter_55 : decode cX8_winter 55 = .ok (.aload_n 0, 1) := by decide +kernel
theorem dX8_winter_56 : decode cX8_winter 56 = .ok (.getfield 24, 3) := by decide +kernel
theorem dX8_winter_59 : decode cX8_winter 59 = .ok (.aload 5, 2) := by decide +kernel
theorem dX8_winter_61 : decode cX8_winter 61 = .ok (.iload_n 3, 1) := by decide +kernel
theorem dX8_winter_62 : decode cX8_winter 62 = .ok (.iload 4, 2) := by decide +kernel
theorem dX8_winter_64 : decode cX8_winter 64 = .ok (.aload_n 0, 1) := by decide +kernel
theorem dX8_winter_65 : decode cX8_winter 65 = .ok (.getfield 18, 3) := by decide +kernel
theorem dX8_winter_68 : decode cX8_winter 68 = .ok (.invokevirtual 92, 3) := by decide +kernel
theorem dX8_winter_71 : decode cX8_winter 71 = .ok (.istore 7, 2) := by decide +kernel
theorem dX8_winter_73 : decode cX8_winter 73 = .ok (.iload 7, 2) := by decide +kernel
theorem dX8_winter_75 : decode cX8_winter 75 = .ok (.bipush (-9), 2) := by decide +kernel
theorem dX8_winter_77 : decode cX8_winter 77 = .ok (.if_icmp .eq 9, 3) := by decide +kernel
theorem dX8_winter_80 : decode cX8_winter 80 = .ok (.bipush (-100), 2) := by decide +kernel
theorem dX8_winter_82 : decode cX8_winter 82 = .ok (.iload 7, 2) := by decide +kernel
theorem dX8_winter_84 : decode cX8_winter 84 = .ok (.isub, 1) := by decide +kernel
theorem dX8_winter_85 : decode cX8_winter 85 = .ok (.ireturn, 1) := by decide +kernel
theorem dX8_winter_86 : decode cX8_winter 86 = .ok (.aload_n 0, 1) := by decide +kernel
theorem dX8_winter_87 : decode cX8_winter 87 = .ok (.getfield 14, 3) := by decide +kernel
theorem dX8_winter_90 : decode cX8_winter 90 = .ok (.aload_n 0, 1) := by decide +kernel
theorem dX8_winter_91 : decode cX8_winter 91 = .ok (.getfield 18, 3) := by decide +kernel
theorem dX8_winter_94 : decode cX8_winter 94 = .ok (.invokevirtual 96, 3) := by decide +kernel
theorem dX8_winter_97 : decode cX8_winter 97 = .ok (.aload_n 0, 1) := by decide +kernel
theorem dX8_winter_98 : decode cX8_winter 98 = .ok (.getfield 31, 3) := by decide +kernel
theorem dX8_winter_101 : decode cX8_winter 101 = .ok (.invokevirtual 100, 3) := by decide +kernel
theorem dX8_winter_104 : decode cX8_winter 104 = .ok (.aload_n 0, 1) := by decide +kernel
theorem dX8_winter_105 : decode cX8_winter 105 = .ok (.getfield 59, 3) := by decide +kernel
theorem dX8_winter_108 : decode cX8_winter 108 = .ok (.iconst 0, 1) := by decide +kernel
theorem dX8_winter_109 : decode cX8_winter 109 = .ok (.putfield 103, 3) := by decide +kernel
theorem dX8_winter_112 : decode cX8_winter 112 = .ok (.aload_n 0, 1) := by decide +kernel
theorem dX8_winter_113 : decode cX8_winter 113 = .ok (.getfield 14, 3) := by decide +kernel
theorem dX8_winter_116 : decode cX8_winter 116 = .ok (.getfield 106, 3) := by decide +kernel
theorem dX8_winter_119 : decode cX8_winter 119 = .ok (.ireturn, 1) := by decide +kernel
theorem dX8_ofComer_0 : decode cX8_ofComer 0 = .ok (.aload_n 0, 1) := by decide +kernel
theorem dX8_ofComer_1 : decode cX8_ofComer 1 = .ok (.getfield 14, 3) := by decide +kernel
theorem dX8_ofComer_4 : decode cX8_ofComer 4 = .ok (.iload_n 1, 1) := by decide +kernel
theorem dX8_ofComer_5 : decode cX8_ofComer 5 = .ok (.invokevirtual 109, 3) := by decide +kernel
theorem dX8_ofComer_8 : decode cX8_ofComer 8 = .ok (.ifCond .ne 5, 3) := by decide +kernel
theorem dX8_ofComer_11 : decode cX8_ofComer 11 = .ok (.iconst (-1), 1) := by decide +kernel
theorem dX8_ofComer_12 : decode cX8_ofComer 12 = .ok (.ireturn, 1) := by decide +kernel
theorem dX8_ofComer_13 : decode cX8_ofComer 13 = .ok (.iload_n 2, 1) := by decide +kernel
theorem dX8_ofComer_14 : decode cX8_ofComer 14 = .ok (.tableswitch 152 0 9 #[54, 64, 74, 84, 94, 104, 113, 122, 134, 143], 54) := by decide +kernel
theorem dX8_ofComer_68 : decode cX8_ofComer 68 = .ok (.aload_n 0, 1) := by decide +kernel
theorem dX8_ofComer_69 : decode cX8_ofComer 69 = .ok (.getfield 14, 3) := by decide +kernel
theorem dX8_ofComer_72 : decode cX8_ofComer 72 = .ok (.getfield 112, 3) := by decide +kernel
theorem dX8_ofComer_75 : decode cX8_ofComer 75 = .ok (.iload_n 1, 1) := by decide +kernel
theorem dX8_ofComer_76 : decode cX8_ofComer 76 = .ok (.iaload, 1) := by decide +kernel
theorem dX8_ofComer_77 : decode cX8_ofComer 77 = .ok (.ireturn, 1) := by decide +kernel
theorem dX8_ofComer_78 : decode cX8_ofComer 78 = .ok (.aload_n 0, 1) := by decide +kernel
theorem dX8_ofComer_79 : decode cX8_ofComer 79 = .ok (.getfield 14, 3) := by decide +kernel
theorem dX8_ofComer_82 : decode cX8_ofComer 82 = .ok (.getfield 116, 3) := by decide +kernel
theorem dX8_ofComer_85 : decode cX8_ofComer 85 = .ok (.iload_n 1, 1) := by decide +kernel
theorem dX8_ofComer_86 : decode cX8_ofComer 86 = .ok (.iaload, 1) := by decide +kernel
theorem dX8_ofComer_87 : decode cX8_ofComer 87 = .ok (.ireturn, 1) := by decide +kernel
theorem dX8_ofComer_88 : decode cX8_ofComer 88 = .ok (.aload_n 0, 1) := by decide +kernel
theorem dX8_ofComer_89 : decode cX8_ofComer 89 = .ok (.getfield 14, 3) := by decide +kernel
theorem dX8_ofComer_92 : decode cX8_ofComer 92 = .ok (.getfield 119, 3) := by decide +kernel
theorem dX8_ofComer_95 : decode cX8_ofComer 95 = .ok (.iload_n 1, 1) := by decide +kernel
theorem dX8_ofComer_96 : decode cX8_ofComer 96 = .ok (.iaload, 1) := by decide +kernel
theorem dX8_ofComer_97 : decode cX8_ofComer 97 = .ok (.ireturn, 1) := by decide +kernel
theorem dX8_ofComer_98 : decode cX8_ofComer 98 = .ok (.aload_n 0, 1) := by decide +kernel
theorem dX8_ofComer_99 : decode cX8_ofComer 99 = .ok (.getfield 14, 3) := by decide +kernel
theorem dX8_ofComer_102 : decode cX8_ofComer 102 = .ok (.getfield 122, 3) := by decide +kernel
theorem dX8_ofComer_105 : decode cX8_ofComer 105 = .ok (.iload_n 1, 1) := by decide +kernel
theorem dX8_ofComer_106 : decode cX8_ofComer 106 = .ok (.iaload, 1) := by decide +kernel
theorem dX8_ofComer_107 : decode cX8_ofComer 107 = .ok (.ireturn, 1) := by decide +kernel
theorem dX8_ofComer_108 : decode cX8_ofComer 108 = .ok (.aload_n 0, 1) := by decide +kernel
theorem dX8_ofComer_109 : decode cX8_ofComer 109 = .ok (.getfield 14, 3) := by decide +kernel
theorem dX8_ofComer_112 : decode cX8_ofComer 112 = .ok (.getfield 125, 3) := by decide +kernel
theorem dX8_ofComer_115 : decode cX8_ofComer 115 = .ok (.iload_n 1, 1) := by decide +kernel
theorem dX8_ofComer_116 : decode cX8_ofComer 116 = .ok (.iaload, 1) := by decide +kernel
theorem dX8_ofComer_117 : decode cX8_ofComer 117 = .ok (.ireturn, 1) := by decide +kernel
theorem dX8_ofComer_118 : decode cX8_ofComer 118 = .ok (.aload_n 0, 1) := by decide +kernel
theorem dX8_ofComer_119 : decode cX8_ofComer 119 = .ok (.getfield 14, 3) := by decide +kernel
theorem dX8_ofComer_122 : decode cX8_ofComer 122 = .ok (.iload_n 1, 1) := by decide +kernel
theorem dX8_ofComer_123 : decode cX8_ofComer 123 = .ok (.invokevirtual 128, 3) := by decide +kernel
theorem dX8_ofComer_126 : decode cX8_ofComer 126 = .ok (.ireturn, 1) := by decide +kernel
theorem dX8_ofComer_127 : decode cX8_ofComer 127 = .ok (.aload_n 0, 1) := by decide +kernel
theorem dX8_ofComer_128 : decode cX8_ofComer 128 = .ok (.getfield 14, 3) := by decide +kernel
theorem dX8_ofComer_131 : decode cX8_ofComer 131 = .ok (.iload_n 1, 1) := by decide +kernel
theorem dX8_ofComer_132 : decode cX8_ofComer 132 = .ok (.invokevirtual 131, 3) := by decide +kernel
theorem dX8_ofComer_135 : decode cX8_ofComer 135 = .ok (.ireturn, 1) := by decide +kernel
theorem dX8_ofComer_136 : decode cX8_ofComer 136 = .ok (.aload_n 0, 1) := by decide +kernel
theorem dX8_ofComer_137 : decode cX8_ofComer 137 = .ok (.getfield 14, 3) := by decide +kernel
theorem dX8_ofComer_140 : decode cX8_ofComer 140 = .ok (.invokevirtual 134, 3) := by decide +kernel
theorem dX8_ofComer_143 : decode cX8_ofComer 143 = .ok (.iload_n 1, 1) := by decide +kernel
theorem dX8_ofComer_144 : decode cX8_ofComer 144 = .ok (.ishr, 1) := by decide +kernel
theorem dX8_ofComer_145 : decode cX8_ofComer 145 = .ok (.iconst 1, 1) := by decide +kernel
theorem dX8_ofComer_146 : decode cX8_ofComer 146 = .ok (.iand, 1) := by decide +kernel
theorem dX8_ofComer_147 : decode cX8_ofComer 147 = .ok (.ireturn, 1) := by decide +kernel
theorem dX8_ofComer_148 : decode cX8_ofComer 148 = .ok (.aload_n 0, 1) := by decide +kernel
theorem dX8_ofComer_149 : decode cX8_ofComer 149 = .ok (.getfield 14, 3) := by decide +kernel
theorem dX8_ofComer_152 : decode cX8_ofComer 152 = .ok (.iload_n 1, 1) := by decide +kernel
theorem dX8_ofComer_153 : decode cX8_ofComer 153 = .ok (.invokevirtual 138, 3) := by decide +kernel
theorem dX8_ofComer_156 : decode cX8_ofComer 156 = .ok (.ireturn, 1) := by decide +kernel
theorem dX8_ofComer_157 : decode cX8_ofComer 157 = .ok (.aload_n 0, 1) := by decide +kernel
theorem dX8_ofComer_158 : decode cX8_ofComer 158 = .ok (.getfield 14, 3) := by decide +kernel
theorem dX8_ofComer_161 : decode cX8_ofComer 161 = .ok (.iload_n 1, 1) := by decide +kernel
theorem dX8_ofComer_162 : decode cX8_ofComer 162 = .ok (.invokevirtual 141, 3) := by decide +kernel
theorem dX8_ofComer_165 : decode cX8_ofComer 165 = .ok (.ireturn, 1) := by decide +kernel
theorem dX8_ofComer_166 : decode cX8_ofComer 166 = .ok (.bipush (-2), 2) := by decide +kernel
theorem dX8_ofComer_168 : decode cX8_ofComer 168 = .ok (.ireturn, 1) := by decide +kernel
theorem dX8_ofGate_0 : decode cX8_ofGate 0 = .ok (.aload_n 0, 1) := by decide +kernel
theorem dX8_ofGate_1 : decode cX8_ofGate 1 = .ok (.getfield 14, 3) := by decide +kernel
theorem dX8_ofGate_4 : decode cX8_ofGate 4 = .ok (.iload_n 1, 1) := by decide +kernel
theorem dX8_ofGate_5 : decode cX8_ofGate 5 = .ok (.invokevirtual 144, 3) := by decide +kernel
theorem dX8_ofGate_8 : decode cX8_ofGate 8 = .ok (.ifCond .ne 5, 3) := by decide +kernel
theorem dX8_ofGate_11 : decode cX8_ofGate 11 = .ok (.iconst (-1), 1) := by decide +kernel
theorem dX8_ofGate_12 : decode cX8_ofGate 12 = .ok (.ireturn, 1) := by decide +kernel
theorem dX8_ofGate_13 : decode cX8_ofGate 13 = .ok (.iload_n 2, 1) := by decide +kernel
theorem dX8_ofGate_14 : decode cX8_ofGate 14 = .ok (.tableswitch 75 0 3 #[30, 40, 49, 58], 30) := by decide +kernel
theorem dX8_ofGate_44 : decode cX8_ofGate 44 = .ok (.aload_n 0, 1) := by decide +kernel
theorem dX8_ofGate_45 : decode cX8_ofGate 45 = .ok (.getfield 14, 3) := by decide +kernel
theorem dX8_ofGate_48 : decode cX8_ofGate 48 = .ok (.getfield 147, 3) := by decide +kernel
theorem dX8_ofGate_51 : decode cX8_ofGate 51 = .ok (.iload_n 1, 1) := by decide +kernel
theorem dX8_ofGate_52 : decode cX8_ofGate 52 = .ok (.iaload, 1) := by decide +kernel
theorem dX8_ofGate_53 : decode cX8_ofGate 53 = .ok (.ireturn, 1) := by decide +kernel
theorem dX8_ofGate_54 : decode cX8_ofGate 54 = .ok (.aload_n 0, 1) := by decide +kernel
theorem dX8_ofGate_55 : decode cX8_ofGate 55 = .ok (.getfield 14, 3) := by decide +kernel
theorem dX8_ofGate_58 : decode cX8_ofGate 58 = .ok (.iload_n 1, 1) := by decide +kernel
theorem dX8_ofGate_59 : decode cX8_ofGate 59 = .ok (.invokevirtual 150, 3) := by decide +kernel
theorem dX8_ofGate_62 : decode cX8_ofGate 62 = .ok (.ireturn, 1) := by decide +kernel
theorem dX8_ofGate_63 : decode cX8_ofGate 63 = .ok (.aload_n 0, 1) := by decide +kernel
theorem dX8_ofGate_64 : decode cX8_ofGate 64 = .ok (.getfield 14, 3) := by decide +kernel
theorem dX8_ofGate_67 : decode cX8_ofGate 67 = .ok (.iload_n 1, 1) := by decide +kernel
theorem dX8_ofGate_68 : decode cX8_ofGate 68 = .ok (.invokevirtual 153, 3) := by decide +kernel
theorem dX8_ofGate_71 : decode cX8_ofGate 71 = .ok (.ireturn, 1) := by decide +kernel
theorem dX8_ofGate_72 : decode cX8_ofGate 72 = .ok (.aload_n 0, 1) := by decide +kernel
theorem dX8_ofGate_73 : decode cX8_ofGate 73 = .ok (.getfield 14, 3) := by decide +kernel
theorem dX8_ofGate_76 : decode cX8_ofGate 76 = .ok (.invokevirtual 134, 3) := by decide +kernel
theorem dX8_ofGate_79 : decode cX8_ofGate 79 = .ok (.aload_n 0, 1) := by decide +kernel
theorem dX8_ofGate_80 : decode cX8_ofGate 80 = .ok (.getfield 14, 3) := by decide +kernel
theorem dX8_ofGate_83 : decode cX8_ofGate 83 = .ok (.iload_n 1, 1) := by decide +kernel
theorem dX8_ofGate_84 : decode cX8_ofGate 84 = .ok (.invokevirtual 150, 3) := by decide +kernel
theorem dX8_ofGate_87 : decode cX8_ofGate 87 = .ok (.iand, 1) := by decide +kernel
theorem dX8_ofGate_88 : decode cX8_ofGate 88 = .ok (.ireturn, 1) := by decide +kernel
theorem dX8_ofGate_89 : decode cX8_ofGate 89 = .ok (.bipush (-2), 2) := by decide +kernel
theorem dX8_ofGate_91 : decode cX8_ofGate 91 = .ok (.ireturn, 1) := by decide +kernel
theorem dX8_show_0 : decode cX8_show 0 = .ok (.aload_n 0, 1) := by decide +kernel
theorem dX8_show_1 : decode cX8_show 1 = .ok (.getfield 14, 3) := by decide +kernel
theorem dX8_show_4 : decode cX8_show 4 = .ok (.iload_n 1, 1) := by decide +kernel
theorem dX8_show_5 : decode cX8_show 5 = .ok (.invokevirtual 109, 3) := by decide +kernel
theorem dX8_show_8 : decode cX8_show 8 = .ok (.ifCond .ne 5, 3) := by decide +kernel
theorem dX8_show_11 : decode cX8_show 11 = .ok (.iconst (-1), 1) := by decide +kernel
theorem dX8_show_12 : decode cX8_show 12 = .ok (.ireturn, 1) := by decide +kernel
theorem dX8_show_13 : decode cX8_show 13 = .ok (.iload_n 2, 1) := by decide +kernel
theorem dX8_show_14 : decode cX8_show 14 = .ok (.invokestatic 156, 3) := by decide +kernel
theorem dX8_show_17 : decode cX8_show 17 = .ok (.ifCond .ne 6, 3) := by decide +kernel
theorem dX8_show_20 : decode cX8_show 20 = .ok (.bipush (-2), 2) := by decide +kernel
theorem dX8_show_22 : decode cX8_show 22 = .ok (.ireturn, 1) := by decide +kernel
theorem dX8_show_23 : decode cX8_show 23 = .ok (.aload_n 0, 1) := by decide +kernel
theorem dX8_show_24 : decode cX8_show 24 = .ok (.getfield 14, 3) := by decide +kernel
theorem dX8_show_27 : decode cX8_show 27 = .ok (.getfield 119, 3) := by decide +kernel
theorem dX8_show_30 : decode cX8_show 30 = .ok (.iload_n 1, 1) := by decide +kernel
theorem dX8_show_31 : decode cX8_show 31 = .ok (.iaload, 1) := by decide +kernel
theorem dX8_show_32 : decode cX8_show 32 = .ok (.istore_n 3, 1) := by decide +kernel
theorem dX8_show_33 : decode cX8_show 33 = .ok (.aload_n 0, 1) := by decide +kernel
theorem dX8_show_34 : decode cX8_show 34 = .ok (.getfield 14, 3) := by decide +kernel
theorem dX8_show_37 : decode cX8_show 37 = .ok (.getfield 119, 3) := by decide +kernel
theorem dX8_show_40 : decode cX8_show 40 = .ok (.iload_n 1, 1) := by decide +kernel
theorem dX8_show_41 : decode cX8_show 41 = .ok (.iload_n 2, 1) := by decide +kernel
theorem dX8_show_42 : decode cX8_show 42 = .ok (.iastore, 1) := by decide +kernel
theorem dX8_show_43 : decode cX8_show 43 = .ok (.iload_n 3, 1) := by decide +kernel
theorem dX8_show_44 : decode cX8_show 44 = .ok (.ireturn, 1) := by decide +kernel
theorem dX8_lead_0 : decode cX8_lead 0 = .ok (.aload_n 0, 1) := by decide +kernel
theorem dX8_lead_1 : decode cX8_lead 1 = .ok (.getfield 14, 3) := by decide +kernel
theorem dX8_lead_4 : decode cX8_lead 4 = .ok (.iload_n 1, 1) := by decide +kernel
theorem dX8_lead_5 : decode cX8_lead 5 = .ok (.invokevirtual 109, 3) := by decide +kernel
theorem dX8_lead_8 : decode cX8_lead 8 = .ok (.ifCond .eq 14, 3) := by decide +kernel
theorem dX8_lead_11 : decode cX8_lead 11 = .ok (.aload_n 0, 1) := by decide +kernel
theorem dX8_lead_12 : decode cX8_lead 12 = .ok (.getfield 14, 3) := by decide +kernel
theorem dX8_lead_15 : decode cX8_lead 15 = .ok (.iload_n 2, 1) := by decide +kernel
theorem dX8_lead_16 : decode cX8_lead 16 = .ok (.invokevirtual 144, 3) := by decide +kernel
theorem dX8_lead_19 : decode cX8_lead 19 = .ok (.ifCond .ne 5, 3) := by decide +kernel
theorem dX8_lead_22 : decode cX8_lead 22 = .ok (.iconst (-1), 1) := by decide +kernel
theorem dX8_lead_23 : decode cX8_lead 23 = .ok (.ireturn, 1) := by decide +kernel
theorem dX8_lead_24 : decode cX8_lead 24 = .ok (.aload_n 0, 1) := by decide +kernel
theorem dX8_lead_25 : decode cX8_lead 25 = .ok (.getfield 14, 3) := by decide +kernel
theorem dX8_lead_28 : decode cX8_lead 28 = .ok (.getfield 122, 3) := by decide +kernel
theorem dX8_lead_31 : decode cX8_lead 31 = .ok (.iload_n 1, 1) := by decide +kernel
theorem dX8_lead_32 : decode cX8_lead 32 = .ok (.iaload, 1) := by decide +kernel
theorem dX8_lead_33 : decode cX8_lead 33 = .ok (.istore_n 3, 1) := by decide +kernel
theorem dX8_lead_34 : decode cX8_lead 34 = .ok (.aload_n 0, 1) := by decide +kernel
theorem dX8_lead_35 : decode cX8_lead 35 = .ok (.getfield 14, 3) := by decide +kernel
theorem dX8_lead_38 : decode cX8_lead 38 = .ok (.getfield 122, 3) := by decide +kernel
theorem dX8_lead_41 : decode cX8_lead 41 = .ok (.iload_n 1, 1) := by decide +kernel
theorem dX8_lead_42 : decode cX8_lead 42 = .ok (.iload_n 2, 1) := by decide +kernel
theorem dX8_lead_43 : decode cX8_lead 43 = .ok (.iastore, 1) := by decide +kernel
theorem dX8_lead_44 : decode cX8_lead 44 = .ok (.iload_n 3, 1) := by decide +kernel
theorem dX8_lead_45 : decode cX8_lead 45 = .ok (.ireturn, 1) := by decide +kernel
theorem dX8_bake_0 : decode cX8_bake 0 = .ok (.aload_n 0, 1) := by decide +kernel
theorem dX8_bake_1 : decode cX8_bake 1 = .ok (.getfield 14, 3) := by decide +kernel
theorem dX8_bake_4 : decode cX8_bake 4 = .ok (.iload_n 1, 1) := by decide +kernel
theorem dX8_bake_5 : decode cX8_bake 5 = .ok (.invokevirtual 144, 3) := by decide +kernel
theorem dX8_bake_8 : decode cX8_bake 8 = .ok (.ifCond .ne 5, 3) := by decide +kernel
theorem dX8_bake_11 : decode cX8_bake 11 = .ok (.iconst (-1), 1) := by decide +kernel
theorem dX8_bake_12 : decode cX8_bake 12 = .ok (.ireturn, 1) := by decide +kernel
theorem dX8_bake_13 : decode cX8_bake 13 = .ok (.iload_n 2, 1) := by decide +kernel
theorem dX8_bake_14 : decode cX8_bake 14 = .ok (.invokestatic 156, 3) := by decide +kernel
theorem dX8_bake_17 : decode cX8_bake 17 = .ok (.ifCond .ne 6, 3) := by decide +kernel
theorem dX8_bake_20 : decode cX8_bake 20 = .ok (.bipush (-2), 2) := by decide +kernel
theorem dX8_bake_22 : decode cX8_bake 22 = .ok (.ireturn, 1) := by decide +kernel
theorem dX8_bake_23 : decode cX8_bake 23 = .ok (.aload_n 0, 1) := by decide +kernel
theorem dX8_bake_24 : decode cX8_bake 24 = .ok (.getfield 14, 3) := by decide +kernel
theorem dX8_bake_27 : decode cX8_bake 27 = .ok (.getfield 147, 3) := by decide +kernel
theorem dX8_bake_30 : decode cX8_bake 30 = .ok (.iload_n 1, 1) := by decide +kernel
theorem dX8_bake_31 : decode cX8_bake 31 = .ok (.iaload, 1) := by decide +kernel
theorem dX8_bake_32 : decode cX8_bake 32 = .ok (.istore_n 3, 1) := by decide +kernel
theorem dX8_bake_33 : decode cX8_bake 33 = .ok (.aload_n 0, 1) := by decide +kernel
theorem dX8_bake_34 : decode cX8_bake 34 = .ok (.getfield 14, 3) := by decide +kernel
theorem dX8_bake_37 : decode cX8_bake 37 = .ok (.getfield 147, 3) := by decide +kernel
theorem dX8_bake_40 : decode cX8_bake 40 = .ok (.iload_n 1, 1) := by decide +kernel
theorem dX8_bake_41 : decode cX8_bake 41 = .ok (.iload_n 2, 1) := by decide +kernel
theorem dX8_bake_42 : decode cX8_bake 42 = .ok (.iastore, 1) := by decide +kernel
theorem dX8_bake_43 : decode cX8_bake 43 = .ok (.iload_n 3, 1) := by decide +kernel
theorem dX8_bake_44 : decode cX8_bake 44 = .ok (.ireturn, 1) := by decide +kernel
theorem dX8_manner_0 : decode cX8_manner 0 = .ok (.iload_n 1, 1) := by decide +kernel
theorem dX8_manner_1 : decode cX8_manner 1 = .ok (.invokestatic 159, 3) := by decide +kernel
theorem dX8_manner_4 : decode cX8_manner 4 = .ok (.ifCond .ne 6, 3) := by decide +kernel
theorem dX8_manner_7 : decode cX8_manner 7 = .ok (.bipush (-2), 2) := by decide +kernel
theorem dX8_manner_9 : decode cX8_manner 9 = .ok (.ireturn, 1) := by decide +kernel
theorem dX8_manner_10 : decode cX8_manner 10 = .ok (.aload_n 0, 1) := by decide +kernel
theorem dX8_manner_11 : decode cX8_manner 11 = .ok (.getfield 14, 3) := by decide +kernel
theorem dX8_manner_14 : decode cX8_manner 14 = .ok (.invokevirtual 162, 3) := by decide +kernel
theorem dX8_manner_17 : decode cX8_manner 17 = .ok (.ifCond .ne 6, 3) := by decide +kernel
theorem dX8_manner_20 : decode cX8_manner 20 = .ok (.bipush (-3), 2) := by decide +kernel
theorem dX8_manner_22 : decode cX8_manner 22 = .ok (.ireturn, 1) := by decide +kernel
theorem dX8_manner_23 : decode cX8_manner 23 = .ok (.aload_n 0, 1) := by decide +kernel
theorem dX8_manner_24 : decode cX8_manner 24 = .ok (.getfield 14, 3) := by decide +kernel
theorem dX8_manner_27 : decode cX8_manner 27 = .ok (.getfield 166, 3) := by decide +kernel
theorem dX8_manner_30 : decode cX8_manner 30 = .ok (.istore_n 2, 1) := by decide +kernel
theorem dX8_manner_31 : decode cX8_manner 31 = .ok (.aload_n 0, 1) := by decide +kernel
theorem dX8_manner_32 : decode cX8_manner 32 = .ok (.getfield 14, 3) := by decide +kernel
theorem dX8_manner_35 : decode cX8_manner 35 = .ok (.iload_n 1, 1) := by decide +kernel
theorem dX8_manner_36 : decode cX8_manner 36 = .ok (.putfield 166, 3) := by decide +kernel
theorem dX8_manner_39 : decode cX8_manner 39 = .ok (.iload_n 2, 1) := by decide +kernel
theorem dX8_manner_40 : decode cX8_manner 40 = .ok (.ireturn, 1) := by decide +kernel
theorem dX8_chalk_0 : decode cX8_chalk 0 = .ok (.iload_n 1, 1) := by decide +kernel
theorem dX8_chalk_1 : decode cX8_chalk 1 = .ok (.invokestatic 156, 3) := by decide +kernel
theorem dX8_chalk_4 : decode cX8_chalk 4 = .ok (.ifCond .ne 6, 3) := by decide +kernel
theorem dX8_chalk_7 : decode cX8_chalk 7 = .ok (.bipush (-2), 2) := by decide +kernel
theorem dX8_chalk_9 : decode cX8_chalk 9 = .ok (.ireturn, 1) := by decide +kernel
theorem dX8_chalk_10 : decode cX8_chalk 10 = .ok (.aload_n 0, 1) := by decide +kernel
theorem dX8_chalk_11 : decode cX8_chalk 11 = .ok (.getfield 14, 3) := by decide +kernel
theorem dX8_chalk_14 : decode cX8_chalk 14 = .ok (.invokevirtual 162, 3) := by decide +kernel
theorem dX8_chalk_17 : decode cX8_chalk 17 = .ok (.ifCond .ne 6, 3) := by decide +kernel
theorem dX8_chalk_20 : decode cX8_chalk 20 = .ok (.bipush (-3), 2) := by decide +kernel
theorem dX8_chalk_22 : decode cX8_chalk 22 = .ok (.ireturn, 1) := by decide +kernel
theorem dX8_chalk_23 : decode cX8_chalk 23 = .ok (.aload_n 0, 1) := by decide +kernel
theorem dX8_chalk_24 : decode cX8_chalk 24 = .ok (.getfield 14, 3) := by decide +kernel
theorem dX8_chalk_27 : decode cX8_chalk 27 = .ok (.getfield 169, 3) := by decide +kernel
theorem dX8_chalk_30 : decode cX8_chalk 30 = .ok (.istore_n 2, 1) := by decide +kernel
theorem dX8_chalk_31 : decode cX8_chalk 31 = .ok (.aload_n 0, 1) := by decide +kernel
theorem dX8_chalk_32 : decode cX8_chalk 32 = .ok (.getfield 14, 3) := by decide +kernel
theorem dX8_chalk_35 : decode cX8_chalk 35 = .ok (.iload_n 1, 1) := by decide +kernel
theorem dX8_chalk_36 : decode cX8_chalk 36 = .ok (.putfield 169, 3) := by decide +kernel
theorem dX8_chalk_39 : decode cX8_chalk 39 = .ok (.iload_n 2, 1) := by decide +kernel
theorem dX8_chalk_40 : decode cX8_chalk 40 = .ok (.ireturn, 1) := by decide +kernel
theorem dX8_day_0 : decode cX8_day 0 = .ok (.aload_n 0, 1) := by decide +kernel
theorem dX8_day_1 : decode cX8_day 1 = .ok (.iconst 0, 1) := by decide +kernel
theorem dX8_day_2 : decode cX8_day 2 = .ok (.putfield 74, 3) := by decide +kernel
theorem dX8_day_5 : decode cX8_day 5 = .ok (.iload_n 1, 1) := by decide +kernel
theorem dX8_day_6 : decode cX8_day 6 = .ok (.invokestatic 77, 3) := by decide +kernel
theorem dX8_day_9 : decode cX8_day 9 = .ok (.ifCond .ne 5, 3) := by decide +kernel
theorem dX8_day_12 : decode cX8_day 12 = .ok (.iconst (-1), 1) := by decide +kernel
theorem dX8_day_13 : decode cX8_day 13 = .ok (.ireturn, 1) := by decide +kernel
theorem dX8_day_14 : decode cX8_day 14 = .ok (.iload_n 2, 1) := by decide +kernel
theorem dX8_day_15 : decode cX8_day 15 = .ok (.invokestatic 81, 3) := by decide +kernel
theorem dX8_day_18 : decode cX8_day 18 = .ok (.ifCond .eq 23, 3) := by decide +kernel
theorem dX8_day_21 : decode cX8_day 21 = .ok (.iload 4, 2) := by decide +kernel
theorem dX8_day_23 : decode cX8_day 23 = .ok (.ifCond .lt 18, 3) := by decide +kernel
theorem dX8_day_26 : decode cX8_day 26 = .ok (.iload 4, 2) := by decide +kernel
theorem dX8_day_28 : decode cX8_day 28 = .ok (.bipush 20, 2) := by decide +kernel
theorem dX8_day_30 : decode cX8_day 30 = .ok (.if_icmp .gt 11, 3) := by decide +kernel
theorem dX8_day_33 : decode cX8_day 33 = .ok (.iload 5, 2) := by decide +kernel
theorem dX8_day_35 : decode cX8_day 35 = .ok (.invokestatic 172, 3) := by decide +kernel
theorem dX8_day_38 : decode cX8_day 38 = .ok (.ifCond .ne 6, 3) := by decide +kernel
theorem dX8_day_41 : decode cX8_day 41 = .ok (.bipush (-2), 2) := by decide +kernel
theorem dX8_day_43 : decode cX8_day 43 = .ok (.ireturn, 1) := by decide +kernel
theorem dX8_day_44 : decode cX8_day 44 = .ok (.aload_n 0, 1) := by decide +kernel
theorem dX8_day_45 : decode cX8_day 45 = .ok (.getfield 14, 3) := by decide +kernel
theorem dX8_day_48 : decode cX8_day 48 = .ok (.invokevirtual 162, 3) := by decide +kernel
theorem dX8_day_51 : decode cX8_day 51 = .ok (.ifCond .ne 6, 3) := by decide +kernel
theorem dX8_day_54 : decode cX8_day 54 = .ok (.bipush (-3), 2) := by decide +kernel
theorem dX8_day_56 : decode cX8_day 56 = .ok (.ireturn, 1) := by decide +kernel
theorem dX8_day_57 : decode cX8_day 57 = .ok (.aload_n 0, 1) := by decide +kernel
theorem dX8_day_58 : decode cX8_day 58 = .ok (.getfield 66, 3) := by decide +kernel
theorem dX8_day_61 : decode cX8_day 61 = .ok (.iload_n 1, 1) := by decide +kernel
theorem dX8_day_62 : decode cX8_day 62 = .ok (.aaload, 1) := by decide +kernel
theorem dX8_day_63 : decode cX8_day 63 = .ok (.astore 6, 2) := by decide +kernel
theorem dX8_day_65 : decode cX8_day 65 = .ok (.aload 6, 2) := by decide +kernel
theorem dX8_day_67 : decode cX8_day 67 = .ok (.iload_n 2, 1) := by decide +kernel
theorem dX8_day_68 : decode cX8_day 68 = .ok (.iload_n 3, 1) := by decide +kernel
theorem dX8_day_69 : decode cX8_day 69 = .ok (.iconst 2, 1) := by decide +kernel
theorem dX8_day_70 : decode cX8_day 70 = .ok (.iload 4, 2) := by decide +kernel
theorem dX8_day_72 : decode cX8_day 72 = .ok (.imul, 1) := by decide +kernel
theorem dX8_day_73 : decode cX8_day 73 = .ok (.invokevirtual 84, 3) := by decide +kernel
theorem dX8_day_76 : decode cX8_day 76 = .ok (.istore 7, 2) := by decide +kernel
theorem dX8_day_78 : decode cX8_day 78 = .ok (.iload 7, 2) := by decide +kernel
theorem dX8_day_80 : decode cX8_day 80 = .ok (.ifCond .eq 10, 3) := by decide +kernel
theorem dX8_day_83 : decode cX8_day 83 = .ok (.aload_n 0, 1) := by decide +kernel
theorem dX8_day_84 : decode cX8_day 84 = .ok (.iload 7, 2) := by decide +kernel
theorem dX8_day_86 : decode cX8_day 86 = .ok (.invokevirtual 88, 3) := by decide +kernel
theorem dX8_day_89 : decode cX8_day 89 = .ok (.ireturn, 1) := by decide +kernel
theorem dX8_day_90 : decode cX8_day 90 = .ok (.aload 6, 2) := by decide +kernel
theorem dX8_day_92 : decode cX8_day 92 = .ok (.iload_n 3, 1) := by decide +kernel
theorem dX8_day_93 : decode cX8_day 93 = .ok (.iload 4, 2) := by decide +kernel
theorem dX8_day_95 : decode cX8_day 95 = .ok (.invokestatic 175, 3) := by decide +kernel
theorem dX8_day_98 : decode cX8_day 98 = .ok (.ifCond .ne 6, 3) := by decide +kernel
theorem dX8_day_101 : decode cX8_day 101 = .ok (.bipush (-2), 2) := by decide +kernel
theorem dX8_day_103 : decode cX8_day 103 = .ok (.ireturn, 1) := by decide +kernel
theorem dX8_day_104 : decode cX8_day 104 = .ok (.aload_n 0, 1) := by decide +kernel
theorem dX8_day_105 : decode cX8_day 105 = .ok (.aload 6, 2) := by decide +kernel
theorem dX8_day_107 : decode cX8_day 107 = .ok (.iload_n 3, 1) := by decide +kernel
theorem dX8_day_108 : decode cX8_day 108 = .ok (.iload 4, 2) := by decide +kernel
theorem dX8_day_110 : decode cX8_day 110 = .ok (.invokevirtual 179, 3) := by decide +kernel
theorem dX8_day_113 : decode cX8_day 113 = .ok (.istore 8, 2) := by decide +kernel
theorem dX8_day_115 : decode cX8_day 115 = .ok (.iload 5, 2) := by decide +kernel
theorem dX8_day_117 : decode cX8_day 117 = .ok (.iconst 1, 1) := by decide +kernel
theorem dX8_day_118 : decode cX8_day 118 = .ok (.if_icmp .ne 6, 3) := by decide +kernel
theorem dX8_day_121 : decode cX8_day 121 = .ok (.iload 8, 2) := by decide +kernel
theorem dX8_day_123 : decode cX8_day 123 = .ok (.ireturn, 1) := by decide +kernel
theorem dX8_day_124 : decode cX8_day 124 = .ok (.iload 8, 2) := by decide +kernel
theorem dX8_day_126 : decode cX8_day 126 = .ok (.bipush (-9), 2) := by decide +kernel
theorem dX8_day_128 : decode cX8_day 128 = .ok (.if_icmp .ne 12, 3) := by decide +kernel
theorem dX8_day_131 : decode cX8_day 131 = .ok (.aload_n 0, 1) := by decide +kernel
theorem dX8_day_132 : decode cX8_day 132 = .ok (.iload 5, 2) := by decide +kernel
theorem dX8_day_134 : decode cX8_day 134 = .ok (.invokevirtual 183, 3) := by decide +kernel
theorem dX8_day_137 : decode cX8_day 137 = .ok (.goto 8, 3) := by decide +kernel
theorem dX8_day_140 : decode cX8_day 140 = .ok (.bipush (-100), 2) := by decide +kernel
theorem dX8_day_142 : decode cX8_day 142 = .ok (.iload 8, 2) := by decide +kernel
theorem dX8_day_144 : decode cX8_day 144 = .ok (.isub, 1) := by decide +kernel
theorem dX8_day_145 : decode cX8_day 145 = .ok (.ireturn, 1) := by decide +kernel
theorem dX8_know_0 : decode cX8_know 0 = .ok (.aload_n 0, 1) := by decide +kernel
theorem dX8_know_1 : decode cX8_know 1 = .ok (.getfield 14, 3) := by decide +kernel
theorem dX8_know_4 : decode cX8_know 4 = .ok (.iload_n 1, 1) := by decide +kernel
theorem dX8_know_5 : decode cX8_know 5 = .ok (.invokevirtual 109, 3) := by decide +kernel
theorem dX8_know_8 : decode cX8_know 8 = .ok (.ifCond .eq 19, 3) := by decide +kernel
theorem dX8_know_11 : decode cX8_know 11 = .ok (.aload_n 0, 1) := by decide +kernel
theorem dX8_know_12 : decode cX8_know 12 = .ok (.getfield 14, 3) := by decide +kernel
theorem dX8_know_15 : decode cX8_know 15 = .ok (.iload_n 2, 1) := by decide +kernel
theorem dX8_know_16 : decode cX8_know 16 = .ok (.invokevirtual 109, 3) := by decide +kernel
theorem dX8_know_19 : decode cX8_know 19 = .ok (.ifCond .eq 8, 3) := by decide +kernel
theorem dX8_know_22 : decode cX8_know 22 = .ok (.iload_n 1, 1) := by decide +kernel
theorem dX8_know_23 : decode cX8_know 23 = .ok (.iload_n 2, 1) := by decide +kernel
theorem dX8_know_24 : decode cX8_know 24 = .ok (.if_icmp .ne 5, 3) := by decide +kernel
theorem dX8_know_27 : decode cX8_know 27 = .ok (.iconst (-1), 1) := by decide +kernel
theorem dX8_know_28 : decode cX8_know 28 = .ok (.ireturn, 1) := by decide +kernel
theorem dX8_know_29 : decode cX8_know 29 = .ok (.aload_n 0, 1) := by decide +kernel
theorem dX8_know_30 : decode cX8_know 30 = .ok (.getfield 31, 3) := by decide +kernel
theorem dX8_know_33 : decode cX8_know 33 = .ok (.iload_n 1, 1) := by decide +kernel
theorem dX8_know_34 : decode cX8_know 34 = .ok (.iload_n 2, 1) := by decide +kernel
theorem dX8_know_35 : decode cX8_know 35 = .ok (.invokevirtual 186, 3) := by decide +kernel
theorem dX8_know_38 : decode cX8_know 38 = .ok (.ireturn, 1) := by decide +kernel
theorem dX8_far_0 : decode cX8_far 0 = .ok (.aload_n 0, 1) := by decide +kernel
theorem dX8_far_1 : decode cX8_far 1 = .ok (.getfield 14, 3) := by decide +kernel
theorem dX8_far_4 : decode cX8_far 4 = .ok (.iload_n 1, 1) := by decide +kernel
theorem dX8_far_5 : decode cX8_far 5 = .ok (.invokevirtual 109, 3) := by decide +kernel
theorem dX8_far_8 : decode cX8_far 8 = .ok (.ifCond .eq 14, 3) := by decide +kernel
theorem dX8_far_11 : decode cX8_far 11 = .ok (.aload_n 0, 1) := by decide +kernel
theorem dX8_far_12 : decode cX8_far 12 = .ok (.getfield 14, 3) := by decide +kernel
theorem dX8_far_15 : decode cX8_far 15 = .ok (.iload_n 2, 1) := by decide +kernel
theorem dX8_far_16 : decode cX8_far 16 = .ok (.invokevirtual 109, 3) := by decide +kernel
theorem dX8_far_19 : decode cX8_far 19 = .ok (.ifCond .ne 5, 3) := by decide +kernel
theorem dX8_far_22 : decode cX8_far 22 = .ok (.iconst (-1), 1) := by decide +kernel
theorem dX8_far_23 : decode cX8_far 23 = .ok (.ireturn, 1) := by decide +kernel
theorem dX8_far_24 : decode cX8_far 24 = .ok (.aload_n 0, 1) := by decide +kernel
theorem dX8_far_25 : decode cX8_far 25 = .ok (.getfield 31, 3) := by decide +kernel
theorem dX8_far_28 : decode cX8_far 28 = .ok (.iload_n 1, 1) := by decide +kernel
theorem dX8_far_29 : decode cX8_far 29 = .ok (.iload_n 2, 1) := by decide +kernel
theorem dX8_far_30 : decode cX8_far 30 = .ok (.invokevirtual 190, 3) := by decide +kernel
theorem dX8_far_33 : decode cX8_far 33 = .ok (.ireturn, 1) := by decide +kernel
theorem dX8_lantern_0 : decode cX8_lantern 0 = .ok (.iload_n 1, 1) := by decide +kernel
theorem dX8_lantern_1 : decode cX8_lantern 1 = .ok (.ifCond .lt 18, 3) := by decide +kernel
theorem dX8_lantern_4 : decode cX8_lantern 4 = .ok (.iload_n 1, 1) := by decide +kernel
theorem dX8_lantern_5 : decode cX8_lantern 5 = .ok (.bipush 30, 2) := by decide +kernel
theorem dX8_lantern_7 : decode cX8_lantern 7 = .ok (.if_icmp .gt 12, 3) := by decide +kernel
theorem dX8_lantern_10 : decode cX8_lantern 10 = .ok (.iload_n 2, 1) := by decide +kernel
theorem dX8_lantern_11 : decode cX8_lantern 11 = .ok (.ifCond .lt 8, 3) := by decide +kernel
theorem dX8_lantern_14 : decode cX8_lantern 14 = .ok (.iload_n 2, 1) := by decide +kernel
theorem dX8_lantern_15 : decode cX8_lantern 15 = .ok (.iconst 1, 1) := by decide +kernel
theorem dX8_lantern_16 : decode cX8_lantern 16 = .ok (.if_icmp .le 6, 3) := by decide +kernel
theorem dX8_lantern_19 : decode cX8_lantern 19 = .ok (.bipush (-2), 2) := by decide +kernel
theorem dX8_lantern_21 : decode cX8_lantern 21 = .ok (.ireturn, 1) := by decide +kernel
theorem dX8_lantern_22 : decode cX8_lantern 22 = .ok (.aload_n 0, 1) := by decide +kernel
theorem dX8_lantern_23 : decode cX8_lantern 23 = .ok (.getfield 14, 3) := by decide +kernel
theorem dX8_lantern_26 : decode cX8_lantern 26 = .ok (.invokevirtual 162, 3) := by decide +kernel
theorem dX8_lantern_29 : decode cX8_lantern 29 = .ok (.ifCond .ne 6, 3) := by decide +kernel
theorem dX8_lantern_32 : decode cX8_lantern 32 = .ok (.bipush (-3), 2) := by decide +kernel
theorem dX8_lantern_34 : decode cX8_lantern 34 = .ok (.ireturn, 1) := by decide +kernel
theorem dX8_lantern_35 : decode cX8_lantern 35 = .ok (.iload_n 2, 1) := by decide +kernel
theorem dX8_lantern_36 : decode cX8_lantern 36 = .ok (.ifCond .ne 14, 3) := by decide +kernel
theorem dX8_lantern_39 : decode cX8_lantern 39 = .ok (.aload_n 0, 1) := by decide +kernel
theorem dX8_lantern_40 : decode cX8_lantern 40 = .ok (.getfield 14, 3) := by decide +kernel
theorem dX8_lantern_43 : decode cX8_lantern 43 = .ok (.iload_n 1, 1) := by decide +kernel
theorem dX8_lantern_44 : decode cX8_lantern 44 = .ok (.invokevirtual 193, 3) := by decide +kernel
theorem dX8_lantern_47 : decode cX8_lantern 47 = .ok (.goto 11, 3) := by decide +kernel
theorem dX8_lantern_50 : decode cX8_lantern 50 = .ok (.aload_n 0, 1) := by decide +kernel
theorem dX8_lantern_51 : decode cX8_lantern 51 = .ok (.getfield 14, 3) := by decide +kernel
theorem dX8_lantern_54 : decode cX8_lantern 54 = .ok (.iload_n 1, 1) := by decide +kernel
theorem dX8_lantern_55 : decode cX8_lantern 55 = .ok (.invokevirtual 196, 3) := by decide +kernel
theorem dX8_lantern_58 : decode cX8_lantern 58 = .ok (.ireturn, 1) := by decide +kernel
theorem dX8_best_0 : decode cX8_best 0 = .ok (.aload_n 0, 1) := by decide +kernel
theorem dX8_best_1 : decode cX8_best 1 = .ok (.getfield 14, 3) := by decide +kernel
theorem dX8_best_4 : decode cX8_best 4 = .ok (.invokevirtual 162, 3) := by decide +kernel
theorem dX8_best_7 : decode cX8_best 7 = .ok (.ifCond .ne 6, 3) := by decide +kernel
theorem dX8_best_10 : decode cX8_best 10 = .ok (.bipush (-3), 2) := by decide +kernel
theorem dX8_best_12 : decode cX8_best 12 = .ok (.ireturn, 1) := by decide +kernel
theorem dX8_best_13 : decode cX8_best 13 = .ok (.iconst 0, 1) := by decide +kernel
theorem dX8_best_14 : decode cX8_best 14 = .ok (.istore_n 1, 1) := by decide +kernel
theorem dX8_best_15 : decode cX8_best 15 = .ok (.aload_n 0, 1) := by decide +kernel
theorem dX8_best_16 : decode cX8_best 16 = .ok (.getfield 14, 3) := by decide +kernel
theorem dX8_best_19 : decode cX8_best 19 = .ok (.iconst 0, 1) := by decide +kernel
theorem dX8_best_20 : decode cX8_best 20 = .ok (.invokevirtual 199, 3) := by decide +kernel
theorem dX8_best_23 : decode cX8_best 23 = .ok (.istore_n 2, 1) := by decide +kernel
theorem dX8_best_24 : decode cX8_best 24 = .ok (.iconst 1, 1) := by decide +kernel
theorem dX8_best_25 : decode cX8_best 25 = .ok (.istore_n 3, 1) := by decide +kernel
theorem dX8_best_26 : decode cX8_best 26 = .ok (.iload_n 3, 1) := by decide +kernel
theorem dX8_best_27 : decode cX8_best 27 = .ok (.bipush 30, 2) := by decide +kernel
theorem dX8_best_29 : decode cX8_best 29 = .ok (.if_icmp .gt 30, 3) := by decide +kernel
theorem dX8_best_32 : decode cX8_best 32 = .ok (.aload_n 0, 1) := by decide +kernel
theorem dX8_best_33 : decode cX8_best 33 = .ok (.getfield 14, 3) := by decide +kernel
theorem dX8_best_36 : decode cX8_best 36 = .ok (.iload_n 3, 1) := by decide +kernel
theorem dX8_best_37 : decode cX8_best 37 = .ok (.invokevirtual 199, 3) := by decide +kernel
theorem dX8_best_40 : decode cX8_best 40 = .ok (.istore 4, 2) := by decide +kernel
theorem dX8_best_42 : decode cX8_best 42 = .ok (.iload 4, 2) := by decide +kernel
theorem dX8_best_44 : decode cX8_best 44 = .ok (.iload_n 2, 1) := by decide +kernel
theorem dX8_best_45 : decode cX8_best 45 = .ok (.if_icmp .ge 8, 3) := by decide +kernel
theorem dX8_best_48 : decode cX8_best 48 = .ok (.iload 4, 2) := by decide +kernel
theorem dX8_best_50 : decode cX8_best 50 = .ok (.istore_n 2, 1) := by decide +kernel
theorem dX8_best_51 : decode cX8_best 51 = .ok (.iload_n 3, 1) := by decide +kernel
theorem dX8_best_52 : decode cX8_best 52 = .ok (.istore_n 1, 1) := by decide +kernel
theorem dX8_best_53 : decode cX8_best 53 = .ok (.iinc 3 1, 3) := by decide +kernel
theorem dX8_best_56 : decode cX8_best 56 = .ok (.goto (-30), 3) := by decide +kernel
theorem dX8_best_59 : decode cX8_best 59 = .ok (.iload_n 1, 1) := by decide +kernel
theorem dX8_best_60 : decode cX8_best 60 = .ok (.ireturn, 1) := by decide +kernel
theorem dX8_without_0 : decode cX8_without 0 = .ok (.iload_n 1, 1) := by decide +kernel
theorem dX8_without_1 : decode cX8_without 1 = .ok (.ifCond .lt 8, 3) := by decide +kernel
theorem dX8_without_4 : decode cX8_without 4 = .ok (.iload_n 1, 1) := by decide +kernel
theorem dX8_without_5 : decode cX8_without 5 = .ok (.iconst 4, 1) := by decide +kernel
theorem dX8_without_6 : decode cX8_without 6 = .ok (.if_icmp .le 6, 3) := by decide +kernel
theorem dX8_without_9 : decode cX8_without 9 = .ok (.bipush (-2), 2) := by decide +kernel
theorem dX8_without_11 : decode cX8_without 11 = .ok (.ireturn, 1) := by decide +kernel
theorem dX8_without_12 : decode cX8_without 12 = .ok (.aload_n 0, 1) := by decide +kernel
theorem dX8_without_13 : decode cX8_without 13 = .ok (.getfield 14, 3) := by decide +kernel
theorem dX8_without_16 : decode cX8_without 16 = .ok (.invokevirtual 162, 3) := by decide +kernel
theorem dX8_without_19 : decode cX8_without 19 = .ok (.ifCond .ne 6, 3) := by decide +kernel
theorem dX8_without_22 : decode cX8_without 22 = .ok (.bipush (-3), 2) := by decide +kernel
theorem dX8_without_24 : decode cX8_without 24 = .ok (.ireturn, 1) := by decide +kernel
theorem dX8_without_25 : decode cX8_without 25 = .ok (.iload_n 1, 1) := by decide +kernel
theorem dX8_without_26 : decode cX8_without 26 = .ok (.iconst 3, 1) := by decide +kernel
theorem dX8_without_27 : decode cX8_without 27 = .ok (.if_icmp .ge 9, 3) := by decide +kernel
theorem dX8_without_30 : decode cX8_without 30 = .ok (.aload_n 0, 1) := by decide +kernel
theorem dX8_without_31 : decode cX8_without 31 = .ok (.iload_n 1, 1) := by decide +kernel
theorem dX8_without_32 : decode cX8_without 32 = .ok (.invokevirtual 202, 3) := by decide +kernel
theorem dX8_without_35 : decode cX8_without 35 = .ok (.ireturn, 1) := by decide +kernel
theorem dX8_without_36 : decode cX8_without 36 = .ok (.aload_n 0, 1) := by decide +kernel
theorem dX8_without_37 : decode cX8_without 37 = .ok (.invokevirtual 205, 3) := by decide +kernel
theorem dX8_without_40 : decode cX8_without 40 = .ok (.istore_n 2, 1) := by decide +kernel
theorem dX8_without_41 : decode cX8_without 41 = .ok (.iload_n 1, 1) := by decide +kernel
theorem dX8_without_42 : decode cX8_without 42 = .ok (.iconst 3, 1) := by decide +kernel
theorem dX8_without_43 : decode cX8_without 43 = .ok (.if_icmp .ne 11, 3) := by decide +kernel
theorem dX8_without_46 : decode cX8_without 46 = .ok (.aload_n 0, 1) := by decide +kernel
theorem dX8_without_47 : decode cX8_without 47 = .ok (.iload_n 2, 1) := by decide +kernel
theorem dX8_without_48 : decode cX8_without 48 = .ok (.invokevirtual 202, 3) := by decide +kernel
theorem dX8_without_51 : decode cX8_without 51 = .ok (.goto 4, 3) := by decide +kernel
theorem dX8_without_54 : decode cX8_without 54 = .ok (.iload_n 2, 1) := by decide +kernel
theorem dX8_without_55 : decode cX8_without 55 = .ok (.ireturn, 1) := by decide +kernel
theorem dX8_gain_0 : decode cX8_gain 0 = .ok (.aload_n 0, 1) := by decide +kernel
theorem dX8_gain_1 : decode cX8_gain 1 = .ok (.getfield 14, 3) := by decide +kernel
theorem dX8_gain_4 : decode cX8_gain 4 = .ok (.iload_n 1, 1) := by decide +kernel
theorem dX8_gain_5 : decode cX8_gain 5 = .ok (.invokevirtual 109, 3) := by decide +kernel
theorem dX8_gain_8 : decode cX8_gain 8 = .ok (.ifCond .ne 5, 3) := by decide +kernel
theorem dX8_gain_11 : decode cX8_gain 11 = .ok (.iconst (-1), 1) := by decide +kernel
theorem dX8_gain_12 : decode cX8_gain 12 = .ok (.ireturn, 1) := by decide +kernel
theorem dX8_gain_13 : decode cX8_gain 13 = .ok (.aload_n 0, 1) := by decide +kernel
theorem dX8_gain_14 : decode cX8_gain 14 = .ok (.getfield 14, 3) := by decide +kernel
theorem dX8_gain_17 : decode cX8_gain 17 = .ok (.iload_n 1, 1) := by decide +kernel
theorem dX8_gain_18 : decode cX8_gain 18 = .ok (.invokevirtual 131, 3) := by decide +kernel
theorem dX8_gain_21 : decode cX8_gain 21 = .ok (.istore_n 2, 1) := by decide +kernel
theorem dX8_gain_22 : decode cX8_gain 22 = .ok (.aload_n 0, 1) := by decide +kernel
theorem dX8_gain_23 : decode cX8_gain 23 = .ok (.getfield 18, 3) := by decide +kernel
theorem dX8_gain_26 : decode cX8_gain 26 = .ok (.aload_n 0, 1) := by decide +kernel
theorem dX8_gain_27 : decode cX8_gain 27 = .ok (.getfield 14, 3) := by decide +kernel
theorem dX8_gain_30 : decode cX8_gain 30 = .ok (.invokevirtual 96, 3) := by decide +kernel
theorem dX8_gain_33 : decode cX8_gain 33 = .ok (.aload_n 0, 1) := by decide +kernel
theorem dX8_gain_34 : decode cX8_gain 34 = .ok (.getfield 14, 3) := by decide +kernel
theorem dX8_gain_37 : decode cX8_gain 37 = .ok (.getfield 119, 3) := by decide +kernel
theorem dX8_gain_40 : decode cX8_gain 40 = .ok (.iload_n 1, 1) := by decide +kernel
theorem dX8_gain_41 : decode cX8_gain 41 = .ok (.iaload, 1) := by decide +kernel
theorem dX8_gain_42 : decode cX8_gain 42 = .ok (.iconst 1, 1) := by decide +kernel
theorem dX8_gain_43 : decode cX8_gain 43 = .ok (.iadd, 1) := by decide +kernel
theorem dX8_gain_44 : decode cX8_gain 44 = .ok (.istore_n 3, 1) := by decide +kernel
theorem dX8_gain_45 : decode cX8_gain 45 = .ok (.iload_n 3, 1) := by decide +kernel
theorem dX8_gain_46 : decode cX8_gain 46 = .ok (.bipush 9, 2) := by decide +kernel
theorem dX8_gain_48 : decode cX8_gain 48 = .ok (.if_icmp .gt 33, 3) := by decide +kernel
theorem dX8_gain_51 : decode cX8_gain 51 = .ok (.aload_n 0, 1) := by decide +kernel
theorem dX8_gain_52 : decode cX8_gain 52 = .ok (.getfield 18, 3) := by decide +kernel
theorem dX8_gain_55 : decode cX8_gain 55 = .ok (.getfield 119, 3) := by decide +kernel
theorem dX8_gain_58 : decode cX8_gain 58 = .ok (.iload_n 1, 1) := by decide +kernel
theorem dX8_gain_59 : decode cX8_gain 59 = .ok (.iload_n 3, 1) := by decide +kernel
theorem dX8_gain_60 : decode cX8_gain 60 = .ok (.iastore, 1) := by decide +kernel
theorem dX8_gain_61 : decode cX8_gain 61 = .ok (.aload_n 0, 1) := by decide +kernel
theorem dX8_gain_62 : decode cX8_gain 62 = .ok (.getfield 18, 3) := by decide +kernel
theorem dX8_gain_65 : decode cX8_gain 65 = .ok (.iload_n 1, 1) := by decide +kernel
theorem dX8_gain_66 : decode cX8_gain 66 = .ok (.invokevirtual 131, 3) := by decide +kernel
theorem dX8_gain_69 : decode cX8_gain 69 = .ok (.iload_n 2, 1) := by decide +kernel
theorem dX8_gain_70 : decode cX8_gain 70 = .ok (.if_icmp .le 5, 3) := by decide +kernel
theorem dX8_gain_73 : decode cX8_gain 73 = .ok (.iload_n 3, 1) := by decide +kernel
theorem dX8_gain_74 : decode cX8_gain 74 = .ok (.ireturn, 1) := by decide +kernel
theorem dX8_gain_75 : decode cX8_gain 75 = .ok (.iinc 3 1, 3) := by decide +kernel
theorem dX8_gain_78 : decode cX8_gain 78 = .ok (.goto (-33), 3) := by decide +kernel
theorem dX8_gain_81 : decode cX8_gain 81 = .ok (.bipush (-9), 2) := by decide +kernel
theorem dX8_gain_83 : decode cX8_gain 83 = .ok (.ireturn, 1) := by decide +kernel
theorem dX8_needs_0 : decode cX8_needs 0 = .ok (.aload_n 0, 1) := by decide +kernel
theorem dX8_needs_1 : decode cX8_needs 1 = .ok (.getfield 14, 3) := by decide +kernel
theorem dX8_needs_4 : decode cX8_needs 4 = .ok (.iload_n 1, 1) := by decide +kernel
theorem dX8_needs_5 : decode cX8_needs 5 = .ok (.invokevirtual 109, 3) := by decide +kernel
theorem dX8_needs_8 : decode cX8_needs 8 = .ok (.ifCond .ne 5, 3) := by decide +kernel
theorem dX8_needs_11 : decode cX8_needs 11 = .ok (.iconst (-1), 1) := by decide +kernel
theorem dX8_needs_12 : decode cX8_needs 12 = .ok (.ireturn, 1) := by decide +kernel
theorem dX8_needs_13 : decode cX8_needs 13 = .ok (.aload_n 0, 1) := by decide +kernel
theorem dX8_needs_14 : decode cX8_needs 14 = .ok (.getfield 18, 3) := by decide +kernel
theorem dX8_needs_17 : decode cX8_needs 17 = .ok (.aload_n 0, 1) := by decide +kernel
theorem dX8_needs_18 : decode cX8_needs 18 = .ok (.getfield 14, 3) := by decide +kernel
theorem dX8_needs_21 : decode cX8_needs 21 = .ok (.invokevirtual 96, 3) := by decide +kernel
theorem dX8_needs_24 : decode cX8_needs 24 = .ok (.iconst 0, 1) := by decide +kernel
theorem dX8_needs_25 : decode cX8_needs 25 = .ok (.istore_n 2, 1) := by decide +kernel
theorem dX8_needs_26 : decode cX8_needs 26 = .ok (.iload_n 2, 1) := by decide +kernel
theorem dX8_needs_27 : decode cX8_needs 27 = .ok (.bipush 9, 2) := by decide +kernel
theorem dX8_needs_29 : decode cX8_needs 29 = .ok (.if_icmp .gt 30, 3) := by decide +kernel
theorem dX8_needs_32 : decode cX8_needs 32 = .ok (.aload_n 0, 1) := by decide +kernel
theorem dX8_needs_33 : decode cX8_needs 33 = .ok (.getfield 18, 3) := by decide +kernel
theorem dX8_needs_36 : decode cX8_needs 36 = .ok (.iload_n 2, 1) := by decide +kernel
theorem dX8_needs_37 : decode cX8_needs 37 = .ok (.putfield 169, 3) := by decide +kernel
theorem dX8_needs_40 : decode cX8_needs 40 = .ok (.aload_n 0, 1) := by decide +kernel
theorem dX8_needs_41 : decode cX8_needs 41 = .ok (.getfield 18, 3) := by decide +kernel
theorem dX8_needs_44 : decode cX8_needs 44 = .ok (.iload_n 1, 1) := by decide +kernel
theorem dX8_needs_45 : decode cX8_needs 45 = .ok (.invokevirtual 131, 3) := by decide +kernel
theorem dX8_needs_48 : decode cX8_needs 48 = .ok (.ifCond .le 5, 3) := by decide +kernel
theorem dX8_needs_51 : decode cX8_needs 51 = .ok (.iload_n 2, 1) := by decide +kernel
theorem dX8_needs_52 : decode cX8_needs 52 = .ok (.ireturn, 1) := by decide +kernel
theorem dX8_needs_53 : decode cX8_needs 53 = .ok (.iinc 2 1, 3) := by decide +kernel
theorem dX8_needs_56 : decode cX8_needs 56 = .ok (.goto (-30), 3) := by decide +kernel
theorem dX8_needs_59 : decode cX8_needs 59 = .ok (.bipush (-9), 2) := by decide +kernel
theorem dX8_needs_61 : decode cX8_needs 61 = .ok (.ireturn, 1) := by decide +kernel
theorem dX8_parted_0 : decode cX8_parted 0 = .ok (.iload_n 1, 1) := by decide +kernel
theorem dX8_parted_1 : decode cX8_parted 1 = .ok (.iconst (-1), 1) := by decide +kernel
theorem dX8_parted_2 : decode cX8_parted 2 = .ok (.if_icmp .lt 8, 3) := by decide +kernel
theorem dX8_parted_5 : decode cX8_parted 5 = .ok (.iload_n 1, 1) := by decide +kernel
theorem dX8_parted_6 : decode cX8_parted 6 = .ok (.iconst 3, 1) := by decide +kernel
theorem dX8_parted_7 : decode cX8_parted 7 = .ok (.if_icmp .lt 6, 3) := by decide +kernel
theorem dX8_parted_10 : decode cX8_parted 10 = .ok (.bipush (-2), 2) := by decide +kernel
theorem dX8_parted_12 : decode cX8_parted 12 = .ok (.ireturn, 1) := by decide +kernel
theorem dX8_parted_13 : decode cX8_parted 13 = .ok (.aload_n 0, 1) := by decide +kernel
theorem dX8_parted_14 : decode cX8_parted 14 = .ok (.getfield 14, 3) := by decide +kernel
theorem dX8_parted_17 : decode cX8_parted 17 = .ok (.invokevirtual 162, 3) := by decide +kernel
theorem dX8_parted_20 : decode cX8_parted 20 = .ok (.ifCond .ne 6, 3) := by decide +kernel
theorem dX8_parted_23 : decode cX8_parted 23 = .ok (.bipush (-3), 2) := by decide +kernel
theorem dX8_parted_25 : decode cX8_parted 25 = .ok (.ireturn, 1) := by decide +kernel
theorem dX8_parted_26 : decode cX8_parted 26 = .ok (.iload_n 1, 1) := by decide +kernel
theorem dX8_parted_27 : decode cX8_parted 27 = .ok (.aload_n 0, 1) := by decide +kernel
theorem dX8_parted_28 : decode cX8_parted 28 = .ok (.getfield 14, 3) := by decide +kernel
theorem dX8_parted_31 : decode cX8_parted 31 = .ok (.getfield 208, 3) := by decide +kernel
theorem dX8_parted_34 : decode cX8_parted 34 = .ok (.if_icmp .lt 6, 3) := by decide +kernel
theorem dX8_parted_37 : decode cX8_parted 37 = .ok (.bipush (-9), 2) := by decide +kernel
theorem dX8_parted_39 : decode cX8_parted 39 = .ok (.ireturn, 1) := by decide +kernel
theorem dX8_parted_40 : decode cX8_parted 40 = .ok (.aload_n 0, 1) := by decide +kernel
theorem dX8_parted_41 : decode cX8_parted 41 = .ok (.getfield 18, 3) := by decide +kernel
theorem dX8_parted_44 : decode cX8_parted 44 = .ok (.aload_n 0, 1) := by decide +kernel
theorem dX8_parted_45 : decode cX8_parted 45 = .ok (.getfield 14, 3) := by decide +kernel
theorem dX8_parted_48 : decode cX8_parted 48 = .ok (.invokevirtual 96, 3) := by decide +kernel
theorem dX8_parted_51 : decode cX8_parted 51 = .ok (.aload_n 0, 1) := by decide +kernel
theorem dX8_parted_52 : decode cX8_parted 52 = .ok (.getfield 45, 3) := by decide +kernel
theorem dX8_parted_55 : decode cX8_parted 55 = .ok (.aload_n 0, 1) := by decide +kernel
theorem dX8_parted_56 : decode cX8_parted 56 = .ok (.getfield 18, 3) := by decide +kernel
theorem dX8_parted_59 : decode cX8_parted 59 = .ok (.invokevirtual 211, 3) := by decide +kernel
theorem dX8_parted_62 : decode cX8_parted 62 = .ok (.iload_n 1, 1) := by decide +kernel
theorem dX8_parted_63 : decode cX8_parted 63 = .ok (.ifCond .ge 13, 3) := by decide +kernel
theorem dX8_parted_66 : decode cX8_parted 66 = .ok (.aload_n 0, 1) := by decide +kernel
theorem dX8_parted_67 : decode cX8_parted 67 = .ok (.getfield 45, 3) := by decide +kernel
theorem dX8_parted_70 : decode cX8_parted 70 = .ok (.getfield 214, 3) := by decide +kernel
theorem dX8_parted_73 : decode cX8_parted 73 = .ok (.goto 12, 3) := by decide +kernel
theorem dX8_parted_76 : decode cX8_parted 76 = .ok (.aload_n 0, 1) := by decide +kernel
theorem dX8_parted_77 : decode cX8_parted 77 = .ok (.getfield 45, 3) := by decide +kernel
theorem dX8_parted_80 : decode cX8_parted 80 = .ok (.getfield 217, 3) := by decide +kernel
theorem dX8_parted_83 : decode cX8_parted 83 = .ok (.iload_n 1, 1) := by decide +kernel
theorem dX8_parted_84 : decode cX8_parted 84 = .ok (.iaload, 1) := by decide +kernel
theorem dX8_parted_85 : decode cX8_parted 85 = .ok (.ireturn, 1) := by decide +kernel
theorem dX8_given_0 : decode cX8_given 0 = .ok (.aload_n 0, 1) := by decide +kernel
theorem dX8_given_1 : decode cX8_given 1 = .ok (.getfield 14, 3) := by decide +kernel
theorem dX8_given_4 : decode cX8_given 4 = .ok (.invokevirtual 162, 3) := by decide +kernel
theorem dX8_given_7 : decode cX8_given 7 = .ok (.ifCond .ne 6, 3) := by decide +kernel
theorem dX8_given_10 : decode cX8_given 10 = .ok (.bipush (-3), 2) := by decide +kernel
theorem dX8_given_12 : decode cX8_given 12 = .ok (.ireturn, 1) := by decide +kernel
theorem dX8_given_13 : decode cX8_given 13 = .ok (.aload_n 0, 1) := by decide +kernel
theorem dX8_given_14 : decode cX8_given 14 = .ok (.getfield 38, 3) := by decide +kernel
theorem dX8_given_17 : decode cX8_given 17 = .ok (.aload_n 0, 1) := by decide +kernel
theorem dX8_given_18 : decode cX8_given 18 = .ok (.getfield 14, 3) := by decide +kernel
theorem dX8_given_21 : decode cX8_given 21 = .ok (.aload_n 0, 1) := by decide +kernel
theorem dX8_given_22 : decode cX8_given 22 = .ok (.getfield 31, 3) := by decide +kernel
theorem dX8_given_25 : decode cX8_given 25 = .ok (.invokevirtual 220, 3) := by decide +kernel
theorem dX8_given_28 : decode cX8_given 28 = .ok (.ireturn, 1) := by decide +kernel
theorem dX8_settles_0 : decode cX8_settles 0 = .ok (.iload_n 1, 1) := by decide +kernel
theorem dX8_settles_1 : decode cX8_settles 1 = .ok (.ifCond .lt 8, 3) := by decide +kernel
theorem dX8_settles_4 : decode cX8_settles 4 = .ok (.iload_n 1, 1) := by decide +kernel
theorem dX8_settles_5 : decode cX8_settles 5 = .ok (.iconst 1, 1) := by decide +kernel
theorem dX8_settles_6 : decode cX8_settles 6 = .ok (.if_icmp .le 6, 3) := by decide +kernel
theorem dX8_settles_9 : decode cX8_settles 9 = .ok (.bipush (-2), 2) := by decide +kernel
theorem dX8_settles_11 : decode cX8_settles 11 = .ok (.ireturn, 1) := by decide +kernel
theorem dX8_settles_12 : decode cX8_settles 12 = .ok (.aload_n 0, 1) := by decide +kernel
theorem dX8_settles_13 : decode cX8_settles 13 = .ok (.getfield 14, 3) := by decide +kernel
theorem dX8_settles_16 : decode cX8_settles 16 = .ok (.invokevirtual 162, 3) := by decide +kernel
theorem dX8_settles_19 : decode cX8_settles 19 = .ok (.ifCond .ne 6, 3) := by decide +kernel
theorem dX8_settles_22 : decode cX8_settles 22 = .ok (.bipush (-3), 2) := by decide +kernel
theorem dX8_settles_24 : decode cX8_settles 24 = .ok (.ireturn, 1) := by decide +kernel
theorem dX8_settles_25 : decode cX8_settles 25 = .ok (.aload_n 0, 1) := by decide +kernel
theorem dX8_settles_26 : decode cX8_settles 26 = .ok (.getfield 18, 3) := by decide +kernel
theorem dX8_settles_29 : decode cX8_settles 29 = .ok (.aload_n 0, 1) := by decide +kernel
theorem dX8_settles_30 : decode cX8_settles 30 = .ok (.getfield 14, 3) := by decide +kernel
theorem dX8_settles_33 : decode cX8_settles 33 = .ok (.invokevirtual 96, 3) := by decide +kernel
theorem dX8_settles_36 : decode cX8_settles 36 = .ok (.aload_n 0, 1) := by decide +kernel
theorem dX8_settles_37 : decode cX8_settles 37 = .ok (.getfield 52, 3) := by decide +kernel
theorem dX8_settles_40 : decode cX8_settles 40 = .ok (.aload_n 0, 1) := by decide +kernel
theorem dX8_settles_41 : decode cX8_settles 41 = .ok (.getfield 18, 3) := by decide +kernel
theorem dX8_settles_44 : decode cX8_settles 44 = .ok (.invokevirtual 224, 3) := by decide +kernel
theorem dX8_settles_47 : decode cX8_settles 47 = .ok (.iload_n 1, 1) := by decide +kernel
theorem dX8_settles_48 : decode cX8_settles 48 = .ok (.ifCond .ne 13, 3) := by decide +kernel
theorem dX8_settles_51 : decode cX8_settles 51 = .ok (.aload_n 0, 1) := by decide +kernel
theorem dX8_settles_52 : decode cX8_settles 52 = .ok (.getfield 52, 3) := by decide +kernel
theorem dX8_settles_55 : decode cX8_settles 55 = .ok (.getfield 227, 3) := by decide +kernel
theorem dX8_settles_58 : decode cX8_settles 58 = .ok (.goto 10, 3) := by decide +kernel
theorem dX8_settles_61 : decode cX8_settles 61 = .ok (.aload_n 0, 1) := by decide +kernel
theorem dX8_settles_62 : decode cX8_settles 62 = .ok (.getfield 52, 3) := by decide +kernel
theorem dX8_settles_65 : decode cX8_settles 65 = .ok (.getfield 230, 3) := by decide +kernel
theorem dX8_settles_68 : decode cX8_settles 68 = .ok (.ireturn, 1) := by decide +kernel
theorem dX8_more_0 : decode cX8_more 0 = .ok (.iload_n 1, 1) := by decide +kernel
theorem dX8_more_1 : decode cX8_more 1 = .ok (.iconst 1, 1) := by decide +kernel
theorem dX8_more_2 : decode cX8_more 2 = .ok (.if_icmp .lt 9, 3) := by decide +kernel
theorem dX8_more_5 : decode cX8_more 5 = .ok (.iload_n 1, 1) := by decide +kernel
theorem dX8_more_6 : decode cX8_more 6 = .ok (.bipush 99, 2) := by decide +kernel
theorem dX8_more_8 : decode cX8_more 8 = .ok (.if_icmp .le 6, 3) := by decide +kernel
theorem dX8_more_11 : decode cX8_more 11 = .ok (.bipush (-2), 2) := by decide +kernel
theorem dX8_more_13 : decode cX8_more 13 = .ok (.ireturn, 1) := by decide +kernel
theorem dX8_more_14 : decode cX8_more 14 = .ok (.aload_n 0, 1) := by decide +kernel
theorem dX8_more_15 : decode cX8_more 15 = .ok (.getfield 14, 3) := by decide +kernel
theorem dX8_more_18 : decode cX8_more 18 = .ok (.invokevirtual 162, 3) := by decide +kernel
theorem dX8_more_21 : decode cX8_more 21 = .ok (.ifCond .ne 6, 3) := by decide +kernel
theorem dX8_more_24 : decode cX8_more 24 = .ok (.bipush (-3), 2) := by decide +kernel
theorem dX8_more_26 : decode cX8_more 26 = .ok (.ireturn, 1) := by decide +kernel
theorem dX8_more_27 : decode cX8_more 27 = .ok (.iconst 0, 1) := by decide +kernel
theorem dX8_more_28 : decode cX8_more 28 = .ok (.istore_n 2, 1) := by decide +kernel
theorem dX8_more_29 : decode cX8_more 29 = .ok (.iload_n 2, 1) := by decide +kernel
theorem dX8_more_30 : decode cX8_more 30 = .ok (.iload_n 1, 1) := by decide +kernel
theorem dX8_more_31 : decode cX8_more 31 = .ok (.if_icmp .ge 16, 3) := by decide +kernel
theorem dX8_more_34 : decode cX8_more 34 = .ok (.aload_n 0, 1) := by decide +kernel
theorem dX8_more_35 : decode cX8_more 35 = .ok (.getfield 14, 3) := by decide +kernel
theorem dX8_more_38 : decode cX8_more 38 = .ok (.invokevirtual 233, 3) := by decide +kernel
theorem dX8_more_41 : decode cX8_more 41 = .ok (.iinc 2 1, 3) := by decide +kernel
theorem dX8_more_44 : decode cX8_more 44 = .ok (.goto (-15), 3) := by decide +kernel
theorem dX8_more_47 : decode cX8_more 47 = .ok (.aload_n 0, 1) := by decide +kernel
theorem dX8_more_48 : decode cX8_more 48 = .ok (.getfield 14, 3) := by decide +kernel
theorem dX8_more_51 : decode cX8_more 51 = .ok (.invokevirtual 134, 3) := by decide +kernel
theorem dX8_more_54 : decode cX8_more 54 = .ok (.invokestatic 236, 3) := by decide +kernel
theorem dX8_more_57 : decode cX8_more 57 = .ok (.ireturn, 1) := by decide +kernel
theorem dX8_reading_0 : decode cX8_reading 0 = .ok (.aload_n 0, 1) := by decide +kernel
theorem dX8_reading_1 : decode cX8_reading 1 = .ok (.getfield 14, 3) := by decide +kernel
theorem dX8_reading_4 : decode cX8_reading 4 = .ok (.iload_n 1, 1) := by decide +kernel
theorem dX8_reading_5 : decode cX8_reading 5 = .ok (.invokevirtual 109, 3) := by decide +kernel
theorem dX8_reading_8 : decode cX8_reading 8 = .ok (.ifCond .ne 5, 3) := by decide +kernel
theorem dX8_reading_11 : decode cX8_reading 11 = .ok (.iconst (-1), 1) := by decide +kernel
theorem dX8_reading_12 : decode cX8_reading 12 = .ok (.ireturn, 1) := by decide +kernel
theorem dX8_reading_13 : decode cX8_reading 13 = .ok (.iload_n 2, 1) := by decide +kernel
theorem dX8_reading_14 : decode cX8_reading 14 = .ok (.invokestatic 156, 3) := by decide +kernel
theorem dX8_reading_17 : decode cX8_reading 17 = .ok (.ifCond .ne 6, 3) := by decide +kernel
theorem dX8_reading_20 : decode cX8_reading 20 = .ok (.bipush (-2), 2) := by decide +kernel
theorem dX8_reading_22 : decode cX8_reading 22 = .ok (.ireturn, 1) := by decide +kernel
theorem dX8_reading_23 : decode cX8_reading 23 = .ok (.aload_n 0, 1) := by decide +kernel
theorem dX8_reading_24 : decode cX8_reading 24 = .ok (.getfield 59, 3) := by decide +kernel
theorem dX8_reading_27 : decode cX8_reading 27 = .ok (.iload_n 1, 1) := by decide +kernel
theorem dX8_reading_28 : decode cX8_reading 28 = .ok (.iload_n 2, 1) := by decide +kernel
theorem dX8_reading_29 : decode cX8_reading 29 = .ok (.invokevirtual 241, 3) := by decide +kernel
theorem dX8_reading_32 : decode cX8_reading 32 = .ok (.ireturn, 1) := by decide +kernel
theorem dX8_back_0 : decode cX8_back 0 = .ok (.iload_n 1, 1) := by decide +kernel
theorem dX8_back_1 : decode cX8_back 1 = .ok (.ifCond .lt 14, 3) := by decide +kernel
theorem dX8_back_4 : decode cX8_back 4 = .ok (.iload_n 1, 1) := by decide +kernel
theorem dX8_back_5 : decode cX8_back 5 = .ok (.aload_n 0, 1) := by decide +kernel
theorem dX8_back_6 : decode cX8_back 6 = .ok (.getfield 59, 3) := by decide +kernel
theorem dX8_back_9 : decode cX8_back 9 = .ok (.getfield 103, 3) := by decide +kernel
theorem dX8_back_12 : decode cX8_back 12 = .ok (.if_icmp .le 6, 3) := by decide +kernel
theorem dX8_back_15 : decode cX8_back 15 = .ok (.bipush (-2), 2) := by decide +kernel
theorem dX8_back_17 : decode cX8_back 17 = .ok (.ireturn, 1) := by decide +kernel
theorem dX8_back_18 : decode cX8_back 18 = .ok (.aload_n 0, 1) := by decide +kernel
theorem dX8_back_19 : decode cX8_back 19 = .ok (.getfield 59, 3) := by decide +kernel
theorem dX8_back_22 : decode cX8_back 22 = .ok (.dup, 1) := by decide +kernel
theorem dX8_back_23 : decode cX8_back 23 = .ok (.getfield 103, 3) := by decide +kernel
theorem dX8_back_26 : decode cX8_back 26 = .ok (.iload_n 1, 1) := by decide +kernel
theorem dX8_back_27 : decode cX8_back 27 = .ok (.isub, 1) := by decide +kernel
theorem dX8_back_28 : decode cX8_back 28 = .ok (.putfield 103, 3) := by decide +kernel
theorem dX8_back_31 : decode cX8_back 31 = .ok (.aload_n 0, 1) := by decide +kernel
theorem dX8_back_32 : decode cX8_back 32 = .ok (.getfield 59, 3) := by decide +kernel
theorem dX8_back_35 : decode cX8_back 35 = .ok (.getfield 103, 3) := by decide +kernel
theorem dX8_back_38 : decode cX8_back 38 = .ok (.ireturn, 1) := by decide +kernel
theorem dX8_kinds_0 : decode cX8_kinds 0 = .ok (.aload_n 0, 1) := by decide +kernel
theorem dX8_kinds_1 : decode cX8_kinds 1 = .ok (.getfield 14, 3) := by decide +kernel
theorem dX8_kinds_4 : decode cX8_kinds 4 = .ok (.iload_n 1, 1) := by decide +kernel
theorem dX8_kinds_5 : decode cX8_kinds 5 = .ok (.invokevirtual 109, 3) := by decide +kernel
theorem dX8_kinds_8 : decode cX8_kinds 8 = .ok (.ifCond .ne 5, 3) := by decide +kernel
theorem dX8_kinds_11 : decode cX8_kinds 11 = .ok (.iconst (-1), 1) := by decide +kernel
theorem dX8_kinds_12 : decode cX8_kinds 12 = .ok (.ireturn, 1) := by decide +kernel
theorem dX8_kinds_13 : decode cX8_kinds 13 = .ok (.aload_n 0, 1) := by decide +kernel
theorem dX8_kinds_14 : decode cX8_kinds 14 = .ok (.getfield 18, 3) := by decide +kernel
theorem dX8_kinds_17 : decode cX8_kinds 17 = .ok (.aload_n 0, 1) := by decide +kernel
theorem dX8_kinds_18 : decode cX8_kinds 18 = .ok (.getfield 14, 3) := by decide +kernel
theorem dX8_kinds_21 : decode cX8_kinds 21 = .ok (.invokevirtual 96, 3) := by decide +kernel
theorem dX8_kinds_24 : decode cX8_kinds 24 = .ok (.iconst 0, 1) := by decide +kernel
theorem dX8_kinds_25 : decode cX8_kinds 25 = .ok (.istore_n 2, 1) := by decide +kernel
theorem dX8_kinds_26 : decode cX8_kinds 26 = .ok (.iconst 0, 1) := by decide +kernel
theorem dX8_kinds_27 : decode cX8_kinds 27 = .ok (.istore_n 3, 1) := by decide +kernel
theorem dX8_kinds_28 : decode cX8_kinds 28 = .ok (.iload_n 3, 1) := by decide +kernel
theorem dX8_kinds_29 : decode cX8_kinds 29 = .ok (.iconst 2, 1) := by decide +kernel
theorem dX8_kinds_30 : decode cX8_kinds 30 = .ok (.if_icmp .gt 39, 3) := by decide +kernel
theorem dX8_kinds_33 : decode cX8_kinds 33 = .ok (.aload_n 0, 1) := by decide +kernel
theorem dX8_kinds_34 : decode cX8_kinds 34 = .ok (.getfield 18, 3) := by decide +kernel
theorem dX8_kinds_37 : decode cX8_kinds 37 = .ok (.getfield 112, 3) := by decide +kernel
theorem dX8_kinds_40 : decode cX8_kinds 40 = .ok (.iload_n 1, 1) := by decide +kernel
theorem dX8_kinds_41 : decode cX8_kinds 41 = .ok (.iload_n 3, 1) := by decide +kernel
theorem dX8_kinds_42 : decode cX8_kinds 42 = .ok (.iastore, 1) := by decide +kernel
theorem dX8_kinds_43 : decode cX8_kinds 43 = .ok (.aload_n 0, 1) := by decide +kernel
theorem dX8_kinds_44 : decode cX8_kinds 44 = .ok (.getfield 59, 3) := by decide +kernel
theorem dX8_kinds_47 : decode cX8_kinds 47 = .ok (.aload_n 0, 1) := by decide +kernel
theorem dX8_kinds_48 : decode cX8_kinds 48 = .ok (.getfield 18, 3) := by decide +kernel
theorem dX8_kinds_51 : decode cX8_kinds 51 = .ok (.invokevirtual 244, 3) := by decide +kernel
theorem dX8_kinds_54 : decode cX8_kinds 54 = .ok (.ifCond .eq 9, 3) := by decide +kernel
theorem dX8_kinds_57 : decode cX8_kinds 57 = .ok (.iload_n 2, 1) := by decide +kernel
theorem dX8_kinds_58 : decode cX8_kinds 58 = .ok (.iconst 1, 1) := by decide +kernel
theorem dX8_kinds_59 : decode cX8_kinds 59 = .ok (.iload_n 3, 1) := by decide +kernel
theorem dX8_kinds_60 : decode cX8_kinds 60 = .ok (.ishl, 1) := by decide +kernel
theorem dX8_kinds_61 : decode cX8_kinds 61 = .ok (.ior, 1) := by decide +kernel
theorem dX8_kinds_62 : decode cX8_kinds 62 = .ok (.istore_n 2, 1) := by decide +kernel
theorem dX8_kinds_63 : decode cX8_kinds 63 = .ok (.iinc 3 1, 3) := by decide +kernel
theorem dX8_kinds_66 : decode cX8_kinds 66 = .ok (.goto (-38), 3) := by decide +kernel
theorem dX8_kinds_69 : decode cX8_kinds 69 = .ok (.iload_n 2, 1) := by decide +kernel
theorem dX8_kinds_70 : decode cX8_kinds 70 = .ok (.ireturn, 1) := by decide +kernel
theorem dX8_shows_0 : decode cX8_shows 0 = .ok (.aload_n 0, 1) := by decide +kernel
theorem dX8_shows_1 : decode cX8_shows 1 = .ok (.getfield 14, 3) := by decide +kernel
theorem dX8_shows_4 : decode cX8_shows 4 = .ok (.iload_n 1, 1) := by decide +kernel
theorem dX8_shows_5 : decode cX8_shows 5 = .ok (.invokevirtual 109, 3) := by decide +kernel
theorem dX8_shows_8 : decode cX8_shows 8 = .ok (.ifCond .ne 5, 3) := by decide +kernel
theorem dX8_shows_11 : decode cX8_shows 11 = .ok (.iconst (-1), 1) := by decide +kernel
theorem dX8_shows_12 : decode cX8_shows 12 = .ok (.ireturn, 1) := by decide +kernel
theorem dX8_shows_13 : decode cX8_shows 13 = .ok (.aload_n 0, 1) := by decide +kernel
theorem dX8_shows_14 : decode cX8_shows 14 = .ok (.getfield 18, 3) := by decide +kernel
theorem dX8_shows_17 : decode cX8_shows 17 = .ok (.aload_n 0, 1) := by decide +kernel
theorem dX8_shows_18 : decode cX8_shows 18 = .ok (.getfield 14, 3) := by decide +kernel
theorem dX8_shows_21 : decode cX8_shows 21 = .ok (.invokevirtual 96, 3) := by decide +kernel
theorem dX8_shows_24 : decode cX8_shows 24 = .ok (.iconst 0, 1) := by decide +kernel
theorem dX8_shows_25 : decode cX8_shows 25 = .ok (.istore_n 2, 1) := by decide +kernel
theorem dX8_shows_26 : decode cX8_shows 26 = .ok (.iconst 0, 1) := by decide +kernel
theorem dX8_shows_27 : decode cX8_shows 27 = .ok (.istore_n 3, 1) := by decide +kernel
theorem dX8_shows_28 : decode cX8_shows 28 = .ok (.iload_n 3, 1) := by decide +kernel
theorem dX8_shows_29 : decode cX8_shows 29 = .ok (.bipush 9, 2) := by decide +kernel
theorem dX8_shows_31 : decode cX8_shows 31 = .ok (.if_icmp .gt 39, 3) := by decide +kernel
theorem dX8_shows_34 : decode cX8_shows 34 = .ok (.aload_n 0, 1) := by decide +kernel
theorem dX8_shows_35 : decode cX8_shows 35 = .ok (.getfield 18, 3) := by decide +kernel
theorem dX8_shows_38 : decode cX8_shows 38 = .ok (.getfield 119, 3) := by decide +kernel
theorem dX8_shows_41 : decode cX8_shows 41 = .ok (.iload_n 1, 1) := by decide +kernel
theorem dX8_shows_42 : decode cX8_shows 42 = .ok (.iload_n 3, 1) := by decide +kernel
theorem dX8_shows_43 : decode cX8_shows 43 = .ok (.iastore, 1) := by decide +kernel
theorem dX8_shows_44 : decode cX8_shows 44 = .ok (.aload_n 0, 1) := by decide +kernel
theorem dX8_shows_45 : decode cX8_shows 45 = .ok (.getfield 59, 3) := by decide +kernel
theorem dX8_shows_48 : decode cX8_shows 48 = .ok (.aload_n 0, 1) := by decide +kernel
theorem dX8_shows_49 : decode cX8_shows 49 = .ok (.getfield 18, 3) := by decide +kernel
theorem dX8_shows_52 : decode cX8_shows 52 = .ok (.invokevirtual 244, 3) := by decide +kernel
theorem dX8_shows_55 : decode cX8_shows 55 = .ok (.ifCond .eq 9, 3) := by decide +kernel
theorem dX8_shows_58 : decode cX8_shows 58 = .ok (.iload_n 2, 1) := by decide +kernel
theorem dX8_shows_59 : decode cX8_shows 59 = .ok (.iconst 1, 1) := by decide +kernel
theorem dX8_shows_60 : decode cX8_shows 60 = .ok (.iload_n 3, 1) := by decide +kernel
theorem dX8_shows_61 : decode cX8_shows 61 = .ok (.ishl, 1) := by decide +kernel
theorem dX8_shows_62 : decode cX8_shows 62 = .ok (.ior, 1) := by decide +kernel
theorem dX8_shows_63 : decode cX8_shows 63 = .ok (.istore_n 2, 1) := by decide +kernel
theorem dX8_shows_64 : decode cX8_shows 64 = .ok (.iinc 3 1, 3) := by decide +kernel
theorem dX8_shows_67 : decode cX8_shows 67 = .ok (.goto (-39), 3) := by decide +kernel
theorem dX8_shows_70 : decode cX8_shows 70 = .ok (.iload_n 2, 1) := by decide +kernel
theorem dX8_shows_71 : decode cX8_shows 71 = .ok (.ireturn, 1) := by decide +kernel
theorem dX8_chalks_0 : decode cX8_chalks 0 = .ok (.aload_n 0, 1) := by decide +kernel
theorem dX8_chalks_1 : decode cX8_chalks 1 = .ok (.getfield 14, 3) := by decide +kernel
theorem dX8_chalks_4 : decode cX8_chalks 4 = .ok (.invokevirtual 162, 3) := by decide +kernel
theorem dX8_chalks_7 : decode cX8_chalks 7 = .ok (.ifCond .ne 6, 3) := by decide +kernel
theorem dX8_chalks_10 : decode cX8_chalks 10 = .ok (.bipush (-3), 2) := by decide +kernel
theorem dX8_chalks_12 : decode cX8_chalks 12 = .ok (.ireturn, 1) := by decide +kernel
theorem dX8_chalks_13 : decode cX8_chalks 13 = .ok (.aload_n 0, 1) := by decide +kernel
theorem dX8_chalks_14 : decode cX8_chalks 14 = .ok (.getfield 18, 3) := by decide +kernel
theorem dX8_chalks_17 : decode cX8_chalks 17 = .ok (.aload_n 0, 1) := by decide +kernel
theorem dX8_chalks_18 : decode cX8_chalks 18 = .ok (.getfield 14, 3) := by decide +kernel
theorem dX8_chalks_21 : decode cX8_chalks 21 = .ok (.invokevirtual 96, 3) := by decide +kernel
theorem dX8_chalks_24 : decode cX8_chalks 24 = .ok (.iconst 0, 1) := by decide +kernel
theorem dX8_chalks_25 : decode cX8_chalks 25 = .ok (.istore_n 1, 1) := by decide +kernel
theorem dX8_chalks_26 : decode cX8_chalks 26 = .ok (.iconst 0, 1) := by decide +kernel
theorem dX8_chalks_27 : decode cX8_chalks 27 = .ok (.istore_n 2, 1) := by decide +kernel
theorem dX8_chalks_28 : decode cX8_chalks 28 = .ok (.iload_n 2, 1) := by decide +kernel
theorem dX8_chalks_29 : decode cX8_chalks 29 = .ok (.bipush 9, 2) := by decide +kernel
theorem dX8_chalks_31 : decode cX8_chalks 31 = .ok (.if_icmp .gt 37, 3) := by decide +kernel
theorem dX8_chalks_34 : decode cX8_chalks 34 = .ok (.aload_n 0, 1) := by decide +kernel
theorem dX8_chalks_35 : decode cX8_chalks 35 = .ok (.getfield 18, 3) := by decide +kernel
theorem dX8_chalks_38 : decode cX8_chalks 38 = .ok (.iload_n 2, 1) := by decide +kernel
theorem dX8_chalks_39 : decode cX8_chalks 39 = .ok (.putfield 169, 3) := by decide +kernel
theorem dX8_chalks_42 : decode cX8_chalks 42 = .ok (.aload_n 0, 1) := by decide +kernel
theorem dX8_chalks_43 : decode cX8_chalks 43 = .ok (.getfield 59, 3) := by decide +kernel
theorem dX8_chalks_46 : decode cX8_chalks 46 = .ok (.aload_n 0, 1) := by decide +kernel
theorem dX8_chalks_47 : decode cX8_chalks 47 = .ok (.getfield 18, 3) := by decide +kernel
theorem dX8_chalks_50 : decode cX8_chalks 50 = .ok (.invokevirtual 244, 3) := by decide +kernel
theorem dX8_chalks_53 : decode cX8_chalks 53 = .ok (.ifCond .eq 9, 3) := by decide +kernel
theorem dX8_chalks_56 : decode cX8_chalks 56 = .ok (.iload_n 1, 1) := by decide +kernel
theorem dX8_chalks_57 : decode cX8_chalks 57 = .ok (.iconst 1, 1) := by decide +kernel
theorem dX8_chalks_58 : decode cX8_chalks 58 = .ok (.iload_n 2, 1) := by decide +kernel
theorem dX8_chalks_59 : decode cX8_chalks 59 = .ok (.ishl, 1) := by decide +kernel
theorem dX8_chalks_60 : decode cX8_chalks 60 = .ok (.ior, 1) := by decide +kernel
theorem dX8_chalks_61 : decode cX8_chalks 61 = .ok (.istore_n 1, 1) := by decide +kernel
theorem dX8_chalks_62 : decode cX8_chalks 62 = .ok (.iinc 2 1, 3) := by decide +kernel
theorem dX8_chalks_65 : decode cX8_chalks 65 = .ok (.goto (-37), 3) := by decide +kernel
theorem dX8_chalks_68 : decode cX8_chalks 68 = .ok (.iload_n 1, 1) := by decide +kernel
theorem dX8_chalks_69 : decode cX8_chalks 69 = .ok (.ireturn, 1) := by decide +kernel
theorem dX8_odds_0 : decode cX8_odds 0 = .ok (.aload_n 0, 1) := by decide +kernel
theorem dX8_odds_1 : decode cX8_odds 1 = .ok (.getfield 14, 3) := by decide +kernel
theorem dX8_odds_4 : decode cX8_odds 4 = .ok (.iload_n 1, 1) := by decide +kernel
theorem dX8_odds_5 : decode cX8_odds 5 = .ok (.invokevirtual 109, 3) := by decide +kernel
theorem dX8_odds_8 : decode cX8_odds 8 = .ok (.ifCond .eq 12, 3) := by decide +kernel
theorem dX8_odds_11 : decode cX8_odds 11 = .ok (.iload_n 2, 1) := by decide +kernel
theorem dX8_odds_12 : decode cX8_odds 12 = .ok (.ifCond .lt 8, 3) := by decide +kernel
theorem dX8_odds_15 : decode cX8_odds 15 = .ok (.iload_n 2, 1) := by decide +kernel
theorem dX8_odds_16 : decode cX8_odds 16 = .ok (.iconst 1, 1) := by decide +kernel
theorem dX8_odds_17 : decode cX8_odds 17 = .ok (.if_icmp .le 7, 3) := by decide +kernel
theorem dX8_odds_20 : decode cX8_odds 20 = .ok (.ldc2_w 248, 3) := by decide +kernel
theorem dX8_odds_23 : decode cX8_odds 23 = .ok (.lreturn, 1) := by decide +kernel
theorem dX8_odds_24 : decode cX8_odds 24 = .ok (.bipush 30, 2) := by decide +kernel
theorem dX8_odds_26 : decode cX8_odds 26 = .ok (.istore_n 3, 1) := by decide +kernel
theorem dX8_odds_27 : decode cX8_odds 27 = .ok (.aload_n 0, 1) := by decide +kernel
theorem dX8_odds_28 : decode cX8_odds 28 = .ok (.iload_n 1, 1) := by decide +kernel
theorem dX8_odds_29 : decode cX8_odds 29 = .ok (.invokevirtual 250, 3) := by decide +kernel
theorem dX8_odds_32 : decode cX8_odds 32 = .ok (.istore 4, 2) := by decide +kernel
theorem dX8_odds_34 : decode cX8_odds 34 = .ok (.iload 4, 2) := by decide +kernel
theorem dX8_odds_36 : decode cX8_odds 36 = .ok (.iload_n 3, 1) := by decide +kernel
theorem dX8_odds_37 : decode cX8_odds 37 = .ok (.invokestatic 253, 3) := by decide +kernel
theorem dX8_odds_40 : decode cX8_odds 40 = .ok (.istore 5, 2) := by decide +kernel
theorem dX8_odds_42 : decode cX8_odds 42 = .ok (.iload_n 2, 1) := by decide +kernel
theorem dX8_odds_43 : decode cX8_odds 43 = .ok (.ifCond .ne 12, 3) := by decide +kernel
theorem dX8_odds_46 : decode cX8_odds 46 = .ok (.iload 4, 2) := by decide +kernel
theorem dX8_odds_48 : decode cX8_odds 48 = .ok (.iload 5, 2) := by decide +kernel
theorem dX8_odds_50 : decode cX8_odds 50 = .ok (.idiv, 1) := by decide +kernel
theorem dX8_odds_51 : decode cX8_odds 51 = .ok (.i2l, 1) := by decide +kernel
theorem dX8_odds_52 : decode cX8_odds 52 = .ok (.goto 8, 3) := by decide +kernel
theorem dX8_odds_55 : decode cX8_odds 55 = .ok (.iload_n 3, 1) := by decide +kernel
theorem dX8_odds_56 : decode cX8_odds 56 = .ok (.iload 5, 2) := by decide +kernel
theorem dX8_odds_58 : decode cX8_odds 58 = .ok (.idiv, 1) := by decide +kernel
theorem dX8_odds_59 : decode cX8_odds 59 = .ok (.i2l, 1) := by decide +kernel
theorem dX8_odds_60 : decode cX8_odds 60 = .ok (.lreturn, 1) := by decide +kernel
theorem dX8_sheet_0 : decode cX8_sheet 0 = .ok (.aload_n 0, 1) := by decide +kernel
theorem dX8_sheet_1 : decode cX8_sheet 1 = .ok (.iconst 0, 1) := by decide +kernel
theorem dX8_sheet_2 : decode cX8_sheet 2 = .ok (.putfield 74, 3) := by decide +kernel
theorem dX8_sheet_5 : decode cX8_sheet 5 = .ok (.iload_n 1, 1) := by decide +kernel
theorem dX8_sheet_6 : decode cX8_sheet 6 = .ok (.invokestatic 77, 3) := by decide +kernel
theorem dX8_sheet_9 : decode cX8_sheet 9 = .ok (.ifCond .ne 5, 3) := by decide +kernel
theorem dX8_sheet_12 : decode cX8_sheet 12 = .ok (.iconst (-1), 1) := by decide +kernel
theorem dX8_sheet_13 : decode cX8_sheet 13 = .ok (.ireturn, 1) := by decide +kernel
theorem dX8_sheet_14 : decode cX8_sheet 14 = .ok (.iload_n 2, 1) := by decide +kernel
theorem dX8_sheet_15 : decode cX8_sheet 15 = .ok (.invokestatic 81, 3) := by decide +kernel
theorem dX8_sheet_18 : decode cX8_sheet 18 = .ok (.ifCond .eq 9, 3) := by decide +kernel
theorem dX8_sheet_21 : decode cX8_sheet 21 = .ok (.iload_n 3, 1) := by decide +kernel
theorem dX8_sheet_22 : decode cX8_sheet 22 = .ok (.bipush 60, 2) := by decide +kernel
theorem dX8_sheet_24 : decode cX8_sheet 24 = .ok (.if_icmp .le 6, 3) := by decide +kernel
theorem dX8_sheet_27 : decode cX8_sheet 27 = .ok (.bipush (-2), 2) := by decide +kernel
theorem dX8_sheet_29 : decode cX8_sheet 29 = .ok (.ireturn, 1) := by decide +kernel
theorem dX8_sheet_30 : decode cX8_sheet 30 = .ok (.iload_n 3, 1) := by decide +kernel
theorem dX8_sheet_31 : decode cX8_sheet 31 = .ok (.ifCond .ge 9, 3) := by decide +kernel
theorem dX8_sheet_34 : decode cX8_sheet 34 = .ok (.aload_n 0, 1) := by decide +kernel
theorem dX8_sheet_35 : decode cX8_sheet 35 = .ok (.iconst 4, 1) := by decide +kernel
theorem dX8_sheet_36 : decode cX8_sheet 36 = .ok (.invokevirtual 88, 3) := by decide +kernel
theorem dX8_sheet_39 : decode cX8_sheet 39 = .ok (.ireturn, 1) := by decide +kernel
theorem dX8_sheet_40 : decode cX8_sheet 40 = .ok (.aload_n 0, 1) := by decide +kernel
theorem dX8_sheet_41 : decode cX8_sheet 41 = .ok (.getfield 66, 3) := by decide +kernel
theorem dX8_sheet_44 : decode cX8_sheet 44 = .ok (.iload_n 1, 1) := by decide +kernel
theorem dX8_sheet_45 : decode cX8_sheet 45 = .ok (.aaload, 1) := by decide +kernel
theorem dX8_sheet_46 : decode cX8_sheet 46 = .ok (.iload_n 2, 1) := by decide +kernel
theorem dX8_sheet_47 : decode cX8_sheet 47 = .ok (.iload_n 3, 1) := by decide +kernel
theorem dX8_sheet_48 : decode cX8_sheet 48 = .ok (.invokevirtual 256, 3) := by decide +kernel
theorem dX8_sheet_51 : decode cX8_sheet 51 = .ok (.iconst 1, 1) := by decide +kernel
theorem dX8_sheet_52 : decode cX8_sheet 52 = .ok (.ireturn, 1) := by decide +kernel
theorem dX8_lose_0 : decode cX8_lose 0 = .ok (.iload_n 1, 1) := by decide +kernel
theorem dX8_lose_1 : decode cX8_lose 1 = .ok (.invokestatic 77, 3) := by decide +kernel
theorem dX8_lose_4 : decode cX8_lose 4 = .ok (.ifCond .ne 5, 3) := by decide +kernel
theorem dX8_lose_7 : decode cX8_lose 7 = .ok (.iconst (-1), 1) := by decide +kernel
theorem dX8_lose_8 : decode cX8_lose 8 = .ok (.ireturn, 1) := by decide +kernel
theorem dX8_lose_9 : decode cX8_lose 9 = .ok (.aload_n 0, 1) := by decide +kernel
theorem dX8_lose_10 : decode cX8_lose 10 = .ok (.getfield 66, 3) := by decide +kernel
theorem dX8_lose_13 : decode cX8_lose 13 = .ok (.iload_n 1, 1) := by decide +kernel
theorem dX8_lose_14 : decode cX8_lose 14 = .ok (.aaload, 1) := by decide +kernel
theorem dX8_lose_15 : decode cX8_lose 15 = .ok (.invokevirtual 260, 3) := by decide +kernel
theorem dX8_lose_18 : decode cX8_lose 18 = .ok (.istore_n 2, 1) := by decide +kernel
theorem dX8_lose_19 : decode cX8_lose 19 = .ok (.aload_n 0, 1) := by decide +kernel
theorem dX8_lose_20 : decode cX8_lose 20 = .ok (.getfield 66, 3) := by decide +kernel
theorem dX8_lose_23 : decode cX8_lose 23 = .ok (.iload_n 1, 1) := by decide +kernel
theorem dX8_lose_24 : decode cX8_lose 24 = .ok (.aaload, 1) := by decide +kernel
theorem dX8_lose_25 : decode cX8_lose 25 = .ok (.invokevirtual 263, 3) := by decide +kernel
theorem dX8_lose_28 : decode cX8_lose 28 = .ok (.iload_n 2, 1) := by decide +kernel
theorem dX8_lose_29 : decode cX8_lose 29 = .ok (.ifCond .eq 7, 3) := by decide +kernel
theorem dX8_lose_32 : decode cX8_lose 32 = .ok (.iconst 1, 1) := by decide +kernel
theorem dX8_lose_33 : decode cX8_lose 33 = .ok (.goto 4, 3) := by decide +kernel
theorem dX8_lose_36 : decode cX8_lose 36 = .ok (.iconst 0, 1) := by decide +kernel
theorem dX8_lose_37 : decode cX8_lose 37 = .ok (.ireturn, 1) := by decide +kernel
theorem dX8_put_0 : decode cX8_put 0 = .ok (.aload_n 0, 1) := by decide +kernel
theorem dX8_put_1 : decode cX8_put 1 = .ok (.iconst 0, 1) := by decide +kernel
theorem dX8_put_2 : decode cX8_put 2 = .ok (.putfield 74, 3) := by decide +kernel
theorem dX8_put_5 : decode cX8_put 5 = .ok (.iload_n 1, 1) := by decide +kernel
theorem dX8_put_6 : decode cX8_put 6 = .ok (.invokestatic 77, 3) := by decide +kernel
theorem dX8_put_9 : decode cX8_put 9 = .ok (.ifCond .ne 5, 3) := by decide +kernel
theorem dX8_put_12 : decode cX8_put 12 = .ok (.iconst (-1), 1) := by decide +kernel
theorem dX8_put_13 : decode cX8_put 13 = .ok (.ireturn, 1) := by decide +kernel
theorem dX8_put_14 : decode cX8_put 14 = .ok (.aload_n 0, 1) := by decide +kernel
theorem dX8_put_15 : decode cX8_put 15 = .ok (.getfield 66, 3) := by decide +kernel
theorem dX8_put_18 : decode cX8_put 18 = .ok (.iload_n 1, 1) := by decide +kernel
theorem dX8_put_19 : decode cX8_put 19 = .ok (.aaload, 1) := by decide +kernel
theorem dX8_put_20 : decode cX8_put 20 = .ok (.astore 4, 2) := by decide +kernel
theorem dX8_put_22 : decode cX8_put 22 = .ok (.aload 4, 2) := by decide +kernel
theorem dX8_put_24 : decode cX8_put 24 = .ok (.invokevirtual 260, 3) := by decide +kernel
theorem dX8_put_27 : decode cX8_put 27 = .ok (.ifCond .ne 9, 3) := by decide +kernel
theorem dX8_put_30 : decode cX8_put 30 = .ok (.aload_n 0, 1) := by decide +kernel
theorem dX8_put_31 : decode cX8_put 31 = .ok (.iconst 1, 1) := by decide +kernel
theorem dX8_put_32 : decode cX8_put 32 = .ok (.invokevirtual 88, 3) := by decide +kernel
theorem dX8_put_35 : decode cX8_put 35 = .ok (.ireturn, 1) := by decide +kernel
theorem dX8_put_36 : decode cX8_put 36 = .ok (.aload 4, 2) := by decide +kernel
theorem dX8_put_38 : decode cX8_put 38 = .ok (.iload_n 2, 1) := by decide +kernel
theorem dX8_put_39 : decode cX8_put 39 = .ok (.iconst 1, 1) := by decide +kernel
theorem dX8_put_40 : decode cX8_put 40 = .ok (.invokevirtual 266, 3) := by decide +kernel
theorem dX8_put_43 : decode cX8_put 43 = .ok (.ifCond .ne 9, 3) := by decide +kernel
theorem dX8_put_46 : decode cX8_put 46 = .ok (.aload_n 0, 1) := by decide +kernel
theorem dX8_put_47 : decode cX8_put 47 = .ok (.iconst 3, 1) := by decide +kernel
theorem dX8_put_48 : decode cX8_put 48 = .ok (.invokevirtual 88, 3) := by decide +kernel
theorem dX8_put_51 : decode cX8_put 51 = .ok (.ireturn, 1) := by decide +kernel
theorem dX8_put_52 : decode cX8_put 52 = .ok (.aload 4, 2) := by decide +kernel
theorem dX8_put_54 : decode cX8_put 54 = .ok (.getfield 270, 3) := by decide +kernel
theorem dX8_put_57 : decode cX8_put 57 = .ok (.iload_n 2, 1) := by decide +kernel
theorem dX8_put_58 : decode cX8_put 58 = .ok (.aload 4, 2) := by decide +kernel
theorem dX8_put_60 : decode cX8_put 60 = .ok (.iload_n 3, 1) := by decide +kernel
theorem dX8_put_61 : decode cX8_put 61 = .ok (.invokevirtual 273, 3) := by decide +kernel
theorem dX8_put_64 : decode cX8_put 64 = .ok (.iastore, 1) := by decide +kernel
theorem dX8_put_65 : decode cX8_put 65 = .ok (.iconst 1, 1) := by decide +kernel
theorem dX8_put_66 : decode cX8_put 66 = .ok (.ireturn, 1) := by decide +kernel
theorem dX8_cell_0 : decode cX8_cell 0 = .ok (.aload_n 0, 1) := by decide +kernel
theorem dX8_cell_1 : decode cX8_cell 1 = .ok (.iconst 0, 1) := by decide +kernel
theorem dX8_cell_2 : decode cX8_cell 2 = .ok (.putfield 74, 3) := by decide +kernel
theorem dX8_cell_5 : decode cX8_cell 5 = .ok (.iload_n 1, 1) := by decide +kernel
theorem dX8_cell_6 : decode cX8_cell 6 = .ok (.invokestatic 77, 3) := by decide +kernel
theorem dX8_cell_9 : decode cX8_cell 9 = .ok (.ifCond .eq 10, 3) := by decide +kernel
theorem dX8_cell_12 : decode cX8_cell 12 = .ok (.iload_n 3, 1) := by decide +kernel
theorem dX8_cell_13 : decode cX8_cell 13 = .ok (.invokestatic 81, 3) := by decide +kernel
theorem dX8_cell_16 : decode cX8_cell 16 = .ok (.ifCond .ne 7, 3) := by decide +kernel
theorem dX8_cell_19 : decode cX8_cell 19 = .ok (.ldc2_w 248, 3) := by decide +kernel
theorem dX8_cell_22 : decode cX8_cell 22 = .ok (.lreturn, 1) := by decide +kernel
theorem dX8_cell_23 : decode cX8_cell 23 = .ok (.aload_n 0, 1) := by decide +kernel
theorem dX8_cell_24 : decode cX8_cell 24 = .ok (.aload_n 0, 1) := by decide +kernel
theorem dX8_cell_25 : decode cX8_cell 25 = .ok (.getfield 66, 3) := by decide +kernel
theorem dX8_cell_28 : decode cX8_cell 28 = .ok (.iload_n 1, 1) := by decide +kernel
theorem dX8_cell_29 : decode cX8_cell 29 = .ok (.aaload, 1) := by decide +kernel
theorem dX8_cell_30 : decode cX8_cell 30 = .ok (.iload_n 3, 1) := by decide +kernel
theorem dX8_cell_31 : decode cX8_cell 31 = .ok (.iload_n 2, 1) := by decide +kernel
theorem dX8_cell_32 : decode cX8_cell 32 = .ok (.iconst 1, 1) := by decide +kernel
theorem dX8_cell_33 : decode cX8_cell 33 = .ok (.invokevirtual 84, 3) := by decide +kernel
theorem dX8_cell_36 : decode cX8_cell 36 = .ok (.putfield 74, 3) := by decide +kernel
theorem dX8_cell_39 : decode cX8_cell 39 = .ok (.aload_n 0, 1) := by decide +kernel
theorem dX8_cell_40 : decode cX8_cell 40 = .ok (.getfield 74, 3) := by decide +kernel
theorem dX8_cell_43 : decode cX8_cell 43 = .ok (.ifCond .ne 18, 3) := by decide +kernel
theorem dX8_cell_46 : decode cX8_cell 46 = .ok (.aload_n 0, 1) := by decide +kernel
theorem dX8_cell_47 : decode cX8_cell 47 = .ok (.getfield 66, 3) := by decide +kernel
theorem dX8_cell_50 : decode cX8_cell 50 = .ok (.iload_n 1, 1) := by decide +kernel
theorem dX8_cell_51 : decode cX8_cell 51 = .ok (.aaload, 1) := by decide +kernel
theorem dX8_cell_52 : decode cX8_cell 52 = .ok (.getfield 270, 3) := by decide +kernel
theorem dX8_cell_55 : decode cX8_cell 55 = .ok (.iload_n 2, 1) := by decide +kernel
theorem dX8_cell_56 : decode cX8_cell 56 = .ok (.iaload, 1) := by decide +kernel
theorem dX8_cell_57 : decode cX8_cell 57 = .ok (.i2l, 1) := by decide +kernel
theorem dX8_cell_58 : decode cX8_cell 58 = .ok (.goto 6, 3) := by decide +kernel
theorem dX8_cell_61 : decode cX8_cell 61 = .ok (.ldc2_w 248, 3) := by decide +kernel
theorem dX8_cell_64 : decode cX8_cell 64 = .ok (.lreturn, 1) := by decide +kernel
theorem dX8_copy_0 : decode cX8_copy 0 = .ok (.aload_n 0, 1) := by decide +kernel
theorem dX8_copy_1 : decode cX8_copy 1 = .ok (.iconst 0, 1) := by decide +kernel
theorem dX8_copy_2 : decode cX8_copy 2 = .ok (.putfield 74, 3) := by decide +kernel
theorem dX8_copy_5 : decode cX8_copy 5 = .ok (.iload_n 1, 1) := by decide +kernel
theorem dX8_copy_6 : decode cX8_copy 6 = .ok (.invokestatic 77, 3) := by decide +kernel
theorem dX8_copy_9 : decode cX8_copy 9 = .ok (.ifCond .eq 10, 3) := by decide +kernel
theorem dX8_copy_12 : decode cX8_copy 12 = .ok (.iload_n 3, 1) := by decide +kernel
theorem dX8_copy_13 : decode cX8_copy 13 = .ok (.invokestatic 77, 3) := by decide +kernel
theorem dX8_copy_16 : decode cX8_copy 16 = .ok (.ifCond .ne 5, 3) := by decide +kernel
theorem dX8_copy_19 : decode cX8_copy 19 = .ok (.iconst (-1), 1) := by decide +kernel
theorem dX8_copy_20 : decode cX8_copy 20 = .ok (.ireturn, 1) := by decide +kernel
theorem dX8_copy_21 : decode cX8_copy 21 = .ok (.aload_n 0, 1) := by decide +kernel
theorem dX8_copy_22 : decode cX8_copy 22 = .ok (.getfield 66, 3) := by decide +kernel
theorem dX8_copy_25 : decode cX8_copy 25 = .ok (.iload_n 1, 1) := by decide +kernel
theorem dX8_copy_26 : decode cX8_copy 26 = .ok (.aaload, 1) := by decide +kernel
theorem dX8_copy_27 : decode cX8_copy 27 = .ok (.astore 6, 2) := by decide +kernel
theorem dX8_copy_29 : decode cX8_copy 29 = .ok (.aload_n 0, 1) := by decide +kernel
theorem dX8_copy_30 : decode cX8_copy 30 = .ok (.getfield 66, 3) := by decide +kernel
theorem dX8_copy_33 : decode cX8_copy 33 = .ok (.iload_n 3, 1) := by decide +kernel
theorem dX8_copy_34 : decode cX8_copy 34 = .ok (.aaload, 1) := by decide +kernel
theorem dX8_copy_35 : decode cX8_copy 35 = .ok (.astore 7, 2) := by decide +kernel
theorem dX8_copy_37 : decode cX8_copy 37 = .ok (.aload 6, 2) := by decide +kernel
theorem dX8_copy_39 : decode cX8_copy 39 = .ok (.invokevirtual 260, 3) := by decide +kernel
theorem dX8_copy_42 : decode cX8_copy 42 = .ok (.ifCond .eq 11, 3) := by decide +kernel
theorem dX8_copy_45 : decode cX8_copy 45 = .ok (.aload 7, 2) := by decide +kernel
theorem dX8_copy_47 : decode cX8_copy 47 = .ok (.invokevirtual 260, 3) := by decide +kernel
theorem dX8_copy_50 : decode cX8_copy 50 = .ok (.ifCond .ne 9, 3) := by decide +kernel
theorem dX8_copy_53 : decode cX8_copy 53 = .ok (.aload_n 0, 1) := by decide +kernel
theorem dX8_copy_54 : decode cX8_copy 54 = .ok (.iconst 1, 1) := by decide +kernel
theorem dX8_copy_55 : decode cX8_copy 55 = .ok (.invokevirtual 88, 3) := by decide +kernel
theorem dX8_copy_58 : decode cX8_copy 58 = .ok (.ireturn, 1) := by decide +kernel
theorem dX8_copy_59 : decode cX8_copy 59 = .ok (.aload 6, 2) := by decide +kernel
theorem dX8_copy_61 : decode cX8_copy 61 = .ok (.getfield 276, 3) := by decide +kernel
theorem dX8_copy_64 : decode cX8_copy 64 = .ok (.aload 7, 2) := by decide +kernel
theorem dX8_copy_66 : decode cX8_copy 66 = .ok (.getfield 276, 3) := by decide +kernel
theorem dX8_copy_69 : decode cX8_copy 69 = .ok (.if_icmp .eq 9, 3) := by decide +kernel
theorem dX8_copy_72 : decode cX8_copy 72 = .ok (.aload_n 0, 1) := by decide +kernel
theorem dX8_copy_73 : decode cX8_copy 73 = .ok (.iconst 2, 1) := by decide +kernel
theorem dX8_copy_74 : decode cX8_copy 74 = .ok (.invokevirtual 88, 3) := by decide +kernel
theorem dX8_copy_77 : decode cX8_copy 77 = .ok (.ireturn, 1) := by decide +kernel
theorem dX8_copy_78 : decode cX8_copy 78 = .ok (.aload 6, 2) := by decide +kernel
theorem dX8_copy_80 : decode cX8_copy 80 = .ok (.iload_n 2, 1) := by decide +kernel
theorem dX8_copy_81 : decode cX8_copy 81 = .ok (.iload 5, 2) := by decide +kernel
theorem dX8_copy_83 : decode cX8_copy 83 = .ok (.invokevirtual 266, 3) := by decide +kernel
theorem dX8_copy_86 : decode cX8_copy 86 = .ok (.ifCond .eq 15, 3) := by decide +kernel
theorem dX8_copy_89 : decode cX8_copy 89 = .ok (.aload 7, 2) := by decide +kernel
theorem dX8_copy_91 : decode cX8_copy 91 = .ok (.iload 4, 2) := by decide +kernel
theorem dX8_copy_93 : decode cX8_copy 93 = .ok (.iload 5, 2) := by decide +kernel
theorem dX8_copy_95 : decode cX8_copy 95 = .ok (.invokevirtual 266, 3) := by decide +kernel
theorem dX8_copy_98 : decode cX8_copy 98 = .ok (.ifCond .ne 9, 3) := by decide +kernel
theorem dX8_copy_101 : decode cX8_copy 101 = .ok (.aload_n 0, 1) := by decide +kernel
theorem dX8_copy_102 : decode cX8_copy 102 = .ok (.iconst 3, 1) := by decide +kernel
theorem dX8_copy_103 : decode cX8_copy 103 = .ok (.invokevirtual 88, 3) := by decide +kernel
theorem dX8_copy_106 : decode cX8_copy 106 = .ok (.ireturn, 1) := by decide +kernel
theorem dX8_copy_107 : decode cX8_copy 107 = .ok (.aload 6, 2) := by decide +kernel
theorem dX8_copy_109 : decode cX8_copy 109 = .ok (.getfield 270, 3) := by decide +kernel
theorem dX8_copy_112 : decode cX8_copy 112 = .ok (.iload_n 2, 1) := by decide +kernel
theorem dX8_copy_113 : decode cX8_copy 113 = .ok (.aload 7, 2) := by decide +kernel
theorem dX8_copy_115 : decode cX8_copy 115 = .ok (.getfield 270, 3) := by decide +kernel
theorem dX8_copy_118 : decode cX8_copy 118 = .ok (.iload 4, 2) := by decide +kernel
theorem dX8_copy_120 : decode cX8_copy 120 = .ok (.iload 5, 2) := by decide +kernel
theorem dX8_copy_122 : decode cX8_copy 122 = .ok (.invokestatic 279, 3) := by decide +kernel
theorem dX8_copy_125 : decode cX8_copy 125 = .ok (.iload 5, 2) := by decide +kernel
theorem dX8_copy_127 : decode cX8_copy 127 = .ok (.ireturn, 1) := by decide +kernel
theorem dX8_tell_0 : decode cX8_tell 0 = .ok (.aload_n 0, 1) := by decide +kernel
theorem dX8_tell_1 : decode cX8_tell 1 = .ok (.getfield 14, 3) := by decide +kernel
theorem dX8_tell_4 : decode cX8_tell 4 = .ok (.iload_n 1, 1) := by decide +kernel
theorem dX8_tell_5 : decode cX8_tell 5 = .ok (.invokevirtual 109, 3) := by decide +kernel
theorem dX8_tell_8 : decode cX8_tell 8 = .ok (.ifCond .ne 5, 3) := by decide +kernel
theorem dX8_tell_11 : decode cX8_tell 11 = .ok (.iconst (-1), 1) := by decide +kernel
theorem dX8_tell_12 : decode cX8_tell 12 = .ok (.ireturn, 1) := by decide +kernel
theorem dX8_tell_13 : decode cX8_tell 13 = .ok (.aload_n 0, 1) := by decide +kernel
theorem dX8_tell_14 : decode cX8_tell 14 = .ok (.getfield 14, 3) := by decide +kernel
theorem dX8_tell_17 : decode cX8_tell 17 = .ok (.getfield 112, 3) := by decide +kernel
theorem dX8_tell_20 : decode cX8_tell 20 = .ok (.iload_n 1, 1) := by decide +kernel
theorem dX8_tell_21 : decode cX8_tell 21 = .ok (.iaload, 1) := by decide +kernel
theorem dX8_tell_22 : decode cX8_tell 22 = .ok (.iconst 2, 1) := by decide +kernel
theorem dX8_tell_23 : decode cX8_tell 23 = .ok (.if_icmp .ne 9, 3) := by decide +kernel
theorem dX8_tell_26 : decode cX8_tell 26 = .ok (.aload_n 0, 1) := by decide +kernel
theorem dX8_tell_27 : decode cX8_tell 27 = .ok (.iload_n 1, 1) := by decide +kernel
theorem dX8_tell_28 : decode cX8_tell 28 = .ok (.invokevirtual 285, 3) := by decide +kernel
theorem dX8_tell_31 : decode cX8_tell 31 = .ok (.ireturn, 1) := by decide +kernel
theorem dX8_tell_32 : decode cX8_tell 32 = .ok (.aload_n 0, 1) := by decide +kernel
theorem dX8_tell_33 : decode cX8_tell 33 = .ok (.getfield 14, 3) := by decide +kernel
theorem dX8_tell_36 : decode cX8_tell 36 = .ok (.getfield 112, 3) := by decide +kernel
theorem dX8_tell_39 : decode cX8_tell 39 = .ok (.iload_n 1, 1) := by decide +kernel
theorem dX8_tell_40 : decode cX8_tell 40 = .ok (.iaload, 1) := by decide +kernel
theorem dX8_tell_41 : decode cX8_tell 41 = .ok (.iconst 1, 1) := by decide +kernel
theorem dX8_tell_42 : decode cX8_tell 42 = .ok (.if_icmp .ne 11, 3) := by decide +kernel
theorem dX8_tell_45 : decode cX8_tell 45 = .ok (.aload_n 0, 1) := by decide +kernel
theorem dX8_tell_46 : decode cX8_tell 46 = .ok (.iload_n 1, 1) := by decide +kernel
theorem dX8_tell_47 : decode cX8_tell 47 = .ok (.invokevirtual 288, 3) := by decide +kernel
theorem dX8_tell_50 : decode cX8_tell 50 = .ok (.goto 8, 3) := by decide +kernel
theorem dX8_tell_53 : decode cX8_tell 53 = .ok (.aload_n 0, 1) := by decide +kernel
theorem dX8_tell_54 : decode cX8_tell 54 = .ok (.iload_n 1, 1) := by decide +kernel
theorem dX8_tell_55 : decode cX8_tell 55 = .ok (.invokevirtual 291, 3) := by decide +kernel
theorem dX8_tell_58 : decode cX8_tell 58 = .ok (.ireturn, 1) := by decide +kernel
theorem dX8_greet_0 : decode cX8_greet 0 = .ok (.aload_n 0, 1) := by decide +kernel
theorem dX8_greet_1 : decode cX8_greet 1 = .ok (.getfield 14, 3) := by decide +kernel
theorem dX8_greet_4 : decode cX8_greet 4 = .ok (.iload_n 1, 1) := by decide +kernel
theorem dX8_greet_5 : decode cX8_greet 5 = .ok (.invokevirtual 109, 3) := by decide +kernel
theorem dX8_greet_8 : decode cX8_greet 8 = .ok (.ifCond .ne 5, 3) := by decide +kernel
theorem dX8_greet_11 : decode cX8_greet 11 = .ok (.iconst (-1), 1) := by decide +kernel
theorem dX8_greet_12 : decode cX8_greet 12 = .ok (.ireturn, 1) := by decide +kernel
theorem dX8_greet_13 : decode cX8_greet 13 = .ok (.aload_n 0, 1) := by decide +kernel
theorem dX8_greet_14 : decode cX8_greet 14 = .ok (.getfield 14, 3) := by decide +kernel
theorem dX8_greet_17 : decode cX8_greet 17 = .ok (.getfield 112, 3) := by decide +kernel
theorem dX8_greet_20 : decode cX8_greet 20 = .ok (.iload_n 1, 1) := by decide +kernel
theorem dX8_greet_21 : decode cX8_greet 21 = .ok (.iaload, 1) := by decide +kernel
theorem dX8_greet_22 : decode cX8_greet 22 = .ok (.iconst 2, 1) := by decide +kernel
theorem dX8_greet_23 : decode cX8_greet 23 = .ok (.if_icmp .ne 10, 3) := by decide +kernel
theorem dX8_greet_26 : decode cX8_greet 26 = .ok (.aload_n 0, 1) := by decide +kernel
theorem dX8_greet_27 : decode cX8_greet 27 = .ok (.invokevirtual 294, 3) := by decide +kernel
theorem dX8_greet_30 : decode cX8_greet 30 = .ok (.goto 8, 3) := by decide +kernel
theorem dX8_greet_33 : decode cX8_greet 33 = .ok (.aload_n 0, 1) := by decide +kernel
theorem dX8_greet_34 : decode cX8_greet 34 = .ok (.iload_n 1, 1) := by decide +kernel
theorem dX8_greet_35 : decode cX8_greet 35 = .ok (.invokevirtual 297, 3) := by decide +kernel
theorem dX8_greet_38 : decode cX8_greet 38 = .ok (.ireturn, 1) := by decide +kernel
theorem dX8_as_0 : decode cX8_as 0 = .ok (.aload_n 0, 1) := by decide +kernel
theorem dX8_as_1 : decode cX8_as 1 = .ok (.iconst 0, 1) := by decide +kernel
theorem dX8_as_2 : decode cX8_as 2 = .ok (.putfield 74, 3) := by decide +kernel
theorem dX8_as_5 : decode cX8_as 5 = .ok (.aload_n 0, 1) := by decide +kernel
theorem dX8_as_6 : decode cX8_as 6 = .ok (.getfield 14, 3) := by decide +kernel
theorem dX8_as_9 : decode cX8_as 9 = .ok (.iload_n 1, 1) := by decide +kernel
theorem dX8_as_10 : decode cX8_as 10 = .ok (.invokevirtual 109, 3) := by decide +kernel
theorem dX8_as_13 : decode cX8_as 13 = .ok (.ifCond .ne 5, 3) := by decide +kernel
theorem dX8_as_16 : decode cX8_as 16 = .ok (.iconst (-1), 1) := by decide +kernel
theorem dX8_as_17 : decode cX8_as 17 = .ok (.ireturn, 1) := by decide +kernel
theorem dX8_as_18 : decode cX8_as 18 = .ok (.iload_n 2, 1) := by decide +kernel
theorem dX8_as_19 : decode cX8_as 19 = .ok (.ifCond .lt 8, 3) := by decide +kernel
theorem dX8_as_22 : decode cX8_as 22 = .ok (.iload_n 2, 1) := by decide +kernel
theorem dX8_as_23 : decode cX8_as 23 = .ok (.iconst 2, 1) := by decide +kernel
theorem dX8_as_24 : decode cX8_as 24 = .ok (.if_icmp .le 6, 3) := by decide +kernel
theorem dX8_as_27 : decode cX8_as 27 = .ok (.bipush (-2), 2) := by decide +kernel
theorem dX8_as_29 : decode cX8_as 29 = .ok (.ireturn, 1) := by decide +kernel
theorem dX8_as_30 : decode cX8_as 30 = .ok (.aload_n 0, 1) := by decide +kernel
theorem dX8_as_31 : decode cX8_as 31 = .ok (.getfield 14, 3) := by decide +kernel
theorem dX8_as_34 : decode cX8_as 34 = .ok (.getfield 112, 3) := by decide +kernel
theorem dX8_as_37 : decode cX8_as 37 = .ok (.iload_n 1, 1) := by decide +kernel
theorem dX8_as_38 : decode cX8_as 38 = .ok (.iaload, 1) := by decide +kernel
theorem dX8_as_39 : decode cX8_as 39 = .ok (.iload_n 2, 1) := by decide +kernel
theorem dX8_as_40 : decode cX8_as 40 = .ok (.if_icmp .lt 7, 3) := by decide +kernel
theorem dX8_as_43 : decode cX8_as 43 = .ok (.iconst 1, 1) := by decide +kernel
theorem dX8_as_44 : decode cX8_as 44 = .ok (.goto 8, 3) := by decide +kernel
theorem dX8_as_47 : decode cX8_as 47 = .ok (.aload_n 0, 1) := by decide +kernel
theorem dX8_as_48 : decode cX8_as 48 = .ok (.iconst 2, 1) := by decide +kernel
theorem dX8_as_49 : decode cX8_as 49 = .ok (.invokevirtual 88, 3) := by decide +kernel
theorem dX8_as_52 : decode cX8_as 52 = .ok (.ireturn, 1) := by decide +kernel
theorem dX8_trace_0 : decode cX8_trace 0 = .ok (.aload_n 0, 1) := by decide +kernel
theorem dX8_trace_1 : decode cX8_trace 1 = .ok (.getfield 70, 3) := by decide +kernel
theorem dX8_trace_4 : decode cX8_trace 4 = .ok (.ireturn, 1) := by decide +kernel
theorem dX8_fault_0 : decode cX8_fault 0 = .ok (.aload_n 0, 1) := by decide +kernel
theorem dX8_fault_1 : decode cX8_fault 1 = .ok (.getfield 74, 3) := by decide +kernel
theorem dX8_fault_4 : decode cX8_fault 4 = .ok (.ireturn, 1) := by decide +kernel
theorem dX8_many_0 : decode cX8_many 0 = .ok (.iload_n 1, 1) := by decide +kernel
theorem dX8_many_1 : decode cX8_many 1 = .ok (.tableswitch 102 0 6 #[43, 51, 59, 70, 78, 86, 94], 43) := by decide +kernel
theorem dX8_many_44 : decode cX8_many 44 = .ok (.aload_n 0, 1) := by decide +kernel
theorem dX8_many_45 : decode cX8_many 45 = .ok (.getfield 14, 3) := by decide +kernel
theorem dX8_many_48 : decode cX8_many 48 = .ok (.getfield 208, 3) := by decide +kernel
theorem dX8_many_51 : decode cX8_many 51 = .ok (.ireturn, 1) := by decide +kernel
theorem dX8_many_52 : decode cX8_many 52 = .ok (.aload_n 0, 1) := by decide +kernel
theorem dX8_many_53 : decode cX8_many 53 = .ok (.getfield 14, 3) := by decide +kernel
theorem dX8_many_56 : decode cX8_many 56 = .ok (.getfield 106, 3) := by decide +kernel
theorem dX8_many_59 : decode cX8_many 59 = .ok (.ireturn, 1) := by decide +kernel
theorem dX8_many_60 : decode cX8_many 60 = .ok (.aload_n 0, 1) := by decide +kernel
theorem dX8_many_61 : decode cX8_many 61 = .ok (.getfield 14, 3) := by decide +kernel
theorem dX8_many_64 : decode cX8_many 64 = .ok (.invokevirtual 134, 3) := by decide +kernel
theorem dX8_many_67 : decode cX8_many 67 = .ok (.invokestatic 236, 3) := by decide +kernel
theorem dX8_many_70 : decode cX8_many 70 = .ok (.ireturn, 1) := by decide +kernel
theorem dX8_many_71 : decode cX8_many 71 = .ok (.aload_n 0, 1) := by decide +kernel
theorem dX8_many_72 : decode cX8_many 72 = .ok (.getfield 14, 3) := by decide +kernel
theorem dX8_many_75 : decode cX8_many 75 = .ok (.invokevirtual 300, 3) := by decide +kernel
theorem dX8_many_78 : decode cX8_many 78 = .ok (.ireturn, 1) := by decide +kernel
theorem dX8_many_79 : decode cX8_many 79 = .ok (.aload_n 0, 1) := by decide +kernel
theorem dX8_many_80 : decode cX8_many 80 = .ok (.getfield 59, 3) := by decide +kernel
theorem dX8_many_83 : decode cX8_many 83 = .ok (.getfield 103, 3) := by decide +kernel
theorem dX8_many_86 : decode cX8_many 86 = .ok (.ireturn, 1) := by decide +kernel
theorem dX8_many_87 : decode cX8_many 87 = .ok (.aload_n 0, 1) := by decide +kernel
theorem dX8_many_88 : decode cX8_many 88 = .ok (.getfield 14, 3) := by decide +kernel
theorem dX8_many_91 : decode cX8_many 91 = .ok (.getfield 166, 3) := by decide +kernel
theorem dX8_many_94 : decode cX8_many 94 = .ok (.ireturn, 1) := by decide +kernel
theorem dX8_many_95 : decode cX8_many 95 = .ok (.aload_n 0, 1) := by decide +kernel
theorem dX8_many_96 : decode cX8_many 96 = .ok (.getfield 14, 3) := by decide +kernel
theorem dX8_many_99 : decode cX8_many 99 = .ok (.getfield 169, 3) := by decide +kernel
theorem dX8_many_102 : decode cX8_many 102 = .ok (.ireturn, 1) := by decide +kernel
theorem dX8_many_103 : decode cX8_many 103 = .ok (.bipush (-2), 2) := by decide +kernel
theorem dX8_many_105 : decode cX8_many 105 = .ok (.ireturn, 1) := by decide +kernel
theorem dX8_faulted_0 : decode cX8_faulted 0 = .ok (.aload_n 0, 1) := by decide +kernel
theorem dX8_faulted_1 : decode cX8_faulted 1 = .ok (.iload_n 1, 1) := by decide +kernel
theorem dX8_faulted_2 : decode cX8_faulted 2 = .ok (.putfield 74, 3) := by decide +kernel
theorem dX8_faulted_5 : decode cX8_faulted 5 = .ok (.bipush (-10), 2) := by decide +kernel
theorem dX8_faulted_7 : decode cX8_faulted 7 = .ok (.iload_n 1, 1) := by decide +kernel
theorem dX8_faulted_8 : decode cX8_faulted 8 = .ok (.isub, 1) := by decide +kernel
theorem dX8_faulted_9 : decode cX8_faulted 9 = .ok (.ireturn, 1) := by decide +kernel
theorem dX8_isSheet_0 : decode cX8_isSheet 0 = .ok (.iload_n 0, 1) := by decide +kernel
theorem dX8_isSheet_1 : decode cX8_isSheet 1 = .ok (.ifCond .lt 12, 3) := by decide +kernel
theorem dX8_isSheet_4 : decode cX8_isSheet 4 = .ok (.iload_n 0, 1) := by decide +kernel
theorem dX8_isSheet_5 : decode cX8_isSheet 5 = .ok (.iconst 4, 1) := by decide +kernel
theorem dX8_isSheet_6 : decode cX8_isSheet 6 = .ok (.if_icmp .ge 7, 3) := by decide +kernel
theorem dX8_isSheet_9 : decode cX8_isSheet 9 = .ok (.iconst 1, 1) := by decide +kernel
theorem dX8_isSheet_10 : decode cX8_isSheet 10 = .ok (.goto 4, 3) := by decide +kernel
theorem dX8_isSheet_13 : decode cX8_isSheet 13 = .ok (.iconst 0, 1) := by decide +kernel
theorem dX8_isSheet_14 : decode cX8_isSheet 14 = .ok (.ireturn, 1) := by decide +kernel
theorem dX8_isLane_0 : decode cX8_isLane 0 = .ok (.iload_n 0, 1) := by decide +kernel
theorem dX8_isLane_1 : decode cX8_isLane 1 = .ok (.ifCond .lt 12, 3) := by decide +kernel
theorem dX8_isLane_4 : decode cX8_isLane 4 = .ok (.iload_n 0, 1) := by decide +kernel
theorem dX8_isLane_5 : decode cX8_isLane 5 = .ok (.iconst 2, 1) := by decide +kernel
theorem dX8_isLane_6 : decode cX8_isLane 6 = .ok (.if_icmp .gt 7, 3) := by decide +kernel
theorem dX8_isLane_9 : decode cX8_isLane 9 = .ok (.iconst 1, 1) := by decide +kernel
theorem dX8_isLane_10 : decode cX8_isLane 10 = .ok (.goto 4, 3) := by decide +kernel
theorem dX8_isLane_13 : decode cX8_isLane 13 = .ok (.iconst 0, 1) := by decide +kernel
theorem dX8_isLane_14 : decode cX8_isLane 14 = .ok (.ireturn, 1) := by decide +kernel
theorem dX8_isDigit_0 : decode cX8_isDigit 0 = .ok (.iload_n 0, 1) := by decide +kernel
theorem dX8_isDigit_1 : decode cX8_isDigit 1 = .ok (.ifCond .lt 13, 3) := by decide +kernel
theorem dX8_isDigit_4 : decode cX8_isDigit 4 = .ok (.iload_n 0, 1) := by decide +kernel
theorem dX8_isDigit_5 : decode cX8_isDigit 5 = .ok (.bipush 9, 2) := by decide +kernel
theorem dX8_isDigit_7 : decode cX8_isDigit 7 = .ok (.if_icmp .gt 7, 3) := by decide +kernel
theorem dX8_isDigit_10 : decode cX8_isDigit 10 = .ok (.iconst 1, 1) := by decide +kernel
theorem dX8_isDigit_11 : decode cX8_isDigit 11 = .ok (.goto 4, 3) := by decide +kernel
theorem dX8_isDigit_14 : decode cX8_isDigit 14 = .ok (.iconst 0, 1) := by decide +kernel
theorem dX8_isDigit_15 : decode cX8_isDigit 15 = .ok (.ireturn, 1) := by decide +kernel
theorem dX8_isManner_0 : decode cX8_isManner 0 = .ok (.iload_n 0, 1) := by decide +kernel
theorem dX8_isManner_1 : decode cX8_isManner 1 = .ok (.ifCond .lt 12, 3) := by decide +kernel
theorem dX8_isManner_4 : decode cX8_isManner 4 = .ok (.iload_n 0, 1) := by decide +kernel
theorem dX8_isManner_5 : decode cX8_isManner 5 = .ok (.iconst 2, 1) := by decide +kernel
theorem dX8_isManner_6 : decode cX8_isManner 6 = .ok (.if_icmp .gt 7, 3) := by decide +kernel
theorem dX8_isManner_9 : decode cX8_isManner 9 = .ok (.iconst 1, 1) := by decide +kernel
theorem dX8_isManner_10 : decode cX8_isManner 10 = .ok (.goto 4, 3) := by decide +kernel
theorem dX8_isManner_13 : decode cX8_isManner 13 = .ok (.iconst 0, 1) := by decide +kernel
theorem dX8_isManner_14 : decode cX8_isManner 14 = .ok (.ireturn, 1) := by decide +kernel
theorem dX8_isAskedOfDay_0 : decode cX8_isAskedOfDay 0 = .ok (.iload_n 0, 1) := by decide +kernel
theorem dX8_isAskedOfDay_1 : decode cX8_isAskedOfDay 1 = .ok (.ifCond .lt 8, 3) := by decide +kernel
theorem dX8_isAskedOfDay_4 : decode cX8_isAskedOfDay 4 = .ok (.iload_n 0, 1) := by decide +kernel
theorem dX8_isAskedOfDay_5 : decode cX8_isAskedOfDay 5 = .ok (.iconst 4, 1) := by decide +kernel
theorem dX8_isAskedOfDay_6 : decode cX8_isAskedOfDay 6 = .ok (.if_icmp .le 15, 3) := by decide +kernel
theorem dX8_isAskedOfDay_9 : decode cX8_isAskedOfDay 9 = .ok (.iload_n 0, 1) := by decide +kernel
theorem dX8_isAskedOfDay_10 : decode cX8_isAskedOfDay 10 = .ok (.bipush 10, 2) := by decide +kernel
theorem dX8_isAskedOfDay_12 : decode cX8_isAskedOfDay 12 = .ok (.if_icmp .lt 13, 3) := by decide +kernel
theorem dX8_isAskedOfDay_15 : decode cX8_isAskedOfDay 15 = .ok (.iload_n 0, 1) := by decide +kernel
theorem dX8_isAskedOfDay_16 : decode cX8_isAskedOfDay 16 = .ok (.bipush 16, 2) := by decide +kernel
theorem dX8_isAskedOfDay_18 : decode cX8_isAskedOfDay 18 = .ok (.if_icmp .ge 7, 3) := by decide +kernel
theorem dX8_isAskedOfDay_21 : decode cX8_isAskedOfDay 21 = .ok (.iconst 1, 1) := by decide +kernel
theorem dX8_isAskedOfDay_22 : decode cX8_isAskedOfDay 22 = .ok (.goto 4, 3) := by decide +kernel
theorem dX8_isAskedOfDay_25 : decode cX8_isAskedOfDay 25 = .ok (.iconst 0, 1) := by decide +kernel
theorem dX8_isAskedOfDay_26 : decode cX8_isAskedOfDay 26 = .ok (.ireturn, 1) := by decide +kernel
theorem dX8_arePairsAsTold_0 : decode cX8_arePairsAsTold 0 = .ok (.iconst 0, 1) := by decide +kernel
theorem dX8_arePairsAsTold_1 : decode cX8_arePairsAsTold 1 = .ok (.istore_n 3, 1) := by decide +kernel
theorem dX8_arePairsAsTold_2 : decode cX8_arePairsAsTold 2 = .ok (.iload_n 3, 1) := by decide +kernel
theorem dX8_arePairsAsTold_3 : decode cX8_arePairsAsTold 3 = .ok (.iload_n 2, 1) := by decide +kernel
theorem dX8_arePairsAsTold_4 : decode cX8_arePairsAsTold 4 = .ok (.if_icmp .ge 48, 3) := by decide +kernel
theorem dX8_arePairsAsTold_7 : decode cX8_arePairsAsTold 7 = .ok (.aload_n 0, 1) := by decide +kernel
theorem dX8_arePairsAsTold_8 : decode cX8_arePairsAsTold 8 = .ok (.getfield 270, 3) := by decide +kernel
theorem dX8_arePairsAsTold_11 : decode cX8_arePairsAsTold 11 = .ok (.iload_n 1, 1) := by decide +kernel
theorem dX8_arePairsAsTold_12 : decode cX8_arePairsAsTold 12 = .ok (.iconst 2, 1) := by decide +kernel
theorem dX8_arePairsAsTold_13 : decode cX8_arePairsAsTold 13 = .ok (.iload_n 3, 1) := by decide +kernel
theorem dX8_arePairsAsTold_14 : decode cX8_arePairsAsTold 14 = .ok (.imul, 1) := by decide +kernel
theorem dX8_arePairsAsTold_15 : decode cX8_arePairsAsTold 15 = .ok (.iadd, 1) := by decide +kernel
theorem dX8_arePairsAsTold_16 : decode cX8_arePairsAsTold 16 = .ok (.iaload, 1) := by decide +kernel
theorem dX8_arePairsAsTold_17 : decode cX8_arePairsAsTold 17 = .ok (.istore 4, 2) := by decide +kernel
theorem dX8_arePairsAsTold_19 : decode cX8_arePairsAsTold 19 = .ok (.iload 4, 2) := by decide +kernel
theorem dX8_arePairsAsTold_21 : decode cX8_arePairsAsTold 21 = .ok (.ifCond .lt 23, 3) := by decide +kernel
theorem dX8_arePairsAsTold_24 : decode cX8_arePairsAsTold 24 = .ok (.iload 4, 2) := by decide +kernel
theorem dX8_arePairsAsTold_26 : decode cX8_arePairsAsTold 26 = .ok (.aload_n 0, 1) := by decide +kernel
theorem dX8_arePairsAsTold_27 : decode cX8_arePairsAsTold 27 = .ok (.getfield 270, 3) := by decide +kernel
theorem dX8_arePairsAsTold_30 : decode cX8_arePairsAsTold 30 = .ok (.iload_n 1, 1) := by decide +kernel
theorem dX8_arePairsAsTold_31 : decode cX8_arePairsAsTold 31 = .ok (.iconst 2, 1) := by decide +kernel
theorem dX8_arePairsAsTold_32 : decode cX8_arePairsAsTold 32 = .ok (.iload_n 3, 1) := by decide +kernel
theorem dX8_arePairsAsTold_33 : decode cX8_arePairsAsTold 33 = .ok (.imul, 1) := by decide +kernel
theorem dX8_arePairsAsTold_34 : decode cX8_arePairsAsTold 34 = .ok (.iadd, 1) := by decide +kernel
theorem dX8_arePairsAsTold_35 : decode cX8_arePairsAsTold 35 = .ok (.iconst 1, 1) := by decide +kernel
theorem dX8_arePairsAsTold_36 : decode cX8_arePairsAsTold 36 = .ok (.iadd, 1) := by decide +kernel
theorem dX8_arePairsAsTold_37 : decode cX8_arePairsAsTold 37 = .ok (.iaload, 1) := by decide +kernel
theorem dX8_arePairsAsTold_38 : decode cX8_arePairsAsTold 38 = .ok (.invokestatic 303, 3) := by decide +kernel
theorem dX8_arePairsAsTold_41 : decode cX8_arePairsAsTold 41 = .ok (.if_icmp .le 5, 3) := by decide +kernel
theorem dX8_arePairsAsTold_44 : decode cX8_arePairsAsTold 44 = .ok (.iconst 0, 1) := by decide +kernel
theorem dX8_arePairsAsTold_45 : decode cX8_arePairsAsTold 45 = .ok (.ireturn, 1) := by decide +kernel
theorem dX8_arePairsAsTold_46 : decode cX8_arePairsAsTold 46 = .ok (.iinc 3 1, 3) := by decide +kernel
theorem dX8_arePairsAsTold_49 : decode cX8_arePairsAsTold 49 = .ok (.goto (-47), 3) := by decide +kernel
theorem dX8_arePairsAsTold_52 : decode cX8_arePairsAsTold 52 = .ok (.iconst 1, 1) := by decide +kernel
theorem dX8_arePairsAsTold_53 : decode cX8_arePairsAsTold 53 = .ok (.ireturn, 1) := by decide +kernel
theorem dX8_playDay_0 : decode cX8_playDay 0 = .ok (.aload_n 0, 1) := by decide +kernel
theorem dX8_playDay_1 : decode cX8_playDay 1 = .ok (.getfield 18, 3) := by decide +kernel
theorem dX8_playDay_4 : decode cX8_playDay 4 = .ok (.aload_n 0, 1) := by decide +kernel
theorem dX8_playDay_5 : decode cX8_playDay 5 = .ok (.getfield 14, 3) := by decide +kernel
theorem dX8_playDay_8 : decode cX8_playDay 8 = .ok (.invokevirtual 96, 3) := by decide +kernel
theorem dX8_playDay_11 : decode cX8_playDay 11 = .ok (.iconst 0, 1) := by decide +kernel
theorem dX8_playDay_12 : decode cX8_playDay 12 = .ok (.istore 4, 2) := by decide +kernel
theorem dX8_playDay_14 : decode cX8_playDay 14 = .ok (.iload 4, 2) := by decide +kernel
theorem dX8_playDay_16 : decode cX8_playDay 16 = .ok (.iload_n 3, 1) := by decide +kernel
theorem dX8_playDay_17 : decode cX8_playDay 17 = .ok (.if_icmp .ge 46, 3) := by decide +kernel
theorem dX8_playDay_20 : decode cX8_playDay 20 = .ok (.aload_n 0, 1) := by decide +kernel
theorem dX8_playDay_21 : decode cX8_playDay 21 = .ok (.getfield 18, 3) := by decide +kernel
theorem dX8_playDay_24 : decode cX8_playDay 24 = .ok (.aload_n 1, 1) := by decide +kernel
theorem dX8_playDay_25 : decode cX8_playDay 25 = .ok (.getfield 270, 3) := by decide +kernel
theorem dX8_playDay_28 : decode cX8_playDay 28 = .ok (.iload_n 2, 1) := by decide +kernel
theorem dX8_playDay_29 : decode cX8_playDay 29 = .ok (.iconst 2, 1) := by decide +kernel
theorem dX8_playDay_30 : decode cX8_playDay 30 = .ok (.iload 4, 2) := by decide +kernel
theorem dX8_playDay_32 : decode cX8_playDay 32 = .ok (.imul, 1) := by decide +kernel
theorem dX8_playDay_33 : decode cX8_playDay 33 = .ok (.iadd, 1) := by decide +kernel
theorem dX8_playDay_34 : decode cX8_playDay 34 = .ok (.iconst 1, 1) := by decide +kernel
theorem dX8_playDay_35 : decode cX8_playDay 35 = .ok (.iadd, 1) := by decide +kernel
theorem dX8_playDay_36 : decode cX8_playDay 36 = .ok (.iaload, 1) := by decide +kernel
theorem dX8_playDay_37 : decode cX8_playDay 37 = .ok (.aload_n 1, 1) := by decide +kernel
theorem dX8_playDay_38 : decode cX8_playDay 38 = .ok (.getfield 270, 3) := by decide +kernel
theorem dX8_playDay_41 : decode cX8_playDay 41 = .ok (.iload_n 2, 1) := by decide +kernel
theorem dX8_playDay_42 : decode cX8_playDay 42 = .ok (.iconst 2, 1) := by decide +kernel
theorem dX8_playDay_43 : decode cX8_playDay 43 = .ok (.iload 4, 2) := by decide +kernel
theorem dX8_playDay_45 : decode cX8_playDay 45 = .ok (.imul, 1) := by decide +kernel
theorem dX8_playDay_46 : decode cX8_playDay 46 = .ok (.iadd, 1) := by decide +kernel
theorem dX8_playDay_47 : decode cX8_playDay 47 = .ok (.iaload, 1) := by decide +kernel
theorem dX8_playDay_48 : decode cX8_playDay 48 = .ok (.invokevirtual 306, 3) := by decide +kernel
theorem dX8_playDay_51 : decode cX8_playDay 51 = .ok (.ifCond .ne 6, 3) := by decide +kernel
theorem dX8_playDay_54 : decode cX8_playDay 54 = .ok (.iload 4, 2) := by decide +kernel
theorem dX8_playDay_56 : decode cX8_playDay 56 = .ok (.ireturn, 1) := by decide +kernel
theorem dX8_playDay_57 : decode cX8_playDay 57 = .ok (.iinc 4 1, 3) := by decide +kernel
theorem dX8_playDay_60 : decode cX8_playDay 60 = .ok (.goto (-46), 3) := by decide +kernel
theorem dX8_playDay_63 : decode cX8_playDay 63 = .ok (.bipush (-9), 2) := by decide +kernel
theorem dX8_playDay_65 : decode cX8_playDay 65 = .ok (.ireturn, 1) := by decide +kernel
theorem dX8_ofDayPlayed_0 : decode cX8_ofDayPlayed 0 = .ok (.iload_n 1, 1) := by decide +kernel
theorem dX8_ofDayPlayed_1 : decode cX8_ofDayPlayed 1 = .ok (.tableswitch 67 0 4 #[35, 67, 43, 51, 59], 35) := by decide +kernel
theorem dX8_ofDayPlayed_36 : decode cX8_ofDayPlayed 36 = .ok (.aload_n 0, 1) := by decide +kernel
theorem dX8_ofDayPlayed_37 : decode cX8_ofDayPlayed 37 = .ok (.getfield 18, 3) := by decide +kernel
theorem dX8_ofDayPlayed_40 : decode cX8_ofDayPlayed 40 = .ok (.invokevirtual 309, 3) := by decide +kernel
theorem dX8_ofDayPlayed_43 : decode cX8_ofDayPlayed 43 = .ok (.ireturn, 1) := by decide +kernel
theorem dX8_ofDayPlayed_44 : decode cX8_ofDayPlayed 44 = .ok (.aload_n 0, 1) := by decide +kernel
theorem dX8_ofDayPlayed_45 : decode cX8_ofDayPlayed 45 = .ok (.getfield 18, 3) := by decide +kernel
theorem dX8_ofDayPlayed_48 : decode cX8_ofDayPlayed 48 = .ok (.invokevirtual 134, 3) := by decide +kernel
theorem dX8_ofDayPlayed_51 : decode cX8_ofDayPlayed 51 = .ok (.ireturn, 1) := by decide +kernel
theorem dX8_ofDayPlayed_52 : decode cX8_ofDayPlayed 52 = .ok (.aload_n 0, 1) := by decide +kernel
theorem dX8_ofDayPlayed_53 : decode cX8_ofDayPlayed 53 = .ok (.getfield 18, 3) := by decide +kernel
theorem dX8_ofDayPlayed_56 : decode cX8_ofDayPlayed 56 = .ok (.invokevirtual 312, 3) := by decide +kernel
theorem dX8_ofDayPlayed_59 : decode cX8_ofDayPlayed 59 = .ok (.ireturn, 1) := by decide +kernel
theorem dX8_ofDayPlayed_60 : decode cX8_ofDayPlayed 60 = .ok (.aload_n 0, 1) := by decide +kernel
theorem dX8_ofDayPlayed_61 : decode cX8_ofDayPlayed 61 = .ok (.getfield 18, 3) := by decide +kernel
theorem dX8_ofDayPlayed_64 : decode cX8_ofDayPlayed 64 = .ok (.invokevirtual 315, 3) := by decide +kernel
theorem dX8_ofDayPlayed_67 : decode cX8_ofDayPlayed 67 = .ok (.ireturn, 1) := by decide +kernel
theorem dX8_ofDayPlayed_68 : decode cX8_ofDayPlayed 68 = .ok (.aload_n 0, 1) := by decide +kernel
theorem dX8_ofDayPlayed_69 : decode cX8_ofDayPlayed 69 = .ok (.getfield 18, 3) := by decide +kernel
theorem dX8_ofDayPlayed_72 : decode cX8_ofDayPlayed 72 = .ok (.iload_n 1, 1) := by decide +kernel
theorem dX8_ofDayPlayed_73 : decode cX8_ofDayPlayed 73 = .ok (.bipush 10, 2) := by decide +kernel
theorem dX8_ofDayPlayed_75 : decode cX8_ofDayPlayed 75 = .ok (.isub, 1) := by decide +kernel
theorem dX8_ofDayPlayed_76 : decode cX8_ofDayPlayed 76 = .ok (.invokevirtual 109, 3) := by decide +kernel
theorem dX8_ofDayPlayed_79 : decode cX8_ofDayPlayed 79 = .ok (.ifCond .eq 17, 3) := by decide +kernel
theorem dX8_ofDayPlayed_82 : decode cX8_ofDayPlayed 82 = .ok (.aload_n 0, 1) := by decide +kernel
theorem dX8_ofDayPlayed_83 : decode cX8_ofDayPlayed 83 = .ok (.getfield 18, 3) := by decide +kernel
theorem dX8_ofDayPlayed_86 : decode cX8_ofDayPlayed 86 = .ok (.iload_n 1, 1) := by decide +kernel
theorem dX8_ofDayPlayed_87 : decode cX8_ofDayPlayed 87 = .ok (.bipush 10, 2) := by decide +kernel
theorem dX8_ofDayPlayed_89 : decode cX8_ofDayPlayed 89 = .ok (.isub, 1) := by decide +kernel
theorem dX8_ofDayPlayed_90 : decode cX8_ofDayPlayed 90 = .ok (.invokevirtual 131, 3) := by decide +kernel
theorem dX8_ofDayPlayed_93 : decode cX8_ofDayPlayed 93 = .ok (.goto 5, 3) := by decide +kernel
theorem dX8_ofDayPlayed_96 : decode cX8_ofDayPlayed 96 = .ok (.bipush (-9), 2) := by decide +kernel
theorem dX8_ofDayPlayed_98 : decode cX8_ofDayPlayed 98 = .ok (.ireturn, 1) := by decide +kernel
theorem dX8_starvingByManner_0 : decode cX8_starvingByManner 0 = .ok (.aload_n 0, 1) := by decide +kernel
theorem dX8_starvingByManner_1 : decode cX8_starvingByManner 1 = .ok (.getfield 18, 3) := by decide +kernel
theorem dX8_starvingByManner_4 : decode cX8_starvingByManner 4 = .ok (.aload_n 0, 1) := by decide +kernel
theorem dX8_starvingByManner_5 : decode cX8_starvingByManner 5 = .ok (.getfield 14, 3) := by decide +kernel
theorem dX8_starvingByManner_8 : decode cX8_starvingByManner 8 = .ok (.invokevirtual 96, 3) := by decide +kernel
theorem dX8_starvingByManner_11 : decode cX8_starvingByManner 11 = .ok (.aload_n 0, 1) := by decide +kernel
theorem dX8_starvingByManner_12 : decode cX8_starvingByManner 12 = .ok (.getfield 18, 3) := by decide +kernel
theorem dX8_starvingByManner_15 : decode cX8_starvingByManner 15 = .ok (.iload_n 1, 1) := by decide +kernel
theorem dX8_starvingByManner_16 : decode cX8_starvingByManner 16 = .ok (.putfield 166, 3) := by decide +kernel
theorem dX8_starvingByManner_19 : decode cX8_starvingByManner 19 = .ok (.aload_n 0, 1) := by decide +kernel
theorem dX8_starvingByManner_20 : decode cX8_starvingByManner 20 = .ok (.getfield 18, 3) := by decide +kernel
theorem dX8_starvingByManner_23 : decode cX8_starvingByManner 23 = .ok (.invokevirtual 134, 3) := by decide +kernel
theorem dX8_starvingByManner_26 : decode cX8_starvingByManner 26 = .ok (.invokestatic 236, 3) := by decide +kernel
theorem dX8_starvingByManner_29 : decode cX8_starvingByManner 29 = .ok (.ireturn, 1) := by decide +kernel
theorem dX8_mannerOfFewest_0 : decode cX8_mannerOfFewest 0 = .ok (.iconst 0, 1) := by decide +kernel
theorem dX8_mannerOfFewest_1 : decode cX8_mannerOfFewest 1 = .ok (.istore_n 1, 1) := by decide +kernel
theorem dX8_mannerOfFewest_2 : decode cX8_mannerOfFewest 2 = .ok (.aload_n 0, 1) := by decide +kernel
theorem dX8_mannerOfFewest_3 : decode cX8_mannerOfFewest 3 = .ok (.iconst 0, 1) := by decide +kernel
theorem dX8_mannerOfFewest_4 : decode cX8_mannerOfFewest 4 = .ok (.invokevirtual 202, 3) := by decide +kernel
theorem dX8_mannerOfFewest_7 : decode cX8_mannerOfFewest 7 = .ok (.istore_n 2, 1) := by decide +kernel
theorem dX8_mannerOfFewest_8 : decode cX8_mannerOfFewest 8 = .ok (.iconst 1, 1) := by decide +kernel
theorem dX8_mannerOfFewest_9 : decode cX8_mannerOfFewest 9 = .ok (.istore_n 3, 1) := by decide +kernel
theorem dX8_mannerOfFewest_10 : decode cX8_mannerOfFewest 10 = .ok (.iload_n 3, 1) := by decide +kernel
theorem dX8_mannerOfFewest_11 : decode cX8_mannerOfFewest 11 = .ok (.iconst 3, 1) := by decide +kernel
theorem dX8_mannerOfFewest_12 : decode cX8_mannerOfFewest 12 = .ok (.if_icmp .ge 27, 3) := by decide +kernel
theorem dX8_mannerOfFewest_15 : decode cX8_mannerOfFewest 15 = .ok (.aload_n 0, 1) := by decide +kernel
theorem dX8_mannerOfFewest_16 : decode cX8_mannerOfFewest 16 = .ok (.iload_n 3, 1) := by decide +kernel
theorem dX8_mannerOfFewest_17 : decode cX8_mannerOfFewest 17 = .ok (.invokevirtual 202, 3) := by decide +kernel
theorem dX8_mannerOfFewest_20 : decode cX8_mannerOfFewest 20 = .ok (.istore 4, 2) := by decide +kernel
theorem dX8_mannerOfFewest_22 : decode cX8_mannerOfFewest 22 = .ok (.iload 4, 2) := by decide +kernel
theorem dX8_mannerOfFewest_24 : decode cX8_mannerOfFewest 24 = .ok (.iload_n 2, 1) := by decide +kernel
theorem dX8_mannerOfFewest_25 : decode cX8_mannerOfFewest 25 = .ok (.if_icmp .ge 8, 3) := by decide +kernel
theorem dX8_mannerOfFewest_28 : decode cX8_mannerOfFewest 28 = .ok (.iload 4, 2) := by decide +kernel
theorem dX8_mannerOfFewest_30 : decode cX8_mannerOfFewest 30 = .ok (.istore_n 2, 1) := by decide +kernel
theorem dX8_mannerOfFewest_31 : decode cX8_mannerOfFewest 31 = .ok (.iload_n 3, 1) := by decide +kernel
theorem dX8_mannerOfFewest_32 : decode cX8_mannerOfFewest 32 = .ok (.istore_n 1, 1) := by decide +kernel
theorem dX8_mannerOfFewest_33 : decode cX8_mannerOfFewest 33 = .ok (.iinc 3 1, 3) := by decide +kernel
theorem dX8_mannerOfFewest_36 : decode cX8_mannerOfFewest 36 = .ok (.goto (-26), 3) := by decide +kernel
theorem dX8_mannerOfFewest_39 : decode cX8_mannerOfFewest 39 = .ok (.iload_n 1, 1) := by decide +kernel
theorem dX8_mannerOfFewest_40 : decode cX8_mannerOfFewest 40 = .ok (.ireturn, 1) := by decide +kernel
theorem dX8_waysToEat_0 : decode cX8_waysToEat 0 = .ok (.aload_n 0, 1) := by decide +kernel
theorem dX8_waysToEat_1 : decode cX8_waysToEat 1 = .ok (.getfield 18, 3) := by decide +kernel
theorem dX8_waysToEat_4 : decode cX8_waysToEat 4 = .ok (.aload_n 0, 1) := by decide +kernel
theorem dX8_waysToEat_5 : decode cX8_waysToEat 5 = .ok (.getfield 14, 3) := by decide +kernel
theorem dX8_waysToEat_8 : decode cX8_waysToEat 8 = .ok (.invokevirtual 96, 3) := by decide +kernel
theorem dX8_waysToEat_11 : decode cX8_waysToEat 11 = .ok (.iconst 0, 1) := by decide +kernel
theorem dX8_waysToEat_12 : decode cX8_waysToEat 12 = .ok (.istore_n 2, 1) := by decide +kernel
theorem dX8_waysToEat_13 : decode cX8_waysToEat 13 = .ok (.iconst 0, 1) := by decide +kernel
theorem dX8_waysToEat_14 : decode cX8_waysToEat 14 = .ok (.istore_n 3, 1) := by decide +kernel
theorem dX8_waysToEat_15 : decode cX8_waysToEat 15 = .ok (.iload_n 3, 1) := by decide +kernel
theorem dX8_waysToEat_16 : decode cX8_waysToEat 16 = .ok (.iconst 3, 1) := by decide +kernel
theorem dX8_waysToEat_17 : decode cX8_waysToEat 17 = .ok (.if_icmp .ge 56, 3) := by decide +kernel
theorem dX8_waysToEat_20 : decode cX8_waysToEat 20 = .ok (.aload_n 0, 1) := by decide +kernel
theorem dX8_waysToEat_21 : decode cX8_waysToEat 21 = .ok (.getfield 18, 3) := by decide +kernel
theorem dX8_waysToEat_24 : decode cX8_waysToEat 24 = .ok (.iload_n 3, 1) := by decide +kernel
theorem dX8_waysToEat_25 : decode cX8_waysToEat 25 = .ok (.putfield 166, 3) := by decide +kernel
theorem dX8_waysToEat_28 : decode cX8_waysToEat 28 = .ok (.iconst 0, 1) := by decide +kernel
theorem dX8_waysToEat_29 : decode cX8_waysToEat 29 = .ok (.istore 4, 2) := by decide +kernel
theorem dX8_waysToEat_31 : decode cX8_waysToEat 31 = .ok (.iload 4, 2) := by decide +kernel
theorem dX8_waysToEat_33 : decode cX8_waysToEat 33 = .ok (.bipush 9, 2) := by decide +kernel
theorem dX8_waysToEat_35 : decode cX8_waysToEat 35 = .ok (.if_icmp .gt 32, 3) := by decide +kernel
theorem dX8_waysToEat_38 : decode cX8_waysToEat 38 = .ok (.aload_n 0, 1) := by decide +kernel
theorem dX8_waysToEat_39 : decode cX8_waysToEat 39 = .ok (.getfield 18, 3) := by decide +kernel
theorem dX8_waysToEat_42 : decode cX8_waysToEat 42 = .ok (.iload 4, 2) := by decide +kernel
theorem dX8_waysToEat_44 : decode cX8_waysToEat 44 = .ok (.putfield 169, 3) := by decide +kernel
theorem dX8_waysToEat_47 : decode cX8_waysToEat 47 = .ok (.aload_n 0, 1) := by decide +kernel
theorem dX8_waysToEat_48 : decode cX8_waysToEat 48 = .ok (.getfield 18, 3) := by decide +kernel
theorem dX8_waysToEat_51 : decode cX8_waysToEat 51 = .ok (.iload_n 1, 1) := by decide +kernel
theorem dX8_waysToEat_52 : decode cX8_waysToEat 52 = .ok (.invokevirtual 131, 3) := by decide +kernel
theorem dX8_waysToEat_55 : decode cX8_waysToEat 55 = .ok (.ifCond .le 6, 3) := by decide +kernel
theorem dX8_waysToEat_58 : decode cX8_waysToEat 58 = .ok (.iinc 2 1, 3) := by decide +kernel
theorem dX8_waysToEat_61 : decode cX8_waysToEat 61 = .ok (.iinc 4 1, 3) := by decide +kernel
theorem dX8_waysToEat_64 : decode cX8_waysToEat 64 = .ok (.goto (-33), 3) := by decide +kernel
theorem dX8_waysToEat_67 : decode cX8_waysToEat 67 = .ok (.iinc 3 1, 3) := by decide +kernel
theorem dX8_waysToEat_70 : decode cX8_waysToEat 70 = .ok (.goto (-55), 3) := by decide +kernel
theorem dX8_waysToEat_73 : decode cX8_waysToEat 73 = .ok (.iload_n 2, 1) := by decide +kernel
theorem dX8_waysToEat_74 : decode cX8_waysToEat 74 = .ok (.ireturn, 1) := by decide +kernel
theorem dX8_greatestDivisor_0 : decode cX8_greatestDivisor 0 = .ok (.iload_n 1, 1) := by decide +kernel
theorem dX8_greatestDivisor_1 : decode cX8_greatestDivisor 1 = .ok (.istore_n 2, 1) := by decide +kernel
theorem dX8_greatestDivisor_2 : decode cX8_greatestDivisor 2 = .ok (.iload_n 2, 1) := by decide +kernel
theorem dX8_greatestDivisor_3 : decode cX8_greatestDivisor 3 = .ok (.iconst 1, 1) := by decide +kernel
theorem dX8_greatestDivisor_4 : decode cX8_greatestDivisor 4 = .ok (.if_icmp .le 23, 3) := by decide +kernel
theorem dX8_greatestDivisor_7 : decode cX8_greatestDivisor 7 = .ok (.iload_n 0, 1) := by decide +kernel
theorem dX8_greatestDivisor_8 : decode cX8_greatestDivisor 8 = .ok (.iload_n 2, 1) := by decide +kernel
theorem dX8_greatestDivisor_9 : decode cX8_greatestDivisor 9 = .ok (.irem, 1) := by decide +kernel
theorem dX8_greatestDivisor_10 : decode cX8_greatestDivisor 10 = .ok (.ifCond .ne 11, 3) := by decide +kernel
theorem dX8_greatestDivisor_13 : decode cX8_greatestDivisor 13 = .ok (.iload_n 1, 1) := by decide +kernel
theorem dX8_greatestDivisor_14 : decode cX8_greatestDivisor 14 = .ok (.iload_n 2, 1) := by decide +kernel
theorem dX8_greatestDivisor_15 : decode cX8_greatestDivisor 15 = .ok (.irem, 1) := by decide +kernel
theorem dX8_greatestDivisor_16 : decode cX8_greatestDivisor 16 = .ok (.ifCond .ne 5, 3) := by decide +kernel
theorem dX8_greatestDivisor_19 : decode cX8_greatestDivisor 19 = .ok (.iload_n 2, 1) := by decide +kernel
theorem dX8_greatestDivisor_20 : decode cX8_greatestDivisor 20 = .ok (.ireturn, 1) := by decide +kernel
theorem dX8_greatestDivisor_21 : decode cX8_greatestDivisor 21 = .ok (.iinc 2 (-1), 3) := by decide +kernel
theorem dX8_greatestDivisor_24 : decode cX8_greatestDivisor 24 = .ok (.goto (-22), 3) := by decide +kernel
theorem dX8_greatestDivisor_27 : decode cX8_greatestDivisor 27 = .ok (.iconst 1, 1) := by decide +kernel
theorem dX8_greatestDivisor_28 : decode cX8_greatestDivisor 28 = .ok (.ireturn, 1) := by decide +kernel
theorem dX8_leaveTrace_0 : decode cX8_leaveTrace 0 = .ok (.aload_n 0, 1) := by decide +kernel
theorem dX8_leaveTrace_1 : decode cX8_leaveTrace 1 = .ok (.bipush 31, 2) := by decide +kernel
theorem dX8_leaveTrace_3 : decode cX8_leaveTrace 3 = .ok (.aload_n 0, 1) := by decide +kernel
theorem dX8_leaveTrace_4 : decode cX8_leaveTrace 4 = .ok (.getfield 70, 3) := by decide +kernel
theorem dX8_leaveTrace_7 : decode cX8_leaveTrace 7 = .ok (.imul, 1) := by decide +kernel
theorem dX8_leaveTrace_8 : decode cX8_leaveTrace 8 = .ok (.iload_n 1, 1) := by decide +kernel
theorem dX8_leaveTrace_9 : decode cX8_leaveTrace 9 = .ok (.iadd, 1) := by decide +kernel
theorem dX8_leaveTrace_10 : decode cX8_leaveTrace 10 = .ok (.putfield 70, 3) := by decide +kernel
theorem dX8_leaveTrace_13 : decode cX8_leaveTrace 13 = .ok (.return_, 1) := by decide +kernel
theorem dX8_tellPlain_0 : decode cX8_tellPlain 0 = .ok (.aload_n 0, 1) := by decide +kernel
theorem dX8_tellPlain_1 : decode cX8_tellPlain 1 = .ok (.iconst 1, 1) := by decide +kernel
theorem dX8_tellPlain_2 : decode cX8_tellPlain 2 = .ok (.invokevirtual 318, 3) := by decide +kernel
theorem dX8_tellPlain_5 : decode cX8_tellPlain 5 = .ok (.aload_n 0, 1) := by decide +kernel
theorem dX8_tellPlain_6 : decode cX8_tellPlain 6 = .ok (.getfield 14, 3) := by decide +kernel
theorem dX8_tellPlain_9 : decode cX8_tellPlain 9 = .ok (.getfield 119, 3) := by decide +kernel
theorem dX8_tellPlain_12 : decode cX8_tellPlain 12 = .ok (.iload_n 1, 1) := by decide +kernel
theorem dX8_tellPlain_13 : decode cX8_tellPlain 13 = .ok (.iaload, 1) := by decide +kernel
theorem dX8_tellPlain_14 : decode cX8_tellPlain 14 = .ok (.ireturn, 1) := by decide +kernel
theorem dX8_tellChalked_0 : decode cX8_tellChalked 0 = .ok (.aload_n 0, 1) := by decide +kernel
theorem dX8_tellChalked_1 : decode cX8_tellChalked 1 = .ok (.iconst 2, 1) := by decide +kernel
theorem dX8_tellChalked_2 : decode cX8_tellChalked 2 = .ok (.invokevirtual 318, 3) := by decide +kernel
theorem dX8_tellChalked_5 : decode cX8_tellChalked 5 = .ok (.aload_n 0, 1) := by decide +kernel
theorem dX8_tellChalked_6 : decode cX8_tellChalked 6 = .ok (.iload_n 1, 1) := by decide +kernel
theorem dX8_tellChalked_7 : decode cX8_tellChalked 7 = .ok (.invokevirtual 291, 3) := by decide +kernel
theorem dX8_tellChalked_10 : decode cX8_tellChalked 10 = .ok (.bipush 100, 2) := by decide +kernel
theorem dX8_tellChalked_12 : decode cX8_tellChalked 12 = .ok (.iadd, 1) := by decide +kernel
theorem dX8_tellChalked_13 : decode cX8_tellChalked 13 = .ok (.ireturn, 1) := by decide +kernel
theorem dX8_tellGrand_0 : decode cX8_tellGrand 0 = .ok (.aload_n 0, 1) := by decide +kernel
theorem dX8_tellGrand_1 : decode cX8_tellGrand 1 = .ok (.iconst 3, 1) := by decide +kernel
theorem dX8_tellGrand_2 : decode cX8_tellGrand 2 = .ok (.invokevirtual 318, 3) := by decide +kernel
theorem dX8_tellGrand_5 : decode cX8_tellGrand 5 = .ok (.aload_n 0, 1) := by decide +kernel
theorem dX8_tellGrand_6 : decode cX8_tellGrand 6 = .ok (.iload_n 1, 1) := by decide +kernel
theorem dX8_tellGrand_7 : decode cX8_tellGrand 7 = .ok (.invokevirtual 288, 3) := by decide +kernel
theorem dX8_tellGrand_10 : decode cX8_tellGrand 10 = .ok (.aload_n 0, 1) := by decide +kernel
theorem dX8_tellGrand_11 : decode cX8_tellGrand 11 = .ok (.iload_n 1, 1) := by decide +kernel
theorem dX8_tellGrand_12 : decode cX8_tellGrand 12 = .ok (.invokevirtual 291, 3) := by decide +kernel
theorem dX8_tellGrand_15 : decode cX8_tellGrand 15 = .ok (.iadd, 1) := by decide +kernel
theorem dX8_tellGrand_16 : decode cX8_tellGrand 16 = .ok (.ireturn, 1) := by decide +kernel
theorem dX8_greetLent_0 : decode cX8_greetLent 0 = .ok (.aload_n 0, 1) := by decide +kernel
theorem dX8_greetLent_1 : decode cX8_greetLent 1 = .ok (.iconst 4, 1) := by decide +kernel
theorem dX8_greetLent_2 : decode cX8_greetLent 2 = .ok (.invokevirtual 318, 3) := by decide +kernel
theorem dX8_greetLent_5 : decode cX8_greetLent 5 = .ok (.aload_n 0, 1) := by decide +kernel
theorem dX8_greetLent_6 : decode cX8_greetLent 6 = .ok (.getfield 14, 3) := by decide +kernel
theorem dX8_greetLent_9 : decode cX8_greetLent 9 = .ok (.getfield 116, 3) := by decide +kernel
theorem dX8_greetLent_12 : decode cX8_greetLent 12 = .ok (.iload_n 1, 1) := by decide +kernel
theorem dX8_greetLent_13 : decode cX8_greetLent 13 = .ok (.iaload, 1) := by decide +kernel
theorem dX8_greetLent_14 : decode cX8_greetLent 14 = .ok (.ireturn, 1) := by decide +kernel
theorem dX8_greetGrand_0 : decode cX8_greetGrand 0 = .ok (.aload_n 0, 1) := by decide +kernel
theorem dX8_greetGrand_1 : decode cX8_greetGrand 1 = .ok (.iconst 5, 1) := by decide +kernel
theorem dX8_greetGrand_2 : decode cX8_greetGrand 2 = .ok (.invokevirtual 318, 3) := by decide +kernel
theorem dX8_greetGrand_5 : decode cX8_greetGrand 5 = .ok (.bipush 60, 2) := by decide +kernel
theorem dX8_greetGrand_7 : decode cX8_greetGrand 7 = .ok (.ireturn, 1) := by decide +kernel
