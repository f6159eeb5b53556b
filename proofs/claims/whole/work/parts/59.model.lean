section CT9
variable {D : va_G} {cI cS : ClassId}
set_option maxHeartbeats 8000000 in
set_option maxRecDepth 20000 in
theorem c_X9_init : nCt D cI cS 1 28 736 yX9_init cX9_init 2 9 fs0X9 (fun h ws => ∃ ad : Nat → Nat, ad 36 = h ∧ ws = wX9 cI ad) := by
  refine nCt.of rfl rfl rfl (by decide) (fun h0 A => ?_)
  refine N_aload 1 dX9_init_0 rfl rfl (List.mem_of_getElem? (i := 0) rfl) ?_
  refine N_oi 4 dX9_init_1 rfl kX9_1 (by decide) ?_
  refine N_aload 5 dX9_init_4 rfl rfl (List.mem_of_getElem? (i := 0) rfl) ?_
  refine N_iconst 6 dX9_init_5 rfl ?_
  refine N_newarr (N := 3) 8 dX9_init_6 rfl rfl (by decide) (by decide) (by decide) (fun q0 => ?_)
  refine N_putF 11 dX9_init_8 rfl hX9_7 rfl (by simp) ?_
  refine N_aload 12 dX9_init_11 rfl rfl (List.mem_of_getElem? (i := 0) rfl) ?_
  refine N_bipush 14 dX9_init_12 rfl (by decide) ?_
  refine N_newarr (N := 6) 16 dX9_init_14 rfl rfl (by decide) (by decide) (by decide) (fun q1 => ?_)
  refine N_putF 19 dX9_init_16 rfl hX9_13 rfl (by simp) ?_
  refine N_aload 20 dX9_init_19 rfl rfl (List.mem_of_getElem? (i := 0) rfl) ?_
  refine N_bipush 22 dX9_init_20 rfl (by decide) ?_
  refine N_newarr (N := 6) 24 dX9_init_22 rfl rfl (by decide) (by decide) (by decide) (fun q2 => ?_)
  refine N_putF 27 dX9_init_24 rfl hX9_16 rfl (by simp) ?_
  refine N_aload 28 dX9_init_27 rfl rfl (List.mem_of_getElem? (i := 0) rfl) ?_
  refine N_bipush 30 dX9_init_28 rfl (by decide) ?_
  refine N_newarr (N := 6) 32 dX9_init_30 rfl rfl (by decide) (by decide) (by decide) (fun q3 => ?_)
  refine N_putF 35 dX9_init_32 rfl hX9_19 rfl (by simp) ?_
  refine N_w [(h0, .inr (9, [vi 0, vi 0, vi 0, vi 0, vi 0, .ref q0, .ref q1, .ref q2, .ref q3, .null, .null, .null, vi 0, vi 0, vi 0, .null, .null, .null, .null, .null, .null, .null, .null, .null, vi 0, vi 0, .null, .null, .null, vi 0, .null, .null, .null, vi 0, .null, .null, .null, .null, .null, .null, vi 0])), (q0, .inl (cI, 3, .inl (fun _ => iI 0))), (q1, .inl (cI, 6, .inl (fun _ => iI 0))), (q2, .inl (cI, 6, .inl (fun _ => iI 0))), (q3, .inl (cI, 6, .inl (fun _ => iI 0)))] rfl ?_
  refine N_aload 36 dX9_init_35 rfl rfl (List.mem_of_getElem? (i := 0) rfl) ?_
  refine N_bipush 38 dX9_init_36 rfl (by decide) ?_
  refine N_newarr (N := 6) 40 dX9_init_38 rfl rfl (by decide) (by decide) (by decide) (fun q4 => ?_)
  refine N_putF 43 dX9_init_40 rfl hX9_22 rfl (by simp) ?_
  refine N_aload 44 dX9_init_43 rfl rfl (List.mem_of_getElem? (i := 0) rfl) ?_
  refine N_bipush 46 dX9_init_44 rfl (by decide) ?_
  refine N_newarr (N := 6) 48 dX9_init_46 rfl rfl (by decide) (by decide) (by decide) (fun q5 => ?_)
  refine N_putF 51 dX9_init_48 rfl hX9_25 rfl (by simp) ?_
  refine N_aload 52 dX9_init_51 rfl rfl (List.mem_of_getElem? (i := 0) rfl) ?_
  refine N_bipush 54 dX9_init_52 rfl (by decide) ?_
  refine N_newarr (N := 6) 56 dX9_init_54 rfl rfl (by decide) (by decide) (by decide) (fun q6 => ?_)
  refine N_putF 59 dX9_init_56 rfl hX9_28 rfl (by simp) ?_
  refine N_aload 60 dX9_init_59 rfl rfl (List.mem_of_getElem? (i := 0) rfl) ?_
  refine N_iconst 61 dX9_init_60 rfl ?_
  refine N_newarr (N := 3) 63 dX9_init_61 rfl rfl (by decide) (by decide) (by decide) (fun q7 => ?_)
  refine N_putF 66 dX9_init_63 rfl hX9_31 rfl (by simp) ?_
  refine N_w [(h0, .inr (9, [vi 0, vi 0, vi 0, vi 0, vi 0, .ref q0, .ref q1, .ref q2, .ref q3, .ref q4, .ref q5, .ref q6, vi 0, vi 0, vi 0, .ref q7, .null, .null, .null, .null, .null, .null, .null, .null, vi 0, vi 0, .null, .null, .null, vi 0, .null, .null, .null, vi 0, .null, .null, .null, .null, .null, .null, vi 0])), (q0, .inl (cI, 3, .inl (fun _ => iI 0))), (q1, .inl (cI, 6, .inl (fun _ => iI 0))), (q2, .inl (cI, 6, .inl (fun _ => iI 0))), (q3, .inl (cI, 6, .inl (fun _ => iI 0))), (q4, .inl (cI, 6, .inl (fun _ => iI 0))), (q5, .inl (cI, 6, .inl (fun _ => iI 0))), (q6, .inl (cI, 6, .inl (fun _ => iI 0))), (q7, .inl (cI, 3, .inl (fun _ => iI 0)))] rfl ?_
  refine N_aload 67 dX9_init_66 rfl rfl (List.mem_of_getElem? (i := 0) rfl) ?_
  refine N_bipush 69 dX9_init_67 rfl (by decide) ?_
  refine N_newarr (N := 6) 71 dX9_init_69 rfl rfl (by decide) (by decide) (by decide) (fun q8 => ?_)
  refine N_putF 74 dX9_init_71 rfl hX9_34 rfl (by simp) ?_
  refine N_aload 75 dX9_init_74 rfl rfl (List.mem_of_getElem? (i := 0) rfl) ?_
  refine N_bipush 77 dX9_init_75 rfl (by decide) ?_
  refine N_newarr (N := 6) 79 dX9_init_77 rfl rfl (by decide) (by decide) (by decide) (fun q9 => ?_)
  refine N_putF 82 dX9_init_79 rfl hX9_37 rfl (by simp) ?_
  refine N_aload 83 dX9_init_82 rfl rfl (List.mem_of_getElem? (i := 0) rfl) ?_
  refine N_bipush 85 dX9_init_83 rfl (by decide) ?_
  refine N_newarr (N := 6) 87 dX9_init_85 rfl rfl (by decide) (by decide) (by decide) (fun q10 => ?_)
  refine N_putF 90 dX9_init_87 rfl hX9_40 rfl (by simp) ?_
  refine N_aload 91 dX9_init_90 rfl rfl (List.mem_of_getElem? (i := 0) rfl) ?_
  refine N_bipush 93 dX9_init_91 rfl (by decide) ?_
  refine N_newarr (N := 6) 95 dX9_init_93 rfl rfl (by decide) (by decide) (by decide) (fun q11 => ?_)
  refine N_putF 98 dX9_init_95 rfl hX9_43 rfl (by simp) ?_
  refine N_w [(h0, .inr (9, [vi 0, vi 0, vi 0, vi 0, vi 0, .ref q0, .ref q1, .ref q2, .ref q3, .ref q4, .ref q5, .ref q6, vi 0, vi 0, vi 0, .ref q7, .ref q8, .ref q9, .ref q10, .ref q11, .null, .null, .null, .null, vi 0, vi 0, .null, .null, .null, vi 0, .null, .null, .null, vi 0, .null, .null, .null, .null, .null, .null, vi 0])), (q0, .inl (cI, 3, .inl (fun _ => iI 0))), (q1, .inl (cI, 6, .inl (fun _ => iI 0))), (q2, .inl (cI, 6, .inl (fun _ => iI 0))), (q3, .inl (cI, 6, .inl (fun _ => iI 0))), (q4, .inl (cI, 6, .inl (fun _ => iI 0))), (q5, .inl (cI, 6, .inl (fun _ => iI 0))), (q6, .inl (cI, 6, .inl (fun _ => iI 0))), (q7, .inl (cI, 3, .inl (fun _ => iI 0))), (q8, .inl (cI, 6, .inl (fun _ => iI 0))), (q9, .inl (cI, 6, .inl (fun _ => iI 0))), (q10, .inl (cI, 6, .inl (fun _ => iI 0))), (q11, .inl (cI, 6, .inl (fun _ => iI 0)))] rfl ?_
  refine N_aload 99 dX9_init_98 rfl rfl (List.mem_of_getElem? (i := 0) rfl) ?_
  refine N_bipush 101 dX9_init_99 rfl (by decide) ?_
  refine N_newarr (N := 6) 103 dX9_init_101 rfl rfl (by decide) (by decide) (by decide) (fun q12 => ?_)
  refine N_putF 106 dX9_init_103 rfl hX9_46 rfl (by simp) ?_
  refine N_aload 107 dX9_init_106 rfl rfl (List.mem_of_getElem? (i := 0) rfl) ?_
  refine N_bipush 109 dX9_init_107 rfl (by decide) ?_
  refine N_newarr (N := 6) 111 dX9_init_109 rfl rfl (by decide) (by decide) (by decide) (fun q13 => ?_)
  refine N_putF 114 dX9_init_111 rfl hX9_49 rfl (by simp) ?_
  refine N_aload 115 dX9_init_114 rfl rfl (List.mem_of_getElem? (i := 0) rfl) ?_
  refine N_bipush 117 dX9_init_115 rfl (by decide) ?_
  refine N_newarr (N := 6) 119 dX9_init_117 rfl rfl (by decide) (by decide) (by decide) (fun q14 => ?_)
  refine N_putF 122 dX9_init_119 rfl hX9_52 rfl (by simp) ?_
  refine N_aload 123 dX9_init_122 rfl rfl (List.mem_of_getElem? (i := 0) rfl) ?_
  refine N_iconst 124 dX9_init_123 rfl ?_
  refine N_newarr (N := 3) 126 dX9_init_124 rfl rfl (by decide) (by decide) (by decide) (fun q15 => ?_)
  refine N_putF 129 dX9_init_126 rfl hX9_55 rfl (by simp) ?_
  refine N_w [(h0, .inr (9, [vi 0, vi 0, vi 0, vi 0, vi 0, .ref q0, .ref q1, .ref q2, .ref q3, .ref q4, .ref q5, .ref q6, vi 0, vi 0, vi 0, .ref q7, .ref q8, .ref q9, .ref q10, .ref q11, .ref q12, .ref q13, .ref q14, .ref q15, vi 0, vi 0, .null, .null, .null, vi 0, .null, .null, .null, vi 0, .null, .null, .null, .null, .null, .null, vi 0])), (q0, .inl (cI, 3, .inl (fun _ => iI 0))), (q1, .inl (cI, 6, .inl (fun _ => iI 0))), (q2, .inl (cI, 6, .inl (fun _ => iI 0))), (q3, .inl (cI, 6, .inl (fun _ => iI 0))), (q4, .inl (cI, 6, .inl (fun _ => iI 0))), (q5, .inl (cI, 6, .inl (fun _ => iI 0))), (q6, .inl (cI, 6, .inl (fun _ => iI 0))), (q7, .inl (cI, 3, .inl (fun _ => iI 0))), (q8, .inl (cI, 6, .inl (fun _ => iI 0))), (q9, .inl (cI, 6, .inl (fun _ => iI 0))), (q10, .inl (cI, 6, .inl (fun _ => iI 0))), (q11, .inl (cI, 6, .inl (fun _ => iI 0))), (q12, .inl (cI, 6, .inl (fun _ => iI 0))), (q13, .inl (cI, 6, .inl (fun _ => iI 0))), (q14, .inl (cI, 6, .inl (fun _ => iI 0))), (q15, .inl (cI, 3, .inl (fun _ => iI 0)))] rfl ?_
  refine N_aload 130 dX9_init_129 rfl rfl (List.mem_of_getElem? (i := 0) rfl) ?_
  refine N_iconst 131 dX9_init_130 rfl ?_
  refine N_newarr (N := 3) 133 dX9_init_131 rfl rfl (by decide) (by decide) (by decide) (fun q16 => ?_)
  refine N_putF 136 dX9_init_133 rfl hX9_58 rfl (by simp) ?_
  refine N_aload 137 dX9_init_136 rfl rfl (List.mem_of_getElem? (i := 0) rfl) ?_
  refine N_bipush 139 dX9_init_137 rfl (by decide) ?_
  refine N_newarr (N := 6) 141 dX9_init_139 rfl rfl (by decide) (by decide) (by decide) (fun q17 => ?_)
  refine N_putF 144 dX9_init_141 rfl hX9_61 rfl (by simp) ?_
  refine N_aload 145 dX9_init_144 rfl rfl (List.mem_of_getElem? (i := 0) rfl) ?_
  refine N_bipush 147 dX9_init_145 rfl (by decide) ?_
  refine N_newarr (N := 6) 149 dX9_init_147 rfl rfl (by decide) (by decide) (by decide) (fun q18 => ?_)
  refine N_putF 152 dX9_init_149 rfl hX9_64 rfl (by simp) ?_
  refine N_aload 153 dX9_init_152 rfl rfl (List.mem_of_getElem? (i := 0) rfl) ?_
  refine N_iconst 154 dX9_init_153 rfl ?_
  refine N_newarr (N := 3) 156 dX9_init_154 rfl rfl (by decide) (by decide) (by decide) (fun q19 => ?_)
  refine N_putF 159 dX9_init_156 rfl hX9_67 rfl (by simp) ?_
  refine N_w [(h0, .inr (9, [vi 0, vi 0, vi 0, vi 0, vi 0, .ref q0, .ref q1, .ref q2, .ref q3, .ref q4, .ref q5, .ref q6, vi 0, vi 0, vi 0, .ref q7, .ref q8, .ref q9, .ref q10, .ref q11, .ref q12, .ref q13, .ref q14, .ref q15, vi 0, vi 0, .ref q16, .ref q17, .ref q18, vi 0, .ref q19, .null, .null, vi 0, .null, .null, .null, .null, .null, .null, vi 0])), (q0, .inl (cI, 3, .inl (fun _ => iI 0))), (q1, .inl (cI, 6, .inl (fun _ => iI 0))), (q2, .inl (cI, 6, .inl (fun _ => iI 0))), (q3, .inl (cI, 6, .inl (fun _ => iI 0))), (q4, .inl (cI, 6, .inl (fun _ => iI 0))), (q5, .inl (cI, 6, .inl (fun _ => iI 0))), (q6, .inl (cI, 6, .inl (fun _ => iI 0))), (q7, .inl (cI, 3, .inl (fun _ => iI 0))), (q8, .inl (cI, 6, .inl (fun _ => iI 0))), (q9, .inl (cI, 6, .inl (fun _ => iI 0))), (q10, .inl (cI, 6, .inl (fun _ => iI 0))), (q11, .inl (cI, 6, .inl (fun _ => iI 0))), (q12, .inl (cI, 6, .inl (fun _ => iI 0))), (q13, .inl (cI, 6, .inl (fun _ => iI 0))), (q14, .inl (cI, 6, .inl (fun _ => iI 0))), (q15, .inl (cI, 3, .inl (fun _ => iI 0))), (q16, .inl (cI, 3, .inl (fun _ => iI 0))), (q17, .inl (cI, 6, .inl (fun _ => iI 0))), (q18, .inl (cI, 6, .inl (fun _ => iI 0))), (q19, .inl (cI, 3, .inl (fun _ => iI 0)))] rfl ?_
  refine N_aload 160 dX9_init_159 rfl rfl (List.mem_of_getElem? (i := 0) rfl) ?_
  refine N_bipush 162 dX9_init_160 rfl (by decide) ?_
  refine N_newarr (N := 6) 164 dX9_init_162 rfl rfl (by decide) (by decide) (by decide) (fun q20 => ?_)
  refine N_putF 167 dX9_init_164 rfl hX9_70 rfl (by simp) ?_
  refine N_aload 168 dX9_init_167 rfl rfl (List.mem_of_getElem? (i := 0) rfl) ?_
  refine N_sipush 171 dX9_init_168 rfl (by decide) ?_
  refine N_newarr (N := 301) 173 dX9_init_171 rfl rfl (by decide) (by decide) (by decide) (fun q21 => ?_)
  refine N_putF 176 dX9_init_173 rfl hX9_73 rfl (by simp) ?_
  refine N_aload 177 dX9_init_176 rfl rfl (List.mem_of_getElem? (i := 0) rfl) ?_
  refine N_bipush 179 dX9_init_177 rfl (by decide) ?_
  refine N_newarr (N := 8) 181 dX9_init_179 rfl rfl (by decide) (by decide) (by decide) (fun q22 => ?_)
  refine N_putF 184 dX9_init_181 rfl hX9_76 rfl (by simp) ?_
  refine N_aload 185 dX9_init_184 rfl rfl (List.mem_of_getElem? (i := 0) rfl) ?_
  refine N_bipush 187 dX9_init_185 rfl (by decide) ?_
  refine N_newarr (N := 8) 189 dX9_init_187 rfl rfl (by decide) (by decide) (by decide) (fun q23 => ?_)
  refine N_putF 192 dX9_init_189 rfl hX9_79 rfl (by simp) ?_
  refine N_w [(h0, .inr (9, [vi 0, vi 0, vi 0, vi 0, vi 0, .ref q0, .ref q1, .ref q2, .ref q3, .ref q4, .ref q5, .ref q6, vi 0, vi 0, vi 0, .ref q7, .ref q8, .ref q9, .ref q10, .ref q11, .ref q12, .ref q13, .ref q14, .ref q15, vi 0, vi 0, .ref q16, .ref q17, .ref q18, vi 0, .ref q19, .ref q20, .ref q21, vi 0, .ref q22, .ref q23, .null, .null, .null, .null, vi 0])), (q0, .inl (cI, 3, .inl (fun _ => iI 0))), (q1, .inl (cI, 6, .inl (fun _ => iI 0))), (q2, .inl (cI, 6, .inl (fun _ => iI 0))), (q3, .inl (cI, 6, .inl (fun _ => iI 0))), (q4, .inl (cI, 6, .inl (fun _ => iI 0))), (q5, .inl (cI, 6, .inl (fun _ => iI 0))), (q6, .inl (cI, 6, .inl (fun _ => iI 0))), (q7, .inl (cI, 3, .inl (fun _ => iI 0))), (q8, .inl (cI, 6, .inl (fun _ => iI 0))), (q9, .inl (cI, 6, .inl (fun _ => iI 0))), (q10, .inl (cI, 6, .inl (fun _ => iI 0))), (q11, .inl (cI, 6, .inl (fun _ => iI 0))), (q12, .inl (cI, 6, .inl (fun _ => iI 0))), (q13, .inl (cI, 6, .inl (fun _ => iI 0))), (q14, .inl (cI, 6, .inl (fun _ => iI 0))), (q15, .inl (cI, 3, .inl (fun _ => iI 0))), (q16, .inl (cI, 3, .inl (fun _ => iI 0))), (q17, .inl (cI, 6, .inl (fun _ => iI 0))), (q18, .inl (cI, 6, .inl (fun _ => iI 0))), (q19, .inl (cI, 3, .inl (fun _ => iI 0))), (q20, .inl (cI, 6, .inl (fun _ => iI 0))), (q21, .inl (cI, 301, .inl (fun _ => iI 0))), (q22, .inl (cI, 8, .inl (fun _ => iI 0))), (q23, .inl (cI, 8, .inl (fun _ => iI 0)))] rfl ?_
  refine N_aload 193 dX9_init_192 rfl rfl (List.mem_of_getElem? (i := 0) rfl) ?_
  refine N_iconst 194 dX9_init_193 rfl ?_
  refine N_newarr (N := 4) 196 dX9_init_194 rfl rfl (by decide) (by decide) (by decide) (fun q24 => ?_)
  refine N_putF 199 dX9_init_196 rfl hX9_82 rfl (by simp) ?_
  refine N_aload 200 dX9_init_199 rfl rfl (List.mem_of_getElem? (i := 0) rfl) ?_
  refine N_iconst 201 dX9_init_200 rfl ?_
  refine N_newarr (N := 4) 203 dX9_init_201 rfl rfl (by decide) (by decide) (by decide) (fun q25 => ?_)
  refine N_putF 206 dX9_init_203 rfl hX9_85 rfl (by simp) ?_
  refine N_aload 207 dX9_init_206 rfl rfl (List.mem_of_getElem? (i := 0) rfl) ?_
  refine N_sipush 210 dX9_init_207 rfl (by decide) ?_
  refine N_newarr (N := 240) 212 dX9_init_210 rfl rfl (by decide) (by decide) (by decide) (fun q26 => ?_)
  refine N_putF 215 dX9_init_212 rfl hX9_88 rfl (by simp) ?_
  refine N_aload 216 dX9_init_215 rfl rfl (List.mem_of_getElem? (i := 0) rfl) ?_
  refine N_bipush 218 dX9_init_216 rfl (by decide) ?_
  refine N_newarr (N := 60) 220 dX9_init_218 rfl rfl (by decide) (by decide) (by decide) (fun q27 => ?_)
  refine N_putF 223 dX9_init_220 rfl hX9_91 rfl (by simp) ?_
  refine N_w [(h0, .inr (9, [vi 0, vi 0, vi 0, vi 0, vi 0, .ref q0, .ref q1, .ref q2, .ref q3, .ref q4, .ref q5, .ref q6, vi 0, vi 0, vi 0, .ref q7, .ref q8, .ref q9, .ref q10, .ref q11, .ref q12, .ref q13, .ref q14, .ref q15, vi 0, vi 0, .ref q16, .ref q17, .ref q18, vi 0, .ref q19, .ref q20, .ref q21, vi 0, .ref q22, .ref q23, .ref q24, .ref q25, .ref q26, .ref q27, vi 0])), (q0, .inl (cI, 3, .inl (fun _ => iI 0))), (q1, .inl (cI, 6, .inl (fun _ => iI 0))), (q2, .inl (cI, 6, .inl (fun _ => iI 0))), (q3, .inl (cI, 6, .inl (fun _ => iI 0))), (q4, .inl (cI, 6, .inl (fun _ => iI 0))), (q5, .inl (cI, 6, .inl (fun _ => iI 0))), (q6, .inl (cI, 6, .inl (fun _ => iI 0))), (q7, .inl (cI, 3, .inl (fun _ => iI 0))), (q8, .inl (cI, 6, .inl (fun _ => iI 0))), (q9, .inl (cI, 6, .inl (fun _ => iI 0))), (q10, .inl (cI, 6, .inl (fun _ => iI 0))), (q11, .inl (cI, 6, .inl (fun _ => iI 0))), (q12, .inl (cI, 6, .inl (fun _ => iI 0))), (q13, .inl (cI, 6, .inl (fun _ => iI 0))), (q14, .inl (cI, 6, .inl (fun _ => iI 0))), (q15, .inl (cI, 3, .inl (fun _ => iI 0))), (q16, .inl (cI, 3, .inl (fun _ => iI 0))), (q17, .inl (cI, 6, .inl (fun _ => iI 0))), (q18, .inl (cI, 6, .inl (fun _ => iI 0))), (q19, .inl (cI, 3, .inl (fun _ => iI 0))), (q20, .inl (cI, 6, .inl (fun _ => iI 0))), (q21, .inl (cI, 301, .inl (fun _ => iI 0))), (q22, .inl (cI, 8, .inl (fun _ => iI 0))), (q23, .inl (cI, 8, .inl (fun _ => iI 0))), (q24, .inl (cI, 4, .inl (fun _ => iI 0))), (q25, .inl (cI, 4, .inl (fun _ => iI 0))), (q26, .inl (cI, 240, .inl (fun _ => iI 0))), (q27, .inl (cI, 60, .inl (fun _ => iI 0)))] rfl ?_
  refine N_iconst 224 dX9_init_223 rfl ?_
  refine N_istore 225 [(1, vi 0), (0, .ref h0)] dX9_init_224 rfl rfl (by decide) rfl ?_
  refine N_iload 226 dX9_init_225 rfl rfl (List.mem_of_getElem? (i := 0) rfl) ?_
  refine N_iconst 227 dX9_init_226 rfl ?_
  refine N_ge 243 230 dX9_init_227 rfl rfl (by decide) (by decide) (fun h => absurd h (by decide)) (fun _ => ?_)
  refine N_aload 231 dX9_init_230 rfl rfl (List.mem_of_getElem? (i := 1) rfl) ?_
  refine N_getA (q := q24) 234 dX9_init_231 rfl fX9_82 rfl rfl ?_
  refine N_iload 235 dX9_init_234 rfl rfl (List.mem_of_getElem? (i := 0) rfl) ?_
  refine N_iconst 236 dX9_init_235 rfl ?_
  refine N_iast (k := 25) (N := 4) 237 _ dX9_init_236 rfl rfl (by decide) (by decide) rfl ?_
  refine N_w [(h0, .inr (9, [vi 0, vi 0, vi 0, vi 0, vi 0, .ref q0, .ref q1, .ref q2, .ref q3, .ref q4, .ref q5, .ref q6, vi 0, vi 0, vi 0, .ref q7, .ref q8, .ref q9, .ref q10, .ref q11, .ref q12, .ref q13, .ref q14, .ref q15, vi 0, vi 0, .ref q16, .ref q17, .ref q18, vi 0, .ref q19, .ref q20, .ref q21, vi 0, .ref q22, .ref q23, .ref q24, .ref q25, .ref q26, .ref q27, vi 0])), (q0, .inl (cI, 3, .inl (fun _ => iI 0))), (q1, .inl (cI, 6, .inl (fun _ => iI 0))), (q2, .inl (cI, 6, .inl (fun _ => iI 0))), (q3, .inl (cI, 6, .inl (fun _ => iI 0))), (q4, .inl (cI, 6, .inl (fun _ => iI 0))), (q5, .inl (cI, 6, .inl (fun _ => iI 0))), (q6, .inl (cI, 6, .inl (fun _ => iI 0))), (q7, .inl (cI, 3, .inl (fun _ => iI 0))), (q8, .inl (cI, 6, .inl (fun _ => iI 0))), (q9, .inl (cI, 6, .inl (fun _ => iI 0))), (q10, .inl (cI, 6, .inl (fun _ => iI 0))), (q11, .inl (cI, 6, .inl (fun _ => iI 0))), (q12, .inl (cI, 6, .inl (fun _ => iI 0))), (q13, .inl (cI, 6, .inl (fun _ => iI 0))), (q14, .inl (cI, 6, .inl (fun _ => iI 0))), (q15, .inl (cI, 3, .inl (fun _ => iI 0))), (q16, .inl (cI, 3, .inl (fun _ => iI 0))), (q17, .inl (cI, 6, .inl (fun _ => iI 0))), (q18, .inl (cI, 6, .inl (fun _ => iI 0))), (q19, .inl (cI, 3, .inl (fun _ => iI 0))), (q20, .inl (cI, 6, .inl (fun _ => iI 0))), (q21, .inl (cI, 301, .inl (fun _ => iI 0))), (q22, .inl (cI, 8, .inl (fun _ => iI 0))), (q23, .inl (cI, 8, .inl (fun _ => iI 0))), (q24, .inl (cI, 4, .inl (upd (fun _ => iI 0) 0 (iI (-1))))), (q25, .inl (cI, 4, .inl (fun _ => iI 0))), (q26, .inl (cI, 240, .inl (fun _ => iI 0))), (q27, .inl (cI, 60, .inl (fun _ => iI 0)))] rfl ?_
  refine N_iinc (k := 0) (x := 0) 240 [(1, vi (0 + 1)), (0, .ref h0)] dX9_init_237 rfl rfl (by decide) rfl ?_
  rw [show ((0 : Int) + 1) = 1 from rfl]
  refine N_goto 225 dX9_init_240 rfl ?_
  refine N_iload 226 dX9_init_225 rfl rfl (List.mem_of_getElem? (i := 0) rfl) ?_
  refine N_iconst 227 dX9_init_226 rfl ?_
  refine N_ge 243 230 dX9_init_227 rfl rfl (by decide) (by decide) (fun h => absurd h (by decide)) (fun _ => ?_)
  refine N_aload 231 dX9_init_230 rfl rfl (List.mem_of_getElem? (i := 1) rfl) ?_
  refine N_getA (q := q24) 234 dX9_init_231 rfl fX9_82 rfl rfl ?_
  refine N_iload 235 dX9_init_234 rfl rfl (List.mem_of_getElem? (i := 0) rfl) ?_
  refine N_iconst 236 dX9_init_235 rfl ?_
  refine N_iast (k := 25) (N := 4) 237 _ dX9_init_236 rfl rfl (by decide) (by decide) rfl ?_
  refine N_w [(h0, .inr (9, [vi 0, vi 0, vi 0, vi 0, vi 0, .ref q0, .ref q1, .ref q2, .ref q3, .ref q4, .ref q5, .ref q6, vi 0, vi 0, vi 0, .ref q7, .ref q8, .ref q9, .ref q10, .ref q11, .ref q12, .ref q13, .ref q14, .ref q15, vi 0, vi 0, .ref q16, .ref q17, .ref q18, vi 0, .ref q19, .ref q20, .ref q21, vi 0, .ref q22, .ref q23, .ref q24, .ref q25, .ref q26, .ref q27, vi 0])), (q0, .inl (cI, 3, .inl (fun _ => iI 0))), (q1, .inl (cI, 6, .inl (fun _ => iI 0))), (q2, .inl (cI, 6, .inl (fun _ => iI 0))), (q3, .inl (cI, 6, .inl (fun _ => iI 0))), (q4, .inl (cI, 6, .inl (fun _ => iI 0))), (q5, .inl (cI, 6, .inl (fun _ => iI 0))), (q6, .inl (cI, 6, .inl (fun _ => iI 0))), (q7, .inl (cI, 3, .inl (fun _ => iI 0))), (q8, .inl (cI, 6, .inl (fun _ => iI 0))), (q9, .inl (cI, 6, .inl (fun _ => iI 0))), (q10, .inl (cI, 6, .inl (fun _ => iI 0))), (q11, .inl (cI, 6, .inl (fun _ => iI 0))), (q12, .inl (cI, 6, .inl (fun _ => iI 0))), (q13, .inl (cI, 6, .inl (fun _ => iI 0))), (q14, .inl (cI, 6, .inl (fun _ => iI 0))), (q15, .inl (cI, 3, .inl (fun _ => iI 0))), (q16, .inl (cI, 3, .inl (fun _ => iI 0))), (q17, .inl (cI, 6, .inl (fun _ => iI 0))), (q18, .inl (cI, 6, .inl (fun _ => iI 0))), (q19, .inl (cI, 3, .inl (fun _ => iI 0))), (q20, .inl (cI, 6, .inl (fun _ => iI 0))), (q21, .inl (cI, 301, .inl (fun _ => iI 0))), (q22, .inl (cI, 8, .inl (fun _ => iI 0))), (q23, .inl (cI, 8, .inl (fun _ => iI 0))), (q24, .inl (cI, 4, .inl (upd (upd (fun _ => iI 0) 0 (iI (-1))) 1 (iI (-1))))), (q25, .inl (cI, 4, .inl (fun _ => iI 0))), (q26, .inl (cI, 240, .inl (fun _ => iI 0))), (q27, .inl (cI, 60, .inl (fun _ => iI 0)))] rfl ?_
  refine N_iinc (k := 0) (x := 1) 240 [(1, vi (1 + 1)), (0, .ref h0)] dX9_init_237 rfl rfl (by decide) rfl ?_
  rw [show ((1 : Int) + 1) = 2 from rfl]
  refine N_goto 225 dX9_init_240 rfl ?_
  refine N_iload 226 dX9_init_225 rfl rfl (List.mem_of_getElem? (i := 0) rfl) ?_
  refine N_iconst 227 dX9_init_226 rfl ?_
  refine N_ge 243 230 dX9_init_227 rfl rfl (by decide) (by decide) (fun h => absurd h (by decide)) (fun _ => ?_)
  refine N_aload 231 dX9_init_230 rfl rfl (List.mem_of_getElem? (i := 1) rfl) ?_
  refine N_getA (q := q24) 234 dX9_init_231 rfl fX9_82 rfl rfl ?_
  refine N_iload 235 dX9_init_234 rfl rfl (List.mem_of_getElem? (i := 0) rfl) ?_
  refine N_iconst 236 dX9_init_235 rfl ?_
  refine N_iast (k := 25) (N := 4) 237 _ dX9_init_236 rfl rfl (by decide) (by decide) rfl ?_
  refine N_w [(h0, .inr (9, [vi 0, vi 0, vi 0, vi 0, vi 0, .ref q0, .ref q1, .ref q2, .ref q3, .ref q4, .ref q5, .ref q6, vi 0, vi 0, vi 0, .ref q7, .ref q8, .ref q9, .ref q10, .ref q11, .ref q12, .ref q13, .ref q14, .ref q15, vi 0, vi 0, .ref q16, .ref q17, .ref q18, vi 0, .ref q19, .ref q20, .ref q21, vi 0, .ref q22, .ref q23, .ref q24, .ref q25, .ref q26, .ref q27, vi 0])), (q0, .inl (cI, 3, .inl (fun _ => iI 0))), (q1, .inl (cI, 6, .inl (fun _ => iI 0))), (q2, .inl (cI, 6, .inl (fun _ => iI 0))), (q3, .inl (cI, 6, .inl (fun _ => iI 0))), (q4, .inl (cI, 6, .inl (fun _ => iI 0))), (q5, .inl (cI, 6, .inl (fun _ => iI 0))), (q6, .inl (cI, 6, .inl (fun _ => iI 0))), (q7, .inl (cI, 3, .inl (fun _ => iI 0))), (q8, .inl (cI, 6, .inl (fun _ => iI 0))), (q9, .inl (cI, 6, .inl (fun _ => iI 0))), (q10, .inl (cI, 6, .inl (fun _ => iI 0))), (q11, .inl (cI, 6, .inl (fun _ => iI 0))), (q12, .inl (cI, 6, .inl (fun _ => iI 0))), (q13, .inl (cI, 6, .inl (fun _ => iI 0))), (q14, .inl (cI, 6, .inl (fun _ => iI 0))), (q15, .inl (cI, 3, .inl (fun _ => iI 0))), (q16, .inl (cI, 3, .inl (fun _ => iI 0))), (q17, .inl (cI, 6, .inl (fun _ => iI 0))), (q18, .inl (cI, 6, .inl (fun _ => iI 0))), (q19, .inl (cI, 3, .inl (fun _ => iI 0))), (q20, .inl (cI, 6, .inl (fun _ => iI 0))), (q21, .inl (cI, 301, .inl (fun _ => iI 0))), (q22, .inl (cI, 8, .inl (fun _ => iI 0))), (q23, .inl (cI, 8, .inl (fun _ => iI 0))), (q24, .inl (cI, 4, .inl (upd (upd (upd (fun _ => iI 0) 0 (iI (-1))) 1 (iI (-1))) 2 (iI (-1))))), (q25, .inl (cI, 4, .inl (fun _ => iI 0))), (q26, .inl (cI, 240, .inl (fun _ => iI 0))), (q27, .inl (cI, 60, .inl (fun _ => iI 0)))] rfl ?_
  refine N_iinc (k := 0) (x := 2) 240 [(1, vi (2 + 1)), (0, .ref h0)] dX9_init_237 rfl rfl (by decide) rfl ?_
  rw [show ((2 : Int) + 1) = 3 from rfl]
  refine N_goto 225 dX9_init_240 rfl ?_
  refine N_iload 226 dX9_init_225 rfl rfl (List.mem_of_getElem? (i := 0) rfl) ?_
  refine N_iconst 227 dX9_init_226 rfl ?_
  refine N_ge 243 230 dX9_init_227 rfl rfl (by decide) (by decide) (fun h => absurd h (by decide)) (fun _ => ?_)
  refine N_aload 231 dX9_init_230 rfl rfl (List.mem_of_getElem? (i := 1) rfl) ?_
  refine N_getA (q := q24) 234 dX9_init_231 rfl fX9_82 rfl rfl ?_
  refine N_iload 235 dX9_init_234 rfl rfl (List.mem_of_getElem? (i := 0) rfl) ?_
  refine N_iconst 236 dX9_init_235 rfl ?_
  refine N_iast (k := 25) (N := 4) 237 _ dX9_init_236 rfl rfl (by decide) (by decide) rfl ?_
  refine N_w [(h0, .inr (9, [vi 0, vi 0, vi 0, vi 0, vi 0, .ref q0, .ref q1, .ref q2, .ref q3, .ref q4, .ref q5, .ref q6, vi 0, vi 0, vi 0, .ref q7, .ref q8, .ref q9, .ref q10, .ref q11, .ref q12, .ref q13, .ref q14, .ref q15, vi 0, vi 0, .ref q16, .ref q17, .ref q18, vi 0, .ref q19, .ref q20, .ref q21, vi 0, .ref q22, .ref q23, .ref q24, .ref q25, .ref q26, .ref q27, vi 0])), (q0, .inl (cI, 3, .inl (fun _ => iI 0))), (q1, .inl (cI, 6, .inl (fun _ => iI 0))), (q2, .inl (cI, 6, .inl (fun _ => iI 0))), (q3, .inl (cI, 6, .inl (fun _ => iI 0))), (q4, .inl (cI, 6, .inl (fun _ => iI 0))), (q5, .inl (cI, 6, .inl (fun _ => iI 0))), (q6, .inl (cI, 6, .inl (fun _ => iI 0))), (q7, .inl (cI, 3, .inl (fun _ => iI 0))), (q8, .inl (cI, 6, .inl (fun _ => iI 0))), (q9, .inl (cI, 6, .inl (fun _ => iI 0))), (q10, .inl (cI, 6, .inl (fun _ => iI 0))), (q11, .inl (cI, 6, .inl (fun _ => iI 0))), (q12, .inl (cI, 6, .inl (fun _ => iI 0))), (q13, .inl (cI, 6, .inl (fun _ => iI 0))), (q14, .inl (cI, 6, .inl (fun _ => iI 0))), (q15, .inl (cI, 3, .inl (fun _ => iI 0))), (q16, .inl (cI, 3, .inl (fun _ => iI 0))), (q17, .inl (cI, 6, .inl (fun _ => iI 0))), (q18, .inl (cI, 6, .inl (fun _ => iI 0))), (q19, .inl (cI, 3, .inl (fun _ => iI 0))), (q20, .inl (cI, 6, .inl (fun _ => iI 0))), (q21, .inl (cI, 301, .inl (fun _ => iI 0))), (q22, .inl (cI, 8, .inl (fun _ => iI 0))), (q23, .inl (cI, 8, .inl (fun _ => iI 0))), (q24, .inl (cI, 4, .inl (upd (upd (upd (upd (fun _ => iI 0) 0 (iI (-1))) 1 (iI (-1))) 2 (iI (-1))) 3 (iI (-1))))), (q25, .inl (cI, 4, .inl (fun _ => iI 0))), (q26, .inl (cI, 240, .inl (fun _ => iI 0))), (q27, .inl (cI, 60, .inl (fun _ => iI 0)))] rfl ?_
  refine N_iinc (k := 0) (x := 3) 240 [(1, vi (3 + 1)), (0, .ref h0)] dX9_init_237 rfl rfl (by decide) rfl ?_
  rw [show ((3 : Int) + 1) = 4 from rfl]
  refine N_goto 225 dX9_init_240 rfl ?_
  refine N_iload 226 dX9_init_225 rfl rfl (List.mem_of_getElem? (i := 0) rfl) ?_
  refine N_iconst 227 dX9_init_226 rfl ?_
  refine N_ge 243 230 dX9_init_227 rfl rfl (by decide) (by decide) (fun _ => ?_) (fun h => absurd (by decide) h)
  obtain ⟨ad, had⟩ : ∃ ad : Nat → Nat, ad = fun i => [h0, q0, q1, q2, q3, q4, q5, q6, q7, q8, q9, q10, q11, q12, q13, q14, q15, q16, q17, q18, q19, q20, q21, q22, q23, q24, q25, q26, q27].getD (i - 36) 0 := ⟨_, rfl⟩
  refine N_eqv (k := 25) (a := q24) (.inl (cI, 4, .inl (fun _ => iI (-1)))) rfl (fun H h => ?_) ?_
  · refine at_congi (fun j hj => ?_) h
    rcases (show j = 0 ∨ j = 1 ∨ j = 2 ∨ j = 3 by omega) with rfl | rfl | rfl | rfl <;> rfl
  · refine N_ret dX9_init_243 rfl (by decide) (by decide) ⟨ad, by rw [had]; rfl, ?_⟩
    subst had
    rfl
end CT9
